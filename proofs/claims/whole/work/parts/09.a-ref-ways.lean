/-! THE REFERENCE: METHODS OF THE FACE THAT ASK FOR WAYS -/
theorem i10 (a b : Nat) : (10 : Int32) * nI a + nI b = nI (10 * a + b) := by
  show nI 10 * nI a + nI b = _
  rw [pk_mul, nI_add]
noncomputable def hr (S : jS) (i n : Nat) : Int32 × Int32 × Int32 := (List.range n).foldl (hv1 S i) (-1, -1, 0)
theorem hr_s (S : jS) (i n : Nat) : hr S i (n + 1) = hv1 S i (hr S i n) n := by
  unfold hr
  rw [List.range_succ, List.foldl_append]
  rfl
theorem z35f {μ μ' : jM} (h : mI μ 20 0 35 = nI 0) (hO : oG fQ μ μ') : mI μ' 20 0 35 = nI 0 := (hO.2 20 0 35 (by unfold fQ gQ; omega)).trans h

set_option maxRecDepth 20000 in
theorem c_X6_quality {l : Launch} (hst : l.stackTraces = false) (S : jS) (a b : Int32) : jMet l yX6_quality cX6_quality 3 (some FieldType.int) 10 260 0 0 (fun avs μ => avs = [aR 20 0, aI a, aI b] ∧ mR S μ ∧ sW S) (fun avs μ r μ' => mret (o_quality S a b) kA r μ μ') (fun avs μ E μ' => False) := by
  refine jMet_of hst (by decide) ?_
  intro avs μ J C hav hpre
  obtain ⟨rfl, hR, hW⟩ := hpre
  refine ⟨Nat.le_of_ble_eq_true rfl, ?_⟩
  show J 0 [some (aR 20 0), some (aI a), some (aI b)] [] μ 0 0
  have hW0 := hW.1.1
  have hW1 := hW.1.2
  refine mj_iload_n (pc' := 1) C dX6_quality_0 rfl rfl ?_
  refine mj_callSN_1 (pc' := 4) C (c_X6_isNoFormat hst a) dX6_quality_1 rfl km_X6_146 ks_yX6_isNoFormat kn_X6 kc_yX6_isNoFormat ⟨by decide, by decide, by decide +kernel⟩ ⟨by decide, by decide⟩ (Nat.le_of_ble_eq_true rfl) ⟨by decide, by decide⟩ rfl (fun r1 μ1 hq1 hm1 => ?_) (fun _ _ h9 => h9)
  obtain ⟨rfl, hq9⟩ := hq1
  have hq9 := hq9.symm
  subst hq9
  dsimp only [Option.toList, List.nil_append, List.cons_append]
  refine mj_if_ne (tgt := 14) (pc' := 7) C dX6_quality_4 (by decide) rfl (fun h4 => ?_) (fun h4 => ?_)
  · have ho : o_quality S a b = (1, 0, S) := by unfold o_quality; rw [if_pos (Or.inl (b1_n h4))]
    refine mj_aload_n (pc' := 15) C dX6_quality_14 rfl rfl ?_
    refine mj_iconst (pc' := 16) (v := 1) C dX6_quality_15 rfl rfl ?_
    refine mj_callVN_1 (ci := 6) (pc' := 19) C (c_X6_fails hst S 1) dX6_quality_16 rfl km_X6_150 ki_yX6_fails kz_yX6_fails kn_X6 kc_yX6_fails rfl (by decide) (by decide) ⟨rfl, by decide, by decide, by decide +kernel⟩ ⟨by decide, by decide⟩ (Nat.le_of_ble_eq_true rfl) ⟨by decide, by decide⟩ ⟨rfl, hR⟩ (fun r16 μ16 hq16 hm16 => ?_) (fun _ _ h9 => h9)
    obtain ⟨rfl, hq9⟩ := hq16
    have hq9 := hq9.symm
    subst hq9
    dsimp only [Option.toList, List.nil_append, List.cons_append]
    refine mj_iret C dX6_quality_19 (by decide) (by decide) (by decide) ?_
    exact mfail ho rfl (by decide) rfl rfl (mR_x hR (Or.inl ⟨rfl, rfl⟩)) mF.rf
  · have hb1 := b1_0.mp h4
    obtain ⟨i, hi, rfl, ei⟩ := bad_of hb1 (by decide)
    refine mj_iload_n (pc' := 8) C dX6_quality_7 rfl rfl ?_
    refine mj_callSN_1 (pc' := 11) C (c_X6_isNoFormat hst b) dX6_quality_8 rfl km_X6_146 ks_yX6_isNoFormat kn_X6 kc_yX6_isNoFormat ⟨by decide, by decide, by decide +kernel⟩ ⟨by decide, by decide⟩ (Nat.le_of_ble_eq_true rfl) ⟨by decide, by decide⟩ rfl (fun r8 μ8 hq8 hm8 => ?_) (fun _ _ h9 => h9)
    obtain ⟨rfl, hq9⟩ := hq8
    have hq9 := hq9.symm
    subst hq9
    dsimp only [Option.toList, List.nil_append, List.cons_append]
    refine mj_if_eq (tgt := 20) (pc' := 14) C dX6_quality_11 (by decide) rfl (fun h11 => ?_) (fun h11 => ?_)
    · have hb2 := b1_0.mp h11
      obtain ⟨j, hj, rfl, ej⟩ := bad_of hb2 (by decide)
      refine mj_aload_n (pc' := 21) C dX6_quality_20 rfl rfl ?_
      refine mj_iconst (pc' := 22) (v := 0) C dX6_quality_21 rfl rfl ?_
      refine mj_putI (pc' := 25) C dX6_quality_22 rfl (ci := 6) (f := 35) rfl (by decide) (by decide) rfl (fun _ _ => rfl) (by decide) kf_X6_105 rfl rfl hR.B.l0 ?_
      have hR := mR_x (kd := 20) (i := 0) (z := 35) (v := 0) hR (Or.inl ⟨rfl, rfl⟩)
      refine mj_aload_n (pc' := 26) C dX6_quality_25 rfl rfl ?_
      refine mj_callVN_0 (ci := 6) (pc' := 29) C (c_X6_find hst S) dX6_quality_26 rfl km_X6_157 ki_yX6_find kz_yX6_find kn_X6 kc_yX6_find rfl (by decide) (by decide) ⟨rfl, by decide, by decide, by decide +kernel⟩ ⟨by decide, by decide⟩ (Nat.le_of_ble_eq_true rfl) ⟨by decide, by decide⟩ ⟨rfl, hR, hW⟩ (fun r26 μ26 hq26 hm26 => ?_) (fun _ _ h9 => h9)
      obtain ⟨rfl, hR26, hO26, h126⟩ := hq26
      dsimp only [Option.toList, List.nil_append, List.cons_append]
      have hR := hR26
      refine mj_aload_n (pc' := 30) C dX6_quality_29 rfl rfl ?_
      refine mj_getR (pc' := 33) C dX6_quality_30 rfl (ci := 6) (f := 19) rfl (by decide) (by decide) (fun _ => rfl) (by decide) kf_X6_68 hR.B.l0 (hR.B.p 19 (by decide) rfl) ?_
      refine mj_bipush (pc' := 35) (v := 10) C dX6_quality_33 rfl rfl ?_
      refine mj_iload_n (pc' := 36) C dX6_quality_35 rfl rfl ?_
      refine mj_imul (pc' := 37) C dX6_quality_36 rfl ?_
      refine mj_iload_n (pc' := 38) C dX6_quality_37 rfl rfl ?_
      refine mj_iadd (pc' := 39) C dX6_quality_38 rfl ?_
      rw [i10]
      refine mj_ialdV (pc' := 40) C dX6_quality_39 rfl rfl (by decide) (by decide) (hR.B.l 19 (by decide) rfl) rfl (by omega) ((hR.tab h126 hi) j hj).1 ?_
      refine mj_iret C dX6_quality_40 (by decide) (by decide) (by decide) ?_
      exact mret_of (o := o_quality S (nI i) (nI j)) (by unfold o_quality; rw [if_neg (fun h => h.elim hb1 hb2), ei, ej]) (z35f z35 hO26) hR ((mF_sI (by decide) mF.rf).tr hO26.f2)
    · have ho : o_quality S (nI i) b = (1, 0, S) := by unfold o_quality; rw [if_pos (Or.inr (b1_n h11))]
      refine mj_aload_n (pc' := 15) C dX6_quality_14 rfl rfl ?_
      refine mj_iconst (pc' := 16) (v := 1) C dX6_quality_15 rfl rfl ?_
      refine mj_callVN_1 (ci := 6) (pc' := 19) C (c_X6_fails hst S 1) dX6_quality_16 rfl km_X6_150 ki_yX6_fails kz_yX6_fails kn_X6 kc_yX6_fails rfl (by decide) (by decide) ⟨rfl, by decide, by decide, by decide +kernel⟩ ⟨by decide, by decide⟩ (Nat.le_of_ble_eq_true rfl) ⟨by decide, by decide⟩ ⟨rfl, hR⟩ (fun r16 μ16 hq16 hm16 => ?_) (fun _ _ h9 => h9)
      obtain ⟨rfl, hq9⟩ := hq16
      have hq9 := hq9.symm
      subst hq9
      dsimp only [Option.toList, List.nil_append, List.cons_append]
      refine mj_iret C dX6_quality_19 (by decide) (by decide) (by decide) ?_
      exact mfail ho rfl (by decide) rfl rfl (mR_x hR (Or.inl ⟨rfl, rfl⟩)) mF.rf

set_option maxRecDepth 20000 in
theorem c_X6_cost {l : Launch} (hst : l.stackTraces = false) (S : jS) (a b : Int32) : jMet l yX6_cost cX6_cost 3 (some FieldType.int) 10 260 0 0 (fun avs μ => avs = [aR 20 0, aI a, aI b] ∧ mR S μ ∧ sW S) (fun avs μ r μ' => mret (o_cost S a b) kA r μ μ') (fun avs μ E μ' => False) := by
  refine jMet_of hst (by decide) ?_
  intro avs μ J C hav hpre
  obtain ⟨rfl, hR, hW⟩ := hpre
  refine ⟨Nat.le_of_ble_eq_true rfl, ?_⟩
  show J 0 [some (aR 20 0), some (aI a), some (aI b)] [] μ 0 0
  have hW0 := hW.1.1
  have hW1 := hW.1.2
  refine mj_iload_n (pc' := 1) C dX6_cost_0 rfl rfl ?_
  refine mj_callSN_1 (pc' := 4) C (c_X6_isNoFormat hst a) dX6_cost_1 rfl km_X6_146 ks_yX6_isNoFormat kn_X6 kc_yX6_isNoFormat ⟨by decide, by decide, by decide +kernel⟩ ⟨by decide, by decide⟩ (Nat.le_of_ble_eq_true rfl) ⟨by decide, by decide⟩ rfl (fun r1 μ1 hq1 hm1 => ?_) (fun _ _ h9 => h9)
  obtain ⟨rfl, hq9⟩ := hq1
  have hq9 := hq9.symm
  subst hq9
  dsimp only [Option.toList, List.nil_append, List.cons_append]
  refine mj_if_ne (tgt := 14) (pc' := 7) C dX6_cost_4 (by decide) rfl (fun h4 => ?_) (fun h4 => ?_)
  · have ho : o_cost S a b = (1, 0, S) := by unfold o_cost; rw [if_pos (Or.inl (b1_n h4))]
    refine mj_aload_n (pc' := 15) C dX6_cost_14 rfl rfl ?_
    refine mj_iconst (pc' := 16) (v := 1) C dX6_cost_15 rfl rfl ?_
    refine mj_callVN_1 (ci := 6) (pc' := 19) C (c_X6_fails hst S 1) dX6_cost_16 rfl km_X6_150 ki_yX6_fails kz_yX6_fails kn_X6 kc_yX6_fails rfl (by decide) (by decide) ⟨rfl, by decide, by decide, by decide +kernel⟩ ⟨by decide, by decide⟩ (Nat.le_of_ble_eq_true rfl) ⟨by decide, by decide⟩ ⟨rfl, hR⟩ (fun r16 μ16 hq16 hm16 => ?_) (fun _ _ h9 => h9)
    obtain ⟨rfl, hq9⟩ := hq16
    have hq9 := hq9.symm
    subst hq9
    dsimp only [Option.toList, List.nil_append, List.cons_append]
    refine mj_iret C dX6_cost_19 (by decide) (by decide) (by decide) ?_
    exact mfail ho rfl (by decide) rfl rfl (mR_x hR (Or.inl ⟨rfl, rfl⟩)) mF.rf
  · have hb1 := b1_0.mp h4
    obtain ⟨i, hi, rfl, ei⟩ := bad_of hb1 (by decide)
    refine mj_iload_n (pc' := 8) C dX6_cost_7 rfl rfl ?_
    refine mj_callSN_1 (pc' := 11) C (c_X6_isNoFormat hst b) dX6_cost_8 rfl km_X6_146 ks_yX6_isNoFormat kn_X6 kc_yX6_isNoFormat ⟨by decide, by decide, by decide +kernel⟩ ⟨by decide, by decide⟩ (Nat.le_of_ble_eq_true rfl) ⟨by decide, by decide⟩ rfl (fun r8 μ8 hq8 hm8 => ?_) (fun _ _ h9 => h9)
    obtain ⟨rfl, hq9⟩ := hq8
    have hq9 := hq9.symm
    subst hq9
    dsimp only [Option.toList, List.nil_append, List.cons_append]
    refine mj_if_eq (tgt := 20) (pc' := 14) C dX6_cost_11 (by decide) rfl (fun h11 => ?_) (fun h11 => ?_)
    · have hb2 := b1_0.mp h11
      obtain ⟨j, hj, rfl, ej⟩ := bad_of hb2 (by decide)
      refine mj_aload_n (pc' := 21) C dX6_cost_20 rfl rfl ?_
      refine mj_iconst (pc' := 22) (v := 0) C dX6_cost_21 rfl rfl ?_
      refine mj_putI (pc' := 25) C dX6_cost_22 rfl (ci := 6) (f := 35) rfl (by decide) (by decide) rfl (fun _ _ => rfl) (by decide) kf_X6_105 rfl rfl hR.B.l0 ?_
      have hR := mR_x (kd := 20) (i := 0) (z := 35) (v := 0) hR (Or.inl ⟨rfl, rfl⟩)
      refine mj_aload_n (pc' := 26) C dX6_cost_25 rfl rfl ?_
      refine mj_callVN_0 (ci := 6) (pc' := 29) C (c_X6_find hst S) dX6_cost_26 rfl km_X6_157 ki_yX6_find kz_yX6_find kn_X6 kc_yX6_find rfl (by decide) (by decide) ⟨rfl, by decide, by decide, by decide +kernel⟩ ⟨by decide, by decide⟩ (Nat.le_of_ble_eq_true rfl) ⟨by decide, by decide⟩ ⟨rfl, hR, hW⟩ (fun r26 μ26 hq26 hm26 => ?_) (fun _ _ h9 => h9)
      obtain ⟨rfl, hR26, hO26, h126⟩ := hq26
      dsimp only [Option.toList, List.nil_append, List.cons_append]
      have hR := hR26
      refine mj_aload_n (pc' := 30) C dX6_cost_29 rfl rfl ?_
      refine mj_getR (pc' := 33) C dX6_cost_30 rfl (ci := 6) (f := 20) rfl (by decide) (by decide) (fun _ => rfl) (by decide) kf_X6_71 hR.B.l0 (hR.B.p 20 (by decide) rfl) ?_
      refine mj_bipush (pc' := 35) (v := 10) C dX6_cost_33 rfl rfl ?_
      refine mj_iload_n (pc' := 36) C dX6_cost_35 rfl rfl ?_
      refine mj_imul (pc' := 37) C dX6_cost_36 rfl ?_
      refine mj_iload_n (pc' := 38) C dX6_cost_37 rfl rfl ?_
      refine mj_iadd (pc' := 39) C dX6_cost_38 rfl ?_
      rw [i10]
      refine mj_ialdV (pc' := 40) C dX6_cost_39 rfl rfl (by decide) (by decide) (hR.B.l 20 (by decide) rfl) rfl (by omega) ((hR.tab h126 hi) j hj).2.1 ?_
      refine mj_iret C dX6_cost_40 (by decide) (by decide) (by decide) ?_
      exact mret_of (o := o_cost S (nI i) (nI j)) (by unfold o_cost; rw [if_neg (fun h => h.elim hb1 hb2), ei, ej]) (z35f z35 hO26) hR ((mF_sI (by decide) mF.rf).tr hO26.f2)
    · have ho : o_cost S (nI i) b = (1, 0, S) := by unfold o_cost; rw [if_pos (Or.inr (b1_n h11))]
      refine mj_aload_n (pc' := 15) C dX6_cost_14 rfl rfl ?_
      refine mj_iconst (pc' := 16) (v := 1) C dX6_cost_15 rfl rfl ?_
      refine mj_callVN_1 (ci := 6) (pc' := 19) C (c_X6_fails hst S 1) dX6_cost_16 rfl km_X6_150 ki_yX6_fails kz_yX6_fails kn_X6 kc_yX6_fails rfl (by decide) (by decide) ⟨rfl, by decide, by decide, by decide +kernel⟩ ⟨by decide, by decide⟩ (Nat.le_of_ble_eq_true rfl) ⟨by decide, by decide⟩ ⟨rfl, hR⟩ (fun r16 μ16 hq16 hm16 => ?_) (fun _ _ h9 => h9)
      obtain ⟨rfl, hq9⟩ := hq16
      have hq9 := hq9.symm
      subst hq9
      dsimp only [Option.toList, List.nil_append, List.cons_append]
      refine mj_iret C dX6_cost_19 (by decide) (by decide) (by decide) ?_
      exact mfail ho rfl (by decide) rfl rfl (mR_x hR (Or.inl ⟨rfl, rfl⟩)) mF.rf

set_option maxRecDepth 20000 in
theorem c_X6_qualityByAll {l : Launch} (hst : l.stackTraces = false) (S : jS) (a b : Int32) : jMet l yX6_qualityByAll cX6_qualityByAll 3 (some FieldType.int) 9 220 0 0 (fun avs μ => avs = [aR 20 0, aI a, aI b] ∧ mR S μ ∧ sW S) (fun avs μ r μ' => mret (o_byAll S a b) kA r μ μ') (fun avs μ E μ' => False) := by
  refine jMet_of hst (by decide) ?_
  intro avs μ J C hav hpre
  obtain ⟨rfl, hR, hW⟩ := hpre
  refine ⟨Nat.le_of_ble_eq_true rfl, ?_⟩
  show J 0 [some (aR 20 0), some (aI a), some (aI b)] [] μ 0 0
  have hW0 := hW.1.1
  have hW1 := hW.1.2
  refine mj_iload_n (pc' := 1) C dX6_qualityByAll_0 rfl rfl ?_
  refine mj_callSN_1 (pc' := 4) C (c_X6_isNoFormat hst a) dX6_qualityByAll_1 rfl km_X6_146 ks_yX6_isNoFormat kn_X6 kc_yX6_isNoFormat ⟨by decide, by decide, by decide +kernel⟩ ⟨by decide, by decide⟩ (Nat.le_of_ble_eq_true rfl) ⟨by decide, by decide⟩ rfl (fun r1 μ1 hq1 hm1 => ?_) (fun _ _ h9 => h9)
  obtain ⟨rfl, hq9⟩ := hq1
  have hq9 := hq9.symm
  subst hq9
  dsimp only [Option.toList, List.nil_append, List.cons_append]
  refine mj_if_ne (tgt := 14) (pc' := 7) C dX6_qualityByAll_4 (by decide) rfl (fun h4 => ?_) (fun h4 => ?_)
  · have ho : o_byAll S a b = (1, 0, S) := by unfold o_byAll; rw [if_pos (Or.inl (b1_n h4))]
    refine mj_aload_n (pc' := 15) C dX6_qualityByAll_14 rfl rfl ?_
    refine mj_iconst (pc' := 16) (v := 1) C dX6_qualityByAll_15 rfl rfl ?_
    refine mj_callVN_1 (ci := 6) (pc' := 19) C (c_X6_fails hst S 1) dX6_qualityByAll_16 rfl km_X6_150 ki_yX6_fails kz_yX6_fails kn_X6 kc_yX6_fails rfl (by decide) (by decide) ⟨rfl, by decide, by decide, by decide +kernel⟩ ⟨by decide, by decide⟩ (Nat.le_of_ble_eq_true rfl) ⟨by decide, by decide⟩ ⟨rfl, hR⟩ (fun r16 μ16 hq16 hm16 => ?_) (fun _ _ h9 => h9)
    obtain ⟨rfl, hq9⟩ := hq16
    have hq9 := hq9.symm
    subst hq9
    dsimp only [Option.toList, List.nil_append, List.cons_append]
    refine mj_iret C dX6_qualityByAll_19 (by decide) (by decide) (by decide) ?_
    exact mfail ho rfl (by decide) rfl rfl (mR_x hR (Or.inl ⟨rfl, rfl⟩)) mF.rf
  · have hb1 := b1_0.mp h4
    obtain ⟨i, hi, rfl, ei⟩ := bad_of hb1 (by decide)
    refine mj_iload_n (pc' := 8) C dX6_qualityByAll_7 rfl rfl ?_
    refine mj_callSN_1 (pc' := 11) C (c_X6_isNoFormat hst b) dX6_qualityByAll_8 rfl km_X6_146 ks_yX6_isNoFormat kn_X6 kc_yX6_isNoFormat ⟨by decide, by decide, by decide +kernel⟩ ⟨by decide, by decide⟩ (Nat.le_of_ble_eq_true rfl) ⟨by decide, by decide⟩ rfl (fun r8 μ8 hq8 hm8 => ?_) (fun _ _ h9 => h9)
    obtain ⟨rfl, hq9⟩ := hq8
    have hq9 := hq9.symm
    subst hq9
    dsimp only [Option.toList, List.nil_append, List.cons_append]
    refine mj_if_eq (tgt := 20) (pc' := 14) C dX6_qualityByAll_11 (by decide) rfl (fun h11 => ?_) (fun h11 => ?_)
    · have hb2 := b1_0.mp h11
      obtain ⟨j, hj, rfl, ej⟩ := bad_of hb2 (by decide)
      refine mj_aload_n (pc' := 21) C dX6_qualityByAll_20 rfl rfl ?_
      refine mj_iconst (pc' := 22) (v := 0) C dX6_qualityByAll_21 rfl rfl ?_
      refine mj_putI (pc' := 25) C dX6_qualityByAll_22 rfl (ci := 6) (f := 35) rfl (by decide) (by decide) rfl (fun _ _ => rfl) (by decide) kf_X6_105 rfl rfl hR.B.l0 ?_
      have hR := mR_x (kd := 20) (i := 0) (z := 35) (v := 0) hR (Or.inl ⟨rfl, rfl⟩)
      refine mj_aload_n (pc' := 26) C dX6_qualityByAll_25 rfl rfl ?_
      refine mj_iload_n (pc' := 27) C dX6_qualityByAll_26 rfl rfl ?_
      refine mj_iload_n (pc' := 28) C dX6_qualityByAll_27 rfl rfl ?_
      refine mj_callVN_2 (ci := 6) (pc' := 31) C (c_X6_goAll hst S (some j) (fun _ => none) i (nI j)) dX6_qualityByAll_28 rfl km_X6_136 ki_yX6_goAll kz_yX6_goAll kn_X6 kc_yX6_goAll rfl (by decide) (by decide) ⟨rfl, by decide, by decide, by decide +kernel⟩ ⟨by decide, by decide⟩ (Nat.le_of_ble_eq_true rfl) ⟨by decide, by decide⟩ ⟨rfl, hR.C, hW, hi, Or.inr ⟨j, hj, rfl, rfl⟩, (fun x hx => hR.on hx), (fun h => by cases h)⟩ (fun r28 μ28 hq28 hm28 => ?_) (fun _ _ h9 => h9)
      obtain ⟨rfl, hO28, hz28, hT28⟩ := hq28
      dsimp only [Option.toList, List.nil_append, List.cons_append]
      refine mj_iret C dX6_qualityByAll_31 (by decide) (by decide) (by decide) ?_
      refine mret_of (o := o_byAll S (nI i) (nI j)) (by unfold o_byAll; rw [if_neg (fun h => h.elim hb1 hb2), ei, ej, cmb_some]) ((hO28.2 20 0 35 (by unfold zQ tQ; omega)).trans z35) (mR.mk (hR.C.to (hO28.up (fun _ _ _ q => zQ_g q))) ?_ hz28) ((mF_sI (by decide) mF.rf).tr (hO28.up (fun _ _ _ q => zQ_g q)).f)
      have k0 : ∀ kd z, kd < 44 → mI μ28 kd 0 z = mI (sI _ 20 0 35 0) kd 0 z := fun kd z h => hO28.2 kd 0 z (by
        rintro (q | q | q)
        · cases q.1
        · omega
        · omega)
      rw [k0 20 34 (by omega)]
      exact hR.found.imp id (fun q => ⟨q.1, fun x hx => mTab_same (q.2 x hx) (fun kd z hq => k0 kd z (by unfold tQ at hq; omega))⟩)
    · have ho : o_byAll S (nI i) b = (1, 0, S) := by unfold o_byAll; rw [if_pos (Or.inr (b1_n h11))]
      refine mj_aload_n (pc' := 15) C dX6_qualityByAll_14 rfl rfl ?_
      refine mj_iconst (pc' := 16) (v := 1) C dX6_qualityByAll_15 rfl rfl ?_
      refine mj_callVN_1 (ci := 6) (pc' := 19) C (c_X6_fails hst S 1) dX6_qualityByAll_16 rfl km_X6_150 ki_yX6_fails kz_yX6_fails kn_X6 kc_yX6_fails rfl (by decide) (by decide) ⟨rfl, by decide, by decide, by decide +kernel⟩ ⟨by decide, by decide⟩ (Nat.le_of_ble_eq_true rfl) ⟨by decide, by decide⟩ ⟨rfl, hR⟩ (fun r16 μ16 hq16 hm16 => ?_) (fun _ _ h9 => h9)
      obtain ⟨rfl, hq9⟩ := hq16
      have hq9 := hq9.symm
      subst hq9
      dsimp only [Option.toList, List.nil_append, List.cons_append]
      refine mj_iret C dX6_qualityByAll_19 (by decide) (by decide) (by decide) ?_
      exact mfail ho rfl (by decide) rfl rfl (mR_x hR (Or.inl ⟨rfl, rfl⟩)) mF.rf

set_option maxRecDepth 20000 in
theorem c_X6_stepAt {l : Launch} (hst : l.stackTraces = false) (S : jS) (a b p : Int32) : jMet l yX6_stepAt cX6_stepAt 5 (some FieldType.int) 10 260 0 0 (fun avs μ => avs = [aR 20 0, aI a, aI b, aI p] ∧ mR S μ ∧ sW S) (fun avs μ r μ' => mret (o_stepAt S a b p) kA r μ μ') (fun avs μ E μ' => False) := by
  refine jMet_of hst (by decide) ?_
  intro avs μ J C hav hpre
  obtain ⟨rfl, hR, hW⟩ := hpre
  refine ⟨Nat.le_of_ble_eq_true rfl, ?_⟩
  show J 0 [some (aR 20 0), some (aI a), some (aI b), some (aI p), none] [] μ 0 0
  have hW0 := hW.1.1
  have hW1 := hW.1.2
  refine mj_iload_n (pc' := 1) C dX6_stepAt_0 rfl rfl ?_
  refine mj_callSN_1 (pc' := 4) C (c_X6_isNoFormat hst a) dX6_stepAt_1 rfl km_X6_146 ks_yX6_isNoFormat kn_X6 kc_yX6_isNoFormat ⟨by decide, by decide, by decide +kernel⟩ ⟨by decide, by decide⟩ (Nat.le_of_ble_eq_true rfl) ⟨by decide, by decide⟩ rfl (fun r1 μ1 hq1 hm1 => ?_) (fun _ _ h9 => h9)
  obtain ⟨rfl, hq9⟩ := hq1
  have hq9 := hq9.symm
  subst hq9
  dsimp only [Option.toList, List.nil_append, List.cons_append]
  refine mj_if_ne (tgt := 18) (pc' := 7) C dX6_stepAt_4 (by decide) rfl (fun h4 => ?_) (fun h4 => ?_)
  · have ho : o_stepAt S a b p = (1, 0, S) := by unfold o_stepAt; rw [if_pos (Or.inl (b1_n h4))]
    refine mj_aload_n (pc' := 19) C dX6_stepAt_18 rfl rfl ?_
    refine mj_iconst (pc' := 20) (v := 1) C dX6_stepAt_19 rfl rfl ?_
    refine mj_callVN_1 (ci := 6) (pc' := 23) C (c_X6_fails hst S 1) dX6_stepAt_20 rfl km_X6_150 ki_yX6_fails kz_yX6_fails kn_X6 kc_yX6_fails rfl (by decide) (by decide) ⟨rfl, by decide, by decide, by decide +kernel⟩ ⟨by decide, by decide⟩ (Nat.le_of_ble_eq_true rfl) ⟨by decide, by decide⟩ ⟨rfl, hR⟩ (fun r20 μ20 hq20 hm20 => ?_) (fun _ _ h9 => h9)
    obtain ⟨rfl, hq9⟩ := hq20
    have hq9 := hq9.symm
    subst hq9
    dsimp only [Option.toList, List.nil_append, List.cons_append]
    refine mj_iret C dX6_stepAt_23 (by decide) (by decide) (by decide) ?_
    exact mfail ho rfl (by decide) rfl rfl (mR_x hR (Or.inl ⟨rfl, rfl⟩)) mF.rf
  · have hb1 := b1_0.mp h4
    obtain ⟨i, hi, rfl, ei⟩ := bad_of hb1 (by decide)
    refine mj_iload_n (pc' := 8) C dX6_stepAt_7 rfl rfl ?_
    refine mj_callSN_1 (pc' := 11) C (c_X6_isNoFormat hst b) dX6_stepAt_8 rfl km_X6_146 ks_yX6_isNoFormat kn_X6 kc_yX6_isNoFormat ⟨by decide, by decide, by decide +kernel⟩ ⟨by decide, by decide⟩ (Nat.le_of_ble_eq_true rfl) ⟨by decide, by decide⟩ rfl (fun r8 μ8 hq8 hm8 => ?_) (fun _ _ h9 => h9)
    obtain ⟨rfl, hq9⟩ := hq8
    have hq9 := hq9.symm
    subst hq9
    dsimp only [Option.toList, List.nil_append, List.cons_append]
    refine mj_if_ne (tgt := 18) (pc' := 14) C dX6_stepAt_11 (by decide) rfl (fun h11 => ?_) (fun h11 => ?_)
    · have ho : o_stepAt S (nI i) b p = (1, 0, S) := by unfold o_stepAt; rw [if_pos (Or.inr (Or.inl (b1_n h11)))]
      refine mj_aload_n (pc' := 19) C dX6_stepAt_18 rfl rfl ?_
      refine mj_iconst (pc' := 20) (v := 1) C dX6_stepAt_19 rfl rfl ?_
      refine mj_callVN_1 (ci := 6) (pc' := 23) C (c_X6_fails hst S 1) dX6_stepAt_20 rfl km_X6_150 ki_yX6_fails kz_yX6_fails kn_X6 kc_yX6_fails rfl (by decide) (by decide) ⟨rfl, by decide, by decide, by decide +kernel⟩ ⟨by decide, by decide⟩ (Nat.le_of_ble_eq_true rfl) ⟨by decide, by decide⟩ ⟨rfl, hR⟩ (fun r20 μ20 hq20 hm20 => ?_) (fun _ _ h9 => h9)
      obtain ⟨rfl, hq9⟩ := hq20
      have hq9 := hq9.symm
      subst hq9
      dsimp only [Option.toList, List.nil_append, List.cons_append]
      refine mj_iret C dX6_stepAt_23 (by decide) (by decide) (by decide) ?_
      exact mfail ho rfl (by decide) rfl rfl (mR_x hR (Or.inl ⟨rfl, rfl⟩)) mF.rf
    · have hb2 := b1_0.mp h11
      obtain ⟨j, hj, rfl, ej⟩ := bad_of hb2 (by decide)
      refine mj_iload_n (pc' := 15) C dX6_stepAt_14 rfl rfl ?_
      refine mj_if_ge (tgt := 24) (pc' := 18) C dX6_stepAt_15 (by decide) rfl (fun h15 => ?_) (fun h15 => ?_)
      · refine mj_aload_n (pc' := 25) C dX6_stepAt_24 rfl rfl ?_
        refine mj_iconst (pc' := 26) (v := 0) C dX6_stepAt_25 rfl rfl ?_
        refine mj_putI (pc' := 29) C dX6_stepAt_26 rfl (ci := 6) (f := 35) rfl (by decide) (by decide) rfl (fun _ _ => rfl) (by decide) kf_X6_105 rfl rfl hR.B.l0 ?_
        have hR := mR_x (kd := 20) (i := 0) (z := 35) (v := 0) hR (Or.inl ⟨rfl, rfl⟩)
        refine mj_aload_n (pc' := 30) C dX6_stepAt_29 rfl rfl ?_
        refine mj_callVN_0 (ci := 6) (pc' := 33) C (c_X6_find hst S) dX6_stepAt_30 rfl km_X6_157 ki_yX6_find kz_yX6_find kn_X6 kc_yX6_find rfl (by decide) (by decide) ⟨rfl, by decide, by decide, by decide +kernel⟩ ⟨by decide, by decide⟩ (Nat.le_of_ble_eq_true rfl) ⟨by decide, by decide⟩ ⟨rfl, hR, hW⟩ (fun r30 μ30 hq30 hm30 => ?_) (fun _ _ h9 => h9)
        obtain ⟨rfl, hR30, hO30, h130⟩ := hq30
        dsimp only [Option.toList, List.nil_append, List.cons_append]
        have hR := hR30
        refine mj_bipush (pc' := 35) (v := 10) C dX6_stepAt_33 rfl rfl ?_
        refine mj_iload_n (pc' := 36) C dX6_stepAt_35 rfl rfl ?_
        refine mj_imul (pc' := 37) C dX6_stepAt_36 rfl ?_
        refine mj_iload_n (pc' := 38) C dX6_stepAt_37 rfl rfl ?_
        refine mj_iadd (pc' := 39) C dX6_stepAt_38 rfl ?_
        rw [i10]
        refine mj_istore_4 (pc' := 41) C dX6_stepAt_39 rfl (by decide) rfl ?_
        refine mj_aload_n (pc' := 42) C dX6_stepAt_41 rfl rfl ?_
        refine mj_getR (pc' := 45) C dX6_stepAt_42 rfl (ci := 6) (f := 19) rfl (by decide) (by decide) (fun _ => rfl) (by decide) kf_X6_68 hR.B.l0 (hR.B.p 19 (by decide) rfl) ?_
        refine mj_iload (pc' := 47) C dX6_stepAt_45 rfl rfl ?_
        refine mj_ialdV (pc' := 48) C dX6_stepAt_47 rfl rfl (by decide) (by decide) (hR.B.l 19 (by decide) rfl) rfl (by omega) ((hR.tab h130 hi) j hj).1 ?_
        refine mj_iconst (pc' := 49) (v := (-1)) C dX6_stepAt_48 rfl rfl ?_
        refine mj_icmp_eq (tgt := 63) (pc' := 52) C dX6_stepAt_49 (by decide) rfl (fun h49 => ?_) (fun h49 => ?_)
        · have hbn : (bw (best S i j)).length = 0 := by
            cases hb9 : best S i j with
            | none => rfl
            | some e =>
              rw [hb9] at h49
              obtain ⟨w, rfl, hv⟩ := best_of hW hb9
              exact absurd h49 (nI_m1 (by have := qN_le S w 1000; omega))
          have hv : o_stepAt S (nI i) (nI j) p = (0, -1, S) := by unfold o_stepAt; rw [if_neg (fun h => h.elim hb1 (fun h => h.elim hb2 (fun h => absurd h (Int32.not_lt.mpr h15)))), ei, ej, if_neg (by rw [hbn]; exact Int32.not_lt.mpr h15)]
          refine mj_iconst (pc' := 64) (v := (-1)) C dX6_stepAt_63 rfl rfl ?_
          refine mj_goto (pc' := 79) C dX6_stepAt_64 (by decide) ?_
          refine mj_iret C dX6_stepAt_79 (by decide) (by decide) (by decide) ?_
          exact mret_of hv (z35f z35 hO30) hR ((mF_sI (by decide) mF.rf).tr hO30.f2)
        · refine mj_iload_n (pc' := 53) C dX6_stepAt_52 rfl rfl ?_
          refine mj_aload_n (pc' := 54) C dX6_stepAt_53 rfl rfl ?_
          refine mj_getR (pc' := 57) C dX6_stepAt_54 rfl (ci := 6) (f := 21) rfl (by decide) (by decide) (fun _ => rfl) (by decide) kf_X6_74 hR.B.l0 (hR.B.p 21 (by decide) rfl) ?_
          refine mj_iload (pc' := 59) C dX6_stepAt_57 rfl rfl ?_
          refine mj_ialdV (pc' := 60) C dX6_stepAt_59 rfl rfl (by decide) (by decide) (hR.B.l 21 (by decide) rfl) rfl (by omega) ((hR.tab h130 hi) j hj).2.2.1 ?_
          refine mj_icmp_lt (tgt := 67) (pc' := 63) C dX6_stepAt_60 (by decide) rfl (fun h60 => ?_) (fun h60 => ?_)
          · obtain ⟨k, hk, rfl⟩ : ∃ k, k < (bw (best S i j)).length ∧ p = nI k := by
              obtain ⟨k, hk, e1⟩ := nI_of (Int32.not_lt.mpr h15)
              have hl := bw_le hW i j
              refine ⟨k, ?_, e1⟩
              rw [e1] at h60
              exact (nI_ltI hk (by omega)).mp h60
            have hl := bw_le hW i j
            have hv : o_stepAt S (nI i) (nI j) (nI k) = (0, nI ((bw (best S i j)).getD k 0), S) := by unfold o_stepAt; rw [if_neg (fun h => h.elim hb1 (fun h => h.elim hb2 (fun h => absurd h (Int32.not_lt.mpr h15)))), ei, ej, if_pos (nI_lt hk (by omega)), ix_nI (by omega)]
            refine mj_aload_n (pc' := 68) C dX6_stepAt_67 rfl rfl ?_
            refine mj_getR (pc' := 71) C dX6_stepAt_68 rfl (ci := 6) (f := 22) rfl (by decide) (by decide) (fun _ => rfl) (by decide) kf_X6_77 hR.B.l0 (hR.B.p 22 (by decide) rfl) ?_
            refine mj_bipush (pc' := 73) (v := 9) C dX6_stepAt_71 rfl rfl ?_
            refine mj_iload (pc' := 75) C dX6_stepAt_73 rfl rfl ?_
            refine mj_imul (pc' := 76) C dX6_stepAt_75 rfl ?_
            refine mj_iload_n (pc' := 77) C dX6_stepAt_76 rfl rfl ?_
            refine mj_iadd (pc' := 78) C dX6_stepAt_77 rfl ?_
            refine mj_ialdV (pc' := 79) C dX6_stepAt_78 rfl rfl (by decide) (by decide) (hR.B.l 22 (by decide) rfl) (by show nI 9 * nI _ + nI _ = _; rw [pk_mul, nI_add]) (by omega) ((hR.tab h130 hi j hj).2.2.2.2 k hk) ?_
            refine mj_iret C dX6_stepAt_79 (by decide) (by decide) (by decide) ?_
            exact mret_of hv (z35f z35 hO30) hR ((mF_sI (by decide) mF.rf).tr hO30.f2)
          · have hv : o_stepAt S (nI i) (nI j) p = (0, -1, S) := by unfold o_stepAt; rw [if_neg (fun h => h.elim hb1 (fun h => h.elim hb2 (fun h => absurd h (Int32.not_lt.mpr h15)))), ei, ej, if_neg h60]
            refine mj_iconst (pc' := 64) (v := (-1)) C dX6_stepAt_63 rfl rfl ?_
            refine mj_goto (pc' := 79) C dX6_stepAt_64 (by decide) ?_
            refine mj_iret C dX6_stepAt_79 (by decide) (by decide) (by decide) ?_
            exact mret_of hv (z35f z35 hO30) hR ((mF_sI (by decide) mF.rf).tr hO30.f2)
      · have ho : o_stepAt S (nI i) (nI j) p = (1, 0, S) := by unfold o_stepAt; rw [if_pos (Or.inr (Or.inr (Int32.not_le.mp h15)))]
        refine mj_aload_n (pc' := 19) C dX6_stepAt_18 rfl rfl ?_
        refine mj_iconst (pc' := 20) (v := 1) C dX6_stepAt_19 rfl rfl ?_
        refine mj_callVN_1 (ci := 6) (pc' := 23) C (c_X6_fails hst S 1) dX6_stepAt_20 rfl km_X6_150 ki_yX6_fails kz_yX6_fails kn_X6 kc_yX6_fails rfl (by decide) (by decide) ⟨rfl, by decide, by decide, by decide +kernel⟩ ⟨by decide, by decide⟩ (Nat.le_of_ble_eq_true rfl) ⟨by decide, by decide⟩ ⟨rfl, hR⟩ (fun r20 μ20 hq20 hm20 => ?_) (fun _ _ h9 => h9)
        obtain ⟨rfl, hq9⟩ := hq20
        have hq9 := hq9.symm
        subst hq9
        dsimp only [Option.toList, List.nil_append, List.cons_append]
        refine mj_iret C dX6_stepAt_23 (by decide) (by decide) (by decide) ?_
        exact mfail ho rfl (by decide) rfl rfl (mR_x hR (Or.inl ⟨rfl, rfl⟩)) mF.rf

set_option maxRecDepth 20000 in
theorem c_X6_havenOf {l : Launch} (hst : l.stackTraces = false) (S : jS) (i : Nat) : jMet l yX6_havenOf cX6_havenOf 8 (some FieldType.int) 8 180 0 0 (fun avs μ => avs = [aR 20 0, aI (nI i)] ∧ mR S μ ∧ sW S ∧ i < sn S 0 ∧ ∀ a, a < 10 → mTab μ a (best S a)) (fun avs μ r μ' => r = some (aI (hv S i)) ∧ μ' = μ) (fun avs μ E μ' => False) := by
  refine jMet_of hst (by decide) ?_
  intro avs μ J C hav hpre
  obtain ⟨rfl, hR, hW, hi, hT⟩ := hpre
  refine ⟨Nat.le_of_ble_eq_true rfl, ?_⟩
  show J 0 [some (aR 20 0), some (aI (nI i)), none, none, none, none, none, none] [] μ 0 0
  have hW0 := hW.1.1
  have hW1 := hW.1.2
  obtain ⟨hg, eg⟩ := fF_of hW hi
  obtain ⟨hl, el⟩ := fL_of hW hi
  refine mj_iconst (pc' := 1) (v := (-1)) C dX6_havenOf_0 rfl rfl ?_
  refine mj_istore_n_2 (pc' := 2) C dX6_havenOf_1 rfl (by decide) rfl ?_
  refine mj_iconst (pc' := 3) (v := (-1)) C dX6_havenOf_2 rfl rfl ?_
  refine mj_istore_n_3 (pc' := 4) C dX6_havenOf_3 rfl (by decide) rfl ?_
  refine mj_iconst (pc' := 5) (v := 0) C dX6_havenOf_4 rfl rfl ?_
  refine mj_istore_4 (pc' := 7) C dX6_havenOf_5 rfl (by decide) rfl ?_
  refine mj_iconst (pc' := 8) (v := 0) C dX6_havenOf_7 rfl rfl ?_
  refine mj_istore_5 (pc' := 10) C dX6_havenOf_8 rfl (by decide) rfl ?_
  have loop : ∀ (d : Nat) (t : Nat) (x6 x7 : Option jV), t + d = 10 → J 10 [some (aR 20 0), some (aI (nI i)), some (aI (hr S i t).1), some (aI (hr S i t).2.1), some (aI (hr S i t).2.2), some (aI (nI t)), x6, x7] [] μ 0 0 := by
    intro d
    induction d with
    | zero =>
      intro t x6 x7 hd
      obtain rfl : t = 10 := by omega
      refine mj_iload (pc' := 12) C dX6_havenOf_10 rfl rfl ?_
      refine mj_bipush (pc' := 14) (v := 10) C dX6_havenOf_12 rfl rfl ?_
      refine mj_icmp_ge (tgt := 137) (pc' := 17) C dX6_havenOf_14 (by decide) rfl (fun _ => ?_) (fun h9 => absurd (by decide) h9)
      refine mj_aload_n (pc' := 138) C dX6_havenOf_137 rfl rfl ?_
      refine mj_getR (pc' := 141) C dX6_havenOf_138 rfl (ci := 6) (f := 15) rfl (by decide) (by decide) (fun _ => rfl) (by decide) kf_X6_56 hR.B.l0 (hR.B.p 15 (by decide) rfl) ?_
      refine mj_iload_n (pc' := 142) C dX6_havenOf_141 rfl rfl ?_
      refine mj_ialdV (pc' := 143) C dX6_havenOf_142 rfl rfl (by decide) (by decide) (hR.B.l 15 (by decide) rfl) rfl (by first | assumption | omega) (hR.v 15 (by decide) rfl (by unfold sl; simp <;> first | assumption | omega)) ?_
      refine mj_if_ne (tgt := 150) (pc' := 146) C dX6_havenOf_143 (by decide) rfl (fun h143 => ?_) (fun h143 => ?_)
      · have hv9 : hv S i = -1 := if_neg h143
        refine mj_iconst (pc' := 151) (v := (-1)) C dX6_havenOf_150 rfl rfl ?_
        refine mj_iret C dX6_havenOf_151 (by decide) (by decide) (by decide) ?_
        exact ⟨by rw [hv9], rfl⟩
      · have hv9 : hv S i = (hr S i 10).1 := if_pos h143
        refine mj_iload_n (pc' := 147) C dX6_havenOf_146 rfl rfl ?_
        refine mj_goto (pc' := 151) C dX6_havenOf_147 (by decide) ?_
        refine mj_iret C dX6_havenOf_151 (by decide) (by decide) (by decide) ?_
        exact ⟨by rw [hv9], rfl⟩
    | succ d ih =>
      intro t x6 x7 hd
      have hlt : t < 10 := by omega
      obtain ⟨u, hu, eu⟩ := (hW.2.2.1 i hi).2.2.1
      obtain ⟨v, hv9, ev⟩ := alg_b hW (a := fF S i) (b := t) hu
      rw [← eu] at ev
      have hal : (alg S (bw (best S (fF S i) t)) (sf S 12 i)) ≠ -1 := by rw [ev]; exact nI_m1 (by omega)
      refine mj_iload (pc' := 12) C dX6_havenOf_10 rfl rfl ?_
      refine mj_bipush (pc' := 14) (v := 10) C dX6_havenOf_12 rfl rfl ?_
      refine mj_icmp_ge (tgt := 137) (pc' := 17) C dX6_havenOf_14 (by decide) rfl (fun h9 => absurd h9 (nI_ge (b := 10) hlt (by decide))) (fun _ => ?_)
      refine mj_bipush (pc' := 19) (v := 10) C dX6_havenOf_17 rfl rfl ?_
      refine mj_aload_n (pc' := 20) C dX6_havenOf_19 rfl rfl ?_
      refine mj_getR (pc' := 23) C dX6_havenOf_20 rfl (ci := 6) (f := 9) rfl (by decide) (by decide) (fun _ => rfl) (by decide) kf_X6_38 hR.B.l0 (hR.B.p 9 (by decide) rfl) ?_
      refine mj_iload_n (pc' := 24) C dX6_havenOf_23 rfl rfl ?_
      refine mj_ialdV (pc' := 25) C dX6_havenOf_24 rfl rfl (by decide) (by decide) (hR.B.l 9 (by decide) rfl) rfl (by first | assumption | omega) ((hR.v 9 (by decide) rfl (by unfold sl; simp <;> first | assumption | omega)).trans eg) ?_
      refine mj_imul (pc' := 26) C dX6_havenOf_25 rfl ?_
      refine mj_iload (pc' := 28) C dX6_havenOf_26 rfl rfl ?_
      refine mj_iadd (pc' := 29) C dX6_havenOf_28 rfl ?_
      rw [i10]
      refine mj_istore_6 (pc' := 31) C dX6_havenOf_29 rfl (by decide) rfl ?_
      refine mj_aload_n (pc' := 32) C dX6_havenOf_31 rfl rfl ?_
      refine mj_getR (pc' := 35) C dX6_havenOf_32 rfl (ci := 6) (f := 19) rfl (by decide) (by decide) (fun _ => rfl) (by decide) kf_X6_68 hR.B.l0 (hR.B.p 19 (by decide) rfl) ?_
      refine mj_iload (pc' := 37) C dX6_havenOf_35 rfl rfl ?_
      refine mj_ialdV (pc' := 38) C dX6_havenOf_37 rfl rfl (by decide) (by decide) (hR.B.l 19 (by decide) rfl) rfl (by omega) (hT (fF S i) hg t hlt).1 ?_
      refine mj_iconst (pc' := 39) (v := (-1)) C dX6_havenOf_38 rfl rfl ?_
      refine jn (tgt := 58) (v := aI (if bq (best S (fF S i) t) = -1 then (-1 : Int32) else (alg S (bw (best S (fF S i) t)) (sf S 12 i)))) (st := []) (fun K39 => ?_) ?_
      · refine mj_icmp_ne (tgt := 46) (pc' := 42) C dX6_havenOf_39 (by decide) rfl (fun h39 => ?_) (fun h39 => ?_)
        · have ej : (if bq (best S (fF S i) t) = -1 then (-1 : Int32) else (alg S (bw (best S (fF S i) t)) (sf S 12 i))) = (alg S (bw (best S (fF S i) t)) (sf S 12 i)) := if_neg h39
          refine mj_aload_n (pc' := 47) C dX6_havenOf_46 rfl rfl ?_
          refine mj_iload (pc' := 49) C dX6_havenOf_47 rfl rfl ?_
          refine mj_aload_n (pc' := 50) C dX6_havenOf_49 rfl rfl ?_
          refine mj_getR (pc' := 53) C dX6_havenOf_50 rfl (ci := 6) (f := 12) rfl (by decide) (by decide) (fun _ => rfl) (by decide) kf_X6_47 hR.B.l0 (hR.B.p 12 (by decide) rfl) ?_
          refine mj_iload_n (pc' := 54) C dX6_havenOf_53 rfl rfl ?_
          refine mj_ialdV (pc' := 55) C dX6_havenOf_54 rfl rfl (by decide) (by decide) (hR.B.l 12 (by decide) rfl) rfl (by first | assumption | omega) (hR.v 12 (by decide) rfl (by unfold sl; simp <;> first | assumption | omega)) ?_
          refine mj_callVN_2 (ci := 6) (pc' := 58) C (c_X6_along hst S (fF S i) t (sf S 12 i)) dX6_havenOf_55 rfl km_X6_139 ki_yX6_along kz_yX6_along kn_X6 kc_yX6_along rfl (by decide) (by decide) ⟨rfl, by decide, by decide, by decide +kernel⟩ ⟨by decide, by decide⟩ (Nat.le_of_ble_eq_true rfl) ⟨by decide, by decide⟩ ⟨rfl, hR.C, hW, ⟨hg, hlt⟩, hT _ hg⟩ (fun r55 μ55 hq55 hm55 => ?_) (fun _ _ h9 => h9)
          obtain ⟨rfl, hq9⟩ := hq55
          have hq9 := hq9.symm
          subst hq9
          dsimp only [Option.toList, List.nil_append, List.cons_append]
          rw [ej] at K39
          exact K39
        · have ej : (if bq (best S (fF S i) t) = -1 then (-1 : Int32) else (alg S (bw (best S (fF S i) t)) (sf S 12 i))) = -1 := if_pos h39
          refine mj_iconst (pc' := 43) (v := (-1)) C dX6_havenOf_42 rfl rfl ?_
          refine mj_goto (pc' := 58) C dX6_havenOf_43 (by decide) ?_
          rw [ej] at K39
          exact K39
      refine mj_istore_7 (pc' := 60) C dX6_havenOf_58 rfl (by decide) rfl ?_
      refine mj_iload (pc' := 62) C dX6_havenOf_60 rfl rfl ?_
      refine mj_iconst (pc' := 63) (v := (-1)) C dX6_havenOf_62 rfl rfl ?_
      refine mj_icmp_eq (tgt := 131) (pc' := 66) C dX6_havenOf_63 (by decide) rfl (fun h63 => ?_) (fun h63 => ?_)
      · have hbq : bq (best S (fF S i) t) = -1 := Decidable.byContradiction (fun q => hal ((if_neg q).symm.trans h63))
        have e : hr S i (t + 1) = hr S i t := by rw [hr_s]; exact if_neg (fun h => h.1 hbq)
        have hih := fun x6 x7 => ih (t + 1) x6 x7 (by omega)
        rw [e] at hih
        refine mj_iinc_5 (pc' := 134) (w := 1) C dX6_havenOf_131 rfl rfl (by decide) rfl ?_
        refine mj_goto (pc' := 10) C dX6_havenOf_134 (by decide) ?_
        rw [nI_1]
        exact hih _ _
      · have hbq : bq (best S (fF S i) t) ≠ -1 := fun q => h63 (if_pos q)
        have et : (if bq (best S (fF S i) t) = -1 then (-1 : Int32) else (alg S (bw (best S (fF S i) t)) (sf S 12 i))) = (alg S (bw (best S (fF S i) t)) (sf S 12 i)) := if_neg hbq
        rw [et]
        refine mj_aload_n (pc' := 67) C dX6_havenOf_66 rfl rfl ?_
        refine mj_iload_n (pc' := 68) C dX6_havenOf_67 rfl rfl ?_
        refine mj_iload (pc' := 70) C dX6_havenOf_68 rfl rfl ?_
        refine mj_callVN_2 (ci := 6) (pc' := 73) C (c_X6_isSafeIn hst S i t) dX6_havenOf_70 rfl km_X6_142 ki_yX6_isSafeIn kz_yX6_isSafeIn kn_X6 kc_yX6_isSafeIn rfl (by decide) (by decide) ⟨rfl, by decide, by decide, by decide +kernel⟩ ⟨by decide, by decide⟩ (Nat.le_of_ble_eq_true rfl) ⟨by decide, by decide⟩ ⟨rfl, hR, hW, hi, hlt⟩ (fun r70 μ70 hq70 hm70 => ?_) (fun _ _ h9 => h9)
        obtain ⟨rfl, hq9⟩ := hq70
        have hq9 := hq9.symm
        subst hq9
        dsimp only [Option.toList, List.nil_append, List.cons_append]
        refine mj_if_eq (tgt := 131) (pc' := 76) C dX6_havenOf_73 (by decide) rfl (fun h73 => ?_) (fun h73 => ?_)
        · have e : hr S i (t + 1) = hr S i t := by rw [hr_s]; exact if_neg (fun h => b1_0.mp h73 h.2.1)
          have hih := fun x6 x7 => ih (t + 1) x6 x7 (by omega)
          rw [e] at hih
          refine mj_iinc_5 (pc' := 134) (w := 1) C dX6_havenOf_131 rfl rfl (by decide) rfl ?_
          refine mj_goto (pc' := 10) C dX6_havenOf_134 (by decide) ?_
          rw [nI_1]
          exact hih _ _
        · refine mj_iload (pc' := 78) C dX6_havenOf_76 rfl rfl ?_
          refine mj_aload_n (pc' := 79) C dX6_havenOf_78 rfl rfl ?_
          refine mj_getR (pc' := 82) C dX6_havenOf_79 rfl (ci := 6) (f := 7) rfl (by decide) (by decide) (fun _ => rfl) (by decide) kf_X6_32 hR.B.l0 (hR.B.p 7 (by decide) rfl) ?_
          refine mj_aload_n (pc' := 83) C dX6_havenOf_82 rfl rfl ?_
          refine mj_getR (pc' := 86) C dX6_havenOf_83 rfl (ci := 6) (f := 11) rfl (by decide) (by decide) (fun _ => rfl) (by decide) kf_X6_44 hR.B.l0 (hR.B.p 11 (by decide) rfl) ?_
          refine mj_iload_n (pc' := 87) C dX6_havenOf_86 rfl rfl ?_
          refine mj_ialdV (pc' := 88) C dX6_havenOf_87 rfl rfl (by decide) (by decide) (hR.B.l 11 (by decide) rfl) rfl (by first | assumption | omega) ((hR.v 11 (by decide) rfl (by unfold sl; simp <;> first | assumption | omega)).trans el) ?_
          refine mj_ialdV (pc' := 89) C dX6_havenOf_88 rfl rfl (by decide) (by decide) (hR.B.l 7 (by decide) rfl) rfl (by first | assumption | omega) (hR.v 7 (by decide) rfl (by unfold sl; simp <;> first | assumption | omega)) ?_
          refine mj_icmp_lt (tgt := 131) (pc' := 92) C dX6_havenOf_89 (by decide) rfl (fun h89 => ?_) (fun h89 => ?_)
          · have e : hr S i (t + 1) = hr S i t := by rw [hr_s]; exact if_neg (fun h => absurd h.2.2.1 (Int32.not_le.mpr h89))
            have hih := fun x6 x7 => ih (t + 1) x6 x7 (by omega)
            rw [e] at hih
            refine mj_iinc_5 (pc' := 134) (w := 1) C dX6_havenOf_131 rfl rfl (by decide) rfl ?_
            refine mj_goto (pc' := 10) C dX6_havenOf_134 (by decide) ?_
            rw [nI_1]
            exact hih _ _
          · refine mj_iload (pc' := 94) C dX6_havenOf_92 rfl rfl ?_
            refine mj_iload_n (pc' := 95) C dX6_havenOf_94 rfl rfl ?_
            refine mj_icmp_gt (tgt := 116) (pc' := 98) C dX6_havenOf_95 (by decide) rfl (fun h95 => ?_) (fun h95 => ?_)
            · have hbe : (hr S i t).2.1 < (alg S (bw (best S (fF S i) t)) (sf S 12 i)) ∨ ((alg S (bw (best S (fF S i) t)) (sf S 12 i)) = (hr S i t).2.1 ∧ (bc (best S (fF S i) t)) < (hr S i t).2.2) := Or.inl h95
              have e : hr S i (t + 1) = (nI t, (alg S (bw (best S (fF S i) t)) (sf S 12 i)), (bc (best S (fF S i) t))) := by rw [hr_s]; exact if_pos ⟨hbq, b1_n h73, Int32.not_lt.mp h89, hbe⟩
              have hih := fun x6 x7 => ih (t + 1) x6 x7 (by omega)
              rw [e] at hih
              refine mj_iload (pc' := 118) C dX6_havenOf_116 rfl rfl ?_
              refine mj_istore_n_2 (pc' := 119) C dX6_havenOf_118 rfl (by decide) rfl ?_
              refine mj_iload (pc' := 121) C dX6_havenOf_119 rfl rfl ?_
              refine mj_istore_n_3 (pc' := 122) C dX6_havenOf_121 rfl (by decide) rfl ?_
              refine mj_aload_n (pc' := 123) C dX6_havenOf_122 rfl rfl ?_
              refine mj_getR (pc' := 126) C dX6_havenOf_123 rfl (ci := 6) (f := 20) rfl (by decide) (by decide) (fun _ => rfl) (by decide) kf_X6_71 hR.B.l0 (hR.B.p 20 (by decide) rfl) ?_
              refine mj_iload (pc' := 128) C dX6_havenOf_126 rfl rfl ?_
              refine mj_ialdV (pc' := 129) C dX6_havenOf_128 rfl rfl (by decide) (by decide) (hR.B.l 20 (by decide) rfl) rfl (by omega) (hT (fF S i) hg t hlt).2.1 ?_
              refine mj_istore_4 (pc' := 131) C dX6_havenOf_129 rfl (by decide) rfl ?_
              refine mj_iinc_5 (pc' := 134) (w := 1) C dX6_havenOf_131 rfl rfl (by decide) rfl ?_
              refine mj_goto (pc' := 10) C dX6_havenOf_134 (by decide) ?_
              rw [nI_1]
              exact hih _ _
            · refine mj_iload (pc' := 100) C dX6_havenOf_98 rfl rfl ?_
              refine mj_iload_n (pc' := 101) C dX6_havenOf_100 rfl rfl ?_
              refine mj_icmp_ne (tgt := 131) (pc' := 104) C dX6_havenOf_101 (by decide) rfl (fun h101 => ?_) (fun h101 => ?_)
              · have e : hr S i (t + 1) = hr S i t := by rw [hr_s]; exact if_neg (fun h => h.2.2.2.elim h95 (fun h => h101 h.1))
                have hih := fun x6 x7 => ih (t + 1) x6 x7 (by omega)
                rw [e] at hih
                refine mj_iinc_5 (pc' := 134) (w := 1) C dX6_havenOf_131 rfl rfl (by decide) rfl ?_
                refine mj_goto (pc' := 10) C dX6_havenOf_134 (by decide) ?_
                rw [nI_1]
                exact hih _ _
              · refine mj_aload_n (pc' := 105) C dX6_havenOf_104 rfl rfl ?_
                refine mj_getR (pc' := 108) C dX6_havenOf_105 rfl (ci := 6) (f := 20) rfl (by decide) (by decide) (fun _ => rfl) (by decide) kf_X6_71 hR.B.l0 (hR.B.p 20 (by decide) rfl) ?_
                refine mj_iload (pc' := 110) C dX6_havenOf_108 rfl rfl ?_
                refine mj_ialdV (pc' := 111) C dX6_havenOf_110 rfl rfl (by decide) (by decide) (hR.B.l 20 (by decide) rfl) rfl (by omega) (hT (fF S i) hg t hlt).2.1 ?_
                refine mj_iload (pc' := 113) C dX6_havenOf_111 rfl rfl ?_
                refine mj_icmp_ge (tgt := 131) (pc' := 116) C dX6_havenOf_113 (by decide) rfl (fun h113 => ?_) (fun h113 => ?_)
                · have e : hr S i (t + 1) = hr S i t := by rw [hr_s]; exact if_neg (fun h => h.2.2.2.elim h95 (fun h => absurd h.2 (Int32.not_lt.mpr h113)))
                  have hih := fun x6 x7 => ih (t + 1) x6 x7 (by omega)
                  rw [e] at hih
                  refine mj_iinc_5 (pc' := 134) (w := 1) C dX6_havenOf_131 rfl rfl (by decide) rfl ?_
                  refine mj_goto (pc' := 10) C dX6_havenOf_134 (by decide) ?_
                  rw [nI_1]
                  exact hih _ _
                · have hbe : (hr S i t).2.1 < (alg S (bw (best S (fF S i) t)) (sf S 12 i)) ∨ ((alg S (bw (best S (fF S i) t)) (sf S 12 i)) = (hr S i t).2.1 ∧ (bc (best S (fF S i) t)) < (hr S i t).2.2) := Or.inr ⟨h101, Int32.not_le.mp h113⟩
                  have e : hr S i (t + 1) = (nI t, (alg S (bw (best S (fF S i) t)) (sf S 12 i)), (bc (best S (fF S i) t))) := by rw [hr_s]; exact if_pos ⟨hbq, b1_n h73, Int32.not_lt.mp h89, hbe⟩
                  have hih := fun x6 x7 => ih (t + 1) x6 x7 (by omega)
                  rw [e] at hih
                  refine mj_iload (pc' := 118) C dX6_havenOf_116 rfl rfl ?_
                  refine mj_istore_n_2 (pc' := 119) C dX6_havenOf_118 rfl (by decide) rfl ?_
                  refine mj_iload (pc' := 121) C dX6_havenOf_119 rfl rfl ?_
                  refine mj_istore_n_3 (pc' := 122) C dX6_havenOf_121 rfl (by decide) rfl ?_
                  refine mj_aload_n (pc' := 123) C dX6_havenOf_122 rfl rfl ?_
                  refine mj_getR (pc' := 126) C dX6_havenOf_123 rfl (ci := 6) (f := 20) rfl (by decide) (by decide) (fun _ => rfl) (by decide) kf_X6_71 hR.B.l0 (hR.B.p 20 (by decide) rfl) ?_
                  refine mj_iload (pc' := 128) C dX6_havenOf_126 rfl rfl ?_
                  refine mj_ialdV (pc' := 129) C dX6_havenOf_128 rfl rfl (by decide) (by decide) (hR.B.l 20 (by decide) rfl) rfl (by omega) (hT (fF S i) hg t hlt).2.1 ?_
                  refine mj_istore_4 (pc' := 131) C dX6_havenOf_129 rfl (by decide) rfl ?_
                  refine mj_iinc_5 (pc' := 134) (w := 1) C dX6_havenOf_131 rfl rfl (by decide) rfl ?_
                  refine mj_goto (pc' := 10) C dX6_havenOf_134 (by decide) ?_
                  rw [nI_1]
                  exact hih _ _
  exact loop 10 0 _ _ rfl

set_option maxRecDepth 20000 in
theorem c_X6_affords {l : Launch} (hst : l.stackTraces = false) (S : jS) (i j : Nat) : jMet l yX6_affords cX6_affords 3 (some FieldType.boolean) 6 100 0 0 (fun avs μ => avs = [aR 20 0, aI (nI i), aI (nI j)] ∧ mR S μ ∧ sW S ∧ (i < sn S 0 ∧ j < 10) ∧ ∀ a, a < 10 → mTab μ a (best S a)) (fun avs μ r μ' => r = some (aI (b1 (sf S 10 i * bc (best S (fF S i) j) ≤ sf S 17 1))) ∧ μ' = μ) (fun avs μ E μ' => False) := by
  refine jMet_of hst (by decide) ?_
  intro avs μ J C hav hpre
  obtain ⟨rfl, hR, hW, ⟨hi, hj⟩, hT⟩ := hpre
  refine ⟨Nat.le_of_ble_eq_true rfl, ?_⟩
  show J 0 [some (aR 20 0), some (aI (nI i)), some (aI (nI j))] [] μ 0 0
  have hW0 := hW.1.1
  have hW1 := hW.1.2
  obtain ⟨hg, eg⟩ := fF_of hW hi
  refine mj_aload_n (pc' := 1) C dX6_affords_0 rfl rfl ?_
  refine mj_getR (pc' := 4) C dX6_affords_1 rfl (ci := 6) (f := 10) rfl (by decide) (by decide) (fun _ => rfl) (by decide) kf_X6_41 hR.B.l0 (hR.B.p 10 (by decide) rfl) ?_
  refine mj_iload_n (pc' := 5) C dX6_affords_4 rfl rfl ?_
  refine mj_ialdV (pc' := 6) C dX6_affords_5 rfl rfl (by decide) (by decide) (hR.B.l 10 (by decide) rfl) rfl (by first | assumption | omega) (hR.v 10 (by decide) rfl (by unfold sl; simp <;> first | assumption | omega)) ?_
  refine mj_aload_n (pc' := 7) C dX6_affords_6 rfl rfl ?_
  refine mj_getR (pc' := 10) C dX6_affords_7 rfl (ci := 6) (f := 20) rfl (by decide) (by decide) (fun _ => rfl) (by decide) kf_X6_71 hR.B.l0 (hR.B.p 20 (by decide) rfl) ?_
  refine mj_bipush (pc' := 12) (v := 10) C dX6_affords_10 rfl rfl ?_
  refine mj_aload_n (pc' := 13) C dX6_affords_12 rfl rfl ?_
  refine mj_getR (pc' := 16) C dX6_affords_13 rfl (ci := 6) (f := 9) rfl (by decide) (by decide) (fun _ => rfl) (by decide) kf_X6_38 hR.B.l0 (hR.B.p 9 (by decide) rfl) ?_
  refine mj_iload_n (pc' := 17) C dX6_affords_16 rfl rfl ?_
  refine mj_ialdV (pc' := 18) C dX6_affords_17 rfl rfl (by decide) (by decide) (hR.B.l 9 (by decide) rfl) rfl (by first | assumption | omega) ((hR.v 9 (by decide) rfl (by unfold sl; simp <;> first | assumption | omega)).trans eg) ?_
  refine mj_imul (pc' := 19) C dX6_affords_18 rfl ?_
  refine mj_iload_n (pc' := 20) C dX6_affords_19 rfl rfl ?_
  refine mj_iadd (pc' := 21) C dX6_affords_20 rfl ?_
  rw [i10]
  refine mj_ialdV (pc' := 22) C dX6_affords_21 rfl rfl (by decide) (by decide) (hR.B.l 20 (by decide) rfl) rfl (by omega) (hT (fF S i) hg j hj).2.1 ?_
  refine mj_imul (pc' := 23) C dX6_affords_22 rfl ?_
  refine mj_aload_n (pc' := 24) C dX6_affords_23 rfl rfl ?_
  refine mj_getV (pc' := 27) C dX6_affords_24 rfl (ci := 6) (f := 32) rfl (by decide) (by decide) (fun _ => rfl) (by decide) kf_X6_102 hR.B.l0 hR.rest ?_
  refine mj_icmp_gt (tgt := 34) (pc' := 30) C dX6_affords_27 (by decide) rfl (fun h27 => ?_) (fun h27 => ?_)
  · have hv : b1 (sf S 10 i * bc (best S (fF S i) j) ≤ sf S 17 1) = 0 := b1_f (Int32.not_le.mpr h27)
    refine mj_iconst (pc' := 35) (v := 0) C dX6_affords_34 rfl rfl ?_
    refine mj_zret C rfl dX6_affords_35 (by decide) (by decide) (by decide) ?_
    exact ⟨by rw [hv], rfl⟩
  · have hv : b1 (sf S 10 i * bc (best S (fF S i) j) ≤ sf S 17 1) = 1 := b1_t (Int32.not_lt.mp h27)
    refine mj_iconst (pc' := 31) (v := 1) C dX6_affords_30 rfl rfl ?_
    refine mj_goto (pc' := 35) C dX6_affords_31 (by decide) ?_
    refine mj_zret C rfl dX6_affords_35 (by decide) (by decide) (by decide) ?_
    exact ⟨by rw [hv], rfl⟩

set_option maxRecDepth 20000 in
theorem c_X6_take {l : Launch} (hst : l.stackTraces = false) (S : jS) (i j : Nat) : jMet l yX6_take cX6_take 4 none 8 180 0 0 (fun avs μ => avs = [aR 20 0, aI (nI i), aI (nI j)] ∧ mR S μ ∧ sW S ∧ (i < sn S 0 ∧ j < 10) ∧ ∀ a, a < 10 → mTab μ a (best S a)) (fun avs μ r μ' => r = none ∧ mR (tk S i j) μ' ∧ oG (fun kd y z => (kd = 20 ∧ z = 32) ∨ kd = 33 ∨ kd = 30) μ μ') (fun avs μ E μ' => False) := by
  refine jMet_of hst (by decide) ?_
  intro avs μ J C hav hpre
  obtain ⟨rfl, hR, hW, ⟨hi, hj⟩, hT⟩ := hpre
  refine ⟨Nat.le_of_ble_eq_true rfl, ?_⟩
  show J 0 [some (aR 20 0), some (aI (nI i)), some (aI (nI j)), none] [] μ 0 0
  have hW0 := hW.1.1
  have hW1 := hW.1.2
  obtain ⟨hg, eg⟩ := fF_of hW hi
  have hcK : cK S (su S 17 1 (sf S 17 1 - sf S 10 i * bc (best S (fF S i) j))) := cK_su (by omega)
  refine mj_bipush (pc' := 2) (v := 10) C dX6_take_0 rfl rfl ?_
  refine mj_aload_n (pc' := 3) C dX6_take_2 rfl rfl ?_
  refine mj_getR (pc' := 6) C dX6_take_3 rfl (ci := 6) (f := 9) rfl (by decide) (by decide) (fun _ => rfl) (by decide) kf_X6_38 hR.B.l0 (hR.B.p 9 (by decide) rfl) ?_
  refine mj_iload_n (pc' := 7) C dX6_take_6 rfl rfl ?_
  refine mj_ialdV (pc' := 8) C dX6_take_7 rfl rfl (by decide) (by decide) (hR.B.l 9 (by decide) rfl) rfl (by first | assumption | omega) ((hR.v 9 (by decide) rfl (by unfold sl; simp <;> first | assumption | omega)).trans eg) ?_
  refine mj_imul (pc' := 9) C dX6_take_8 rfl ?_
  refine mj_iload_n (pc' := 10) C dX6_take_9 rfl rfl ?_
  refine mj_iadd (pc' := 11) C dX6_take_10 rfl ?_
  rw [i10]
  refine mj_istore_n_3 (pc' := 12) C dX6_take_11 rfl (by decide) rfl ?_
  refine mj_aload_n (pc' := 13) C dX6_take_12 rfl rfl ?_
  refine mj_dup (pc' := 14) C dX6_take_13 rfl rfl ?_
  refine mj_getV (pc' := 17) C dX6_take_14 rfl (ci := 6) (f := 32) rfl (by decide) (by decide) (fun _ => rfl) (by decide) kf_X6_102 hR.B.l0 hR.rest ?_
  refine mj_aload_n (pc' := 18) C dX6_take_17 rfl rfl ?_
  refine mj_getR (pc' := 21) C dX6_take_18 rfl (ci := 6) (f := 10) rfl (by decide) (by decide) (fun _ => rfl) (by decide) kf_X6_41 hR.B.l0 (hR.B.p 10 (by decide) rfl) ?_
  refine mj_iload_n (pc' := 22) C dX6_take_21 rfl rfl ?_
  refine mj_ialdV (pc' := 23) C dX6_take_22 rfl rfl (by decide) (by decide) (hR.B.l 10 (by decide) rfl) rfl (by first | assumption | omega) (hR.v 10 (by decide) rfl (by unfold sl; simp <;> first | assumption | omega)) ?_
  refine mj_aload_n (pc' := 24) C dX6_take_23 rfl rfl ?_
  refine mj_getR (pc' := 27) C dX6_take_24 rfl (ci := 6) (f := 20) rfl (by decide) (by decide) (fun _ => rfl) (by decide) kf_X6_71 hR.B.l0 (hR.B.p 20 (by decide) rfl) ?_
  refine mj_iload_n (pc' := 28) C dX6_take_27 rfl rfl ?_
  refine mj_ialdV (pc' := 29) C dX6_take_28 rfl rfl (by decide) (by decide) (hR.B.l 20 (by decide) rfl) rfl (by omega) (hT (fF S i) hg j hj).2.1 ?_
  refine mj_imul (pc' := 30) C dX6_take_29 rfl ?_
  refine mj_isub (pc' := 31) C dX6_take_30 rfl ?_
  refine mj_putI (pc' := 34) C dX6_take_31 rfl (ci := 6) (f := 32) rfl (by decide) (by decide) rfl (fun _ _ => rfl) (by decide) kf_X6_102 rfl rfl hR.B.l0 ?_
  have hR := mR_s (v := sf S 17 1 - sf S 10 i * bc (best S (fF S i) j)) hR (a := 1) (f := 32) (by omega)
  have hT2 : mTab (sI μ 20 0 32 (sf S 17 1 - sf S 10 i * bc (best S (fF S i) j))) (fF S i) (best (su S 17 1 (sf S 17 1 - sf S 10 i * bc (best S (fF S i) j))) (fF S i)) := by rw [best_cK hcK]; exact mTab_same (hT _ hg) (fun kd z hq => mI_sI_n _ _ _ _ _ (by unfold tQ at hq; omega))
  refine mj_aload_n (pc' := 35) C dX6_take_34 rfl rfl ?_
  refine mj_getR (pc' := 38) C dX6_take_35 rfl (ci := 6) (f := 12) rfl (by decide) (by decide) (fun _ => rfl) (by decide) kf_X6_47 hR.B.l0 (hR.B.p 12 (by decide) rfl) ?_
  refine mj_iload_n (pc' := 39) C dX6_take_38 rfl rfl ?_
  refine mj_aload_n (pc' := 40) C dX6_take_39 rfl rfl ?_
  refine mj_iload_n (pc' := 41) C dX6_take_40 rfl rfl ?_
  refine mj_aload_n (pc' := 42) C dX6_take_41 rfl rfl ?_
  refine mj_getR (pc' := 45) C dX6_take_42 rfl (ci := 6) (f := 12) rfl (by decide) (by decide) (fun _ => rfl) (by decide) kf_X6_47 hR.B.l0 (hR.B.p 12 (by decide) rfl) ?_
  refine mj_iload_n (pc' := 46) C dX6_take_45 rfl rfl ?_
  refine mj_ialdV (pc' := 47) C dX6_take_46 rfl rfl (by decide) (by decide) (hR.B.l 12 (by decide) rfl) rfl (by first | assumption | omega) (show mI _ 33 0 i = sf S 12 i from hR.v 12 (by decide) rfl (by unfold sl; simp <;> first | assumption | omega)) ?_
  refine mj_callVN_2 (ci := 6) (pc' := 50) C (c_X6_along hst (su S 17 1 (sf S 17 1 - sf S 10 i * bc (best S (fF S i) j))) (fF S i) j (sf S 12 i)) dX6_take_47 rfl km_X6_139 ki_yX6_along kz_yX6_along kn_X6 kc_yX6_along rfl (by decide) (by decide) ⟨rfl, by decide, by decide, by decide +kernel⟩ ⟨by decide, by decide⟩ (Nat.le_of_ble_eq_true rfl) ⟨by decide, by decide⟩ ⟨rfl, hR.C, sW_x hW (by omega), ⟨hg, hj⟩, hT2⟩ (fun r47 μ47 hq47 hm47 => ?_) (fun _ _ h9 => h9)
  obtain ⟨rfl, hq9⟩ := hq47
  have hq9 := hq9.symm
  subst hq9
  dsimp only [Option.toList, List.nil_append, List.cons_append]
  rw [best_cK hcK, alg_cK hcK]
  refine mj_iast (pc' := 51) C dX6_take_50 rfl rfl (by decide) (by decide) (hR.B.l 12 (by decide) rfl) rfl (by first | assumption | omega) ?_
  refine mj_aload_n (pc' := 52) C dX6_take_51 rfl rfl ?_
  refine mj_getR (pc' := 55) C dX6_take_52 rfl (ci := 6) (f := 9) rfl (by decide) (by decide) (fun _ => rfl) (by decide) kf_X6_38 hR.B.l0 (hR.B.p 9 (by decide) rfl) ?_
  refine mj_iload_n (pc' := 56) C dX6_take_55 rfl rfl ?_
  refine mj_iload_n (pc' := 57) C dX6_take_56 rfl rfl ?_
  refine mj_iast (pc' := 58) C dX6_take_57 rfl rfl (by decide) (by decide) (hR.B.l 9 (by decide) rfl) rfl (by first | assumption | omega) ?_
  refine mj_vret C dX6_take_58 (by decide) (by decide) (by decide) ?_
  exact ⟨rfl, mR_v (mR_v hR 33 rfl (by omega)) 30 rfl (by omega), oG_sI (Or.inr (Or.inr rfl)) (oG_sI (Or.inr (Or.inl rfl)) (oG_sI (Or.inl ⟨rfl, rfl⟩) oG.rf))⟩

set_option maxRecDepth 20000 in
theorem c_X6_haven {l : Launch} (hst : l.stackTraces = false) (S : jS) (x : Int32) : jMet l yX6_haven cX6_haven 2 (some FieldType.int) 10 260 0 0 (fun avs μ => avs = [aR 20 0, aI x] ∧ mR S μ ∧ sW S) (fun avs μ r μ' => mret (o_haven S x) kA r μ μ') (fun avs μ E μ' => False) := by
  refine jMet_of hst (by decide) ?_
  intro avs μ J C hav hpre
  obtain ⟨rfl, hR, hW⟩ := hpre
  refine ⟨Nat.le_of_ble_eq_true rfl, ?_⟩
  show J 0 [some (aR 20 0), some (aI x)] [] μ 0 0
  have hW0 := hW.1.1
  have hW1 := hW.1.2
  refine mj_aload_n (pc' := 1) C dX6_haven_0 rfl rfl ?_
  refine mj_iload_n (pc' := 2) C dX6_haven_1 rfl rfl ?_
  refine mj_callVN_1 (ci := 6) (pc' := 5) C (c_X6_isNoFile hst S x) dX6_haven_2 rfl km_X6_163 ki_yX6_isNoFile kz_yX6_isNoFile kn_X6 kc_yX6_isNoFile rfl (by decide) (by decide) ⟨rfl, by decide, by decide, by decide +kernel⟩ ⟨by decide, by decide⟩ (Nat.le_of_ble_eq_true rfl) ⟨by decide, by decide⟩ ⟨rfl, hR, hW⟩ (fun r2 μ2 hq2 hm2 => ?_) (fun _ _ h9 => h9)
  obtain ⟨rfl, hq9⟩ := hq2
  have hq9 := hq9.symm
  subst hq9
  dsimp only [Option.toList, List.nil_append, List.cons_append]
  refine mj_if_eq (tgt := 14) (pc' := 8) C dX6_haven_5 (by decide) rfl (fun h5 => ?_) (fun h5 => ?_)
  · have hb1 := b1_0.mp h5
    obtain ⟨i, hi, rfl, ei⟩ := bad_of hb1 (by omega)
    refine mj_aload_n (pc' := 15) C dX6_haven_14 rfl rfl ?_
    refine mj_iconst (pc' := 16) (v := 0) C dX6_haven_15 rfl rfl ?_
    refine mj_putI (pc' := 19) C dX6_haven_16 rfl (ci := 6) (f := 35) rfl (by decide) (by decide) rfl (fun _ _ => rfl) (by decide) kf_X6_105 rfl rfl hR.B.l0 ?_
    have hR := mR_x (kd := 20) (i := 0) (z := 35) (v := 0) hR (Or.inl ⟨rfl, rfl⟩)
    refine mj_aload_n (pc' := 20) C dX6_haven_19 rfl rfl ?_
    refine mj_callVN_0 (ci := 6) (pc' := 23) C (c_X6_find hst S) dX6_haven_20 rfl km_X6_157 ki_yX6_find kz_yX6_find kn_X6 kc_yX6_find rfl (by decide) (by decide) ⟨rfl, by decide, by decide, by decide +kernel⟩ ⟨by decide, by decide⟩ (Nat.le_of_ble_eq_true rfl) ⟨by decide, by decide⟩ ⟨rfl, hR, hW⟩ (fun r20 μ20 hq20 hm20 => ?_) (fun _ _ h9 => h9)
    obtain ⟨rfl, hR20, hO20, h120⟩ := hq20
    dsimp only [Option.toList, List.nil_append, List.cons_append]
    have hR := hR20
    refine mj_aload_n (pc' := 24) C dX6_haven_23 rfl rfl ?_
    refine mj_iload_n (pc' := 25) C dX6_haven_24 rfl rfl ?_
    refine mj_callVN_1 (ci := 6) (pc' := 28) C (c_X6_havenOf hst S i) dX6_haven_25 rfl km_X6_160 ki_yX6_havenOf kz_yX6_havenOf kn_X6 kc_yX6_havenOf rfl (by decide) (by decide) ⟨rfl, by decide, by decide, by decide +kernel⟩ ⟨by decide, by decide⟩ (Nat.le_of_ble_eq_true rfl) ⟨by decide, by decide⟩ ⟨rfl, hR, hW, hi, fun a ha => hR.tab h120 ha⟩ (fun r25 μ25 hq25 hm25 => ?_) (fun _ _ h9 => h9)
    obtain ⟨rfl, hq9⟩ := hq25
    have hq9 := hq9.symm
    subst hq9
    dsimp only [Option.toList, List.nil_append, List.cons_append]
    refine mj_iret C dX6_haven_28 (by decide) (by decide) (by decide) ?_
    exact mret_of (o := o_haven S (nI i)) (by unfold o_haven; rw [if_neg hb1, ei]) (z35f z35 hO20) hR ((mF_sI (by decide) mF.rf).tr hO20.f2)
  · have ho : o_haven S x = (1, 0, S) := by unfold o_haven; rw [if_pos (b1_n h5)]
    refine mj_aload_n (pc' := 9) C dX6_haven_8 rfl rfl ?_
    refine mj_iconst (pc' := 10) (v := 1) C dX6_haven_9 rfl rfl ?_
    refine mj_callVN_1 (ci := 6) (pc' := 13) C (c_X6_fails hst S 1) dX6_haven_10 rfl km_X6_150 ki_yX6_fails kz_yX6_fails kn_X6 kc_yX6_fails rfl (by decide) (by decide) ⟨rfl, by decide, by decide, by decide +kernel⟩ ⟨by decide, by decide⟩ (Nat.le_of_ble_eq_true rfl) ⟨by decide, by decide⟩ ⟨rfl, hR⟩ (fun r10 μ10 hq10 hm10 => ?_) (fun _ _ h9 => h9)
    obtain ⟨rfl, hq9⟩ := hq10
    have hq9 := hq9.symm
    subst hq9
    dsimp only [Option.toList, List.nil_append, List.cons_append]
    refine mj_iret C dX6_haven_13 (by decide) (by decide) (by decide) ?_
    exact mfail ho rfl (by decide) rfl rfl (mR_x hR (Or.inl ⟨rfl, rfl⟩)) mF.rf

set_option maxRecDepth 20000 in
theorem c_X6_move {l : Launch} (hst : l.stackTraces = false) (S : jS) (x f : Int32) : jMet l yX6_move cX6_move 3 (some FieldType.int) 10 260 0 0 (fun avs μ => avs = [aR 20 0, aI x, aI f] ∧ mR S μ ∧ sW S) (fun avs μ r μ' => mret (o_move S x f) kA r μ μ') (fun avs μ E μ' => False) := by
  refine jMet_of hst (by decide) ?_
  intro avs μ J C hav hpre
  obtain ⟨rfl, hR, hW⟩ := hpre
  refine ⟨Nat.le_of_ble_eq_true rfl, ?_⟩
  show J 0 [some (aR 20 0), some (aI x), some (aI f)] [] μ 0 0
  have hW0 := hW.1.1
  have hW1 := hW.1.2
  refine mj_aload_n (pc' := 1) C dX6_move_0 rfl rfl ?_
  refine mj_iload_n (pc' := 2) C dX6_move_1 rfl rfl ?_
  refine mj_callVN_1 (ci := 6) (pc' := 5) C (c_X6_isNoFile hst S x) dX6_move_2 rfl km_X6_163 ki_yX6_isNoFile kz_yX6_isNoFile kn_X6 kc_yX6_isNoFile rfl (by decide) (by decide) ⟨rfl, by decide, by decide, by decide +kernel⟩ ⟨by decide, by decide⟩ (Nat.le_of_ble_eq_true rfl) ⟨by decide, by decide⟩ ⟨rfl, hR, hW⟩ (fun r2 μ2 hq2 hm2 => ?_) (fun _ _ h9 => h9)
  obtain ⟨rfl, hq9⟩ := hq2
  have hq9 := hq9.symm
  subst hq9
  dsimp only [Option.toList, List.nil_append, List.cons_append]
  refine mj_if_ne (tgt := 15) (pc' := 8) C dX6_move_5 (by decide) rfl (fun h5 => ?_) (fun h5 => ?_)
  · have ho : o_move S x f = (1, 0, S) := by unfold o_move; rw [if_pos (Or.inl (b1_n h5))]
    refine mj_aload_n (pc' := 16) C dX6_move_15 rfl rfl ?_
    refine mj_iconst (pc' := 17) (v := 1) C dX6_move_16 rfl rfl ?_
    refine mj_callVN_1 (ci := 6) (pc' := 20) C (c_X6_fails hst S 1) dX6_move_17 rfl km_X6_150 ki_yX6_fails kz_yX6_fails kn_X6 kc_yX6_fails rfl (by decide) (by decide) ⟨rfl, by decide, by decide, by decide +kernel⟩ ⟨by decide, by decide⟩ (Nat.le_of_ble_eq_true rfl) ⟨by decide, by decide⟩ ⟨rfl, hR⟩ (fun r17 μ17 hq17 hm17 => ?_) (fun _ _ h9 => h9)
    obtain ⟨rfl, hq9⟩ := hq17
    have hq9 := hq9.symm
    subst hq9
    dsimp only [Option.toList, List.nil_append, List.cons_append]
    refine mj_iret C dX6_move_20 (by decide) (by decide) (by decide) ?_
    exact mfail ho rfl (by decide) rfl rfl (mR_x hR (Or.inl ⟨rfl, rfl⟩)) mF.rf
  · have hb1 := b1_0.mp h5
    obtain ⟨i, hi, rfl, ei⟩ := bad_of hb1 (by omega)
    obtain ⟨hg, eg⟩ := fF_of hW hi
    refine mj_iload_n (pc' := 9) C dX6_move_8 rfl rfl ?_
    refine mj_callSN_1 (pc' := 12) C (c_X6_isNoFormat hst f) dX6_move_9 rfl km_X6_146 ks_yX6_isNoFormat kn_X6 kc_yX6_isNoFormat ⟨by decide, by decide, by decide +kernel⟩ ⟨by decide, by decide⟩ (Nat.le_of_ble_eq_true rfl) ⟨by decide, by decide⟩ rfl (fun r9 μ9 hq9 hm9 => ?_) (fun _ _ h9 => h9)
    obtain ⟨rfl, hq9⟩ := hq9
    have hq9 := hq9.symm
    subst hq9
    dsimp only [Option.toList, List.nil_append, List.cons_append]
    refine mj_if_eq (tgt := 21) (pc' := 15) C dX6_move_12 (by decide) rfl (fun h12 => ?_) (fun h12 => ?_)
    · have hb2 := b1_0.mp h12
      obtain ⟨j, hj, rfl, ej⟩ := bad_of hb2 (by decide)
      refine mj_iload_n (pc' := 22) C dX6_move_21 rfl rfl ?_
      refine mj_aload_n (pc' := 23) C dX6_move_22 rfl rfl ?_
      refine mj_getR (pc' := 26) C dX6_move_23 rfl (ci := 6) (f := 9) rfl (by decide) (by decide) (fun _ => rfl) (by decide) kf_X6_38 hR.B.l0 (hR.B.p 9 (by decide) rfl) ?_
      refine mj_iload_n (pc' := 27) C dX6_move_26 rfl rfl ?_
      refine mj_ialdV (pc' := 28) C dX6_move_27 rfl rfl (by decide) (by decide) (hR.B.l 9 (by decide) rfl) rfl (by first | assumption | omega) (hR.v 9 (by decide) rfl (by unfold sl; simp <;> first | assumption | omega)) ?_
      refine mj_icmp_ne (tgt := 37) (pc' := 31) C dX6_move_28 (by decide) rfl (fun h28 => ?_) (fun h28 => ?_)
      · have h15 : ¬ sf S 9 i = nI j := fun q => h28 q.symm
        refine mj_aload_n (pc' := 38) C dX6_move_37 rfl rfl ?_
        refine mj_callVN_0 (ci := 6) (pc' := 41) C (c_X6_find hst S) dX6_move_38 rfl km_X6_157 ki_yX6_find kz_yX6_find kn_X6 kc_yX6_find rfl (by decide) (by decide) ⟨rfl, by decide, by decide, by decide +kernel⟩ ⟨by decide, by decide⟩ (Nat.le_of_ble_eq_true rfl) ⟨by decide, by decide⟩ ⟨rfl, hR, hW⟩ (fun r38 μ38 hq38 hm38 => ?_) (fun _ _ h9 => h9)
        obtain ⟨rfl, hR38, hO38, h138⟩ := hq38
        dsimp only [Option.toList, List.nil_append, List.cons_append]
        have hR := hR38
        refine mj_aload_n (pc' := 42) C dX6_move_41 rfl rfl ?_
        refine mj_getR (pc' := 45) C dX6_move_42 rfl (ci := 6) (f := 15) rfl (by decide) (by decide) (fun _ => rfl) (by decide) kf_X6_56 hR.B.l0 (hR.B.p 15 (by decide) rfl) ?_
        refine mj_iload_n (pc' := 46) C dX6_move_45 rfl rfl ?_
        refine mj_ialdV (pc' := 47) C dX6_move_46 rfl rfl (by decide) (by decide) (hR.B.l 15 (by decide) rfl) rfl (by first | assumption | omega) (hR.v 15 (by decide) rfl (by unfold sl; simp <;> first | assumption | omega)) ?_
        refine mj_if_ne (tgt := 87) (pc' := 50) C dX6_move_47 (by decide) rfl (fun h47 => ?_) (fun h47 => ?_)
        · have ho : o_move S (nI i) (nI j) = (3, 0, S) := by unfold o_move; rw [if_neg (fun h => h.elim hb1 hb2), ei, ej, if_neg h15, if_pos (Or.inl h47)]
          refine mj_aload_n (pc' := 88) C dX6_move_87 rfl rfl ?_
          refine mj_iconst (pc' := 89) (v := 3) C dX6_move_88 rfl rfl ?_
          refine mj_callVN_1 (ci := 6) (pc' := 92) C (c_X6_fails hst S 3) dX6_move_89 rfl km_X6_150 ki_yX6_fails kz_yX6_fails kn_X6 kc_yX6_fails rfl (by decide) (by decide) ⟨rfl, by decide, by decide, by decide +kernel⟩ ⟨by decide, by decide⟩ (Nat.le_of_ble_eq_true rfl) ⟨by decide, by decide⟩ ⟨rfl, hR⟩ (fun r89 μ89 hq89 hm89 => ?_) (fun _ _ h9 => h9)
          obtain ⟨rfl, hq9⟩ := hq89
          have hq9 := hq9.symm
          subst hq9
          dsimp only [Option.toList, List.nil_append, List.cons_append]
          refine mj_iret C dX6_move_92 (by decide) (by decide) (by decide) ?_
          exact mfail ho rfl (by decide) rfl rfl (mR_x hR (Or.inl ⟨rfl, rfl⟩)) hO38.f2
        · refine mj_aload_n (pc' := 51) C dX6_move_50 rfl rfl ?_
          refine mj_iload_n (pc' := 52) C dX6_move_51 rfl rfl ?_
          refine mj_callVN_1 (ci := 6) (pc' := 55) C (c_X6_canBeRead hst S j) dX6_move_52 rfl km_X6_154 ki_yX6_canBeRead kz_yX6_canBeRead kn_X6 kc_yX6_canBeRead rfl (by decide) (by decide) ⟨rfl, by decide, by decide, by decide +kernel⟩ ⟨by decide, by decide⟩ (Nat.le_of_ble_eq_true rfl) ⟨by decide, by decide⟩ ⟨rfl, hR, hj⟩ (fun r52 μ52 hq52 hm52 => ?_) (fun _ _ h9 => h9)
          obtain ⟨rfl, hq9⟩ := hq52
          have hq9 := hq9.symm
          subst hq9
          dsimp only [Option.toList, List.nil_append, List.cons_append]
          refine mj_if_eq (tgt := 87) (pc' := 58) C dX6_move_55 (by decide) rfl (fun h55 => ?_) (fun h55 => ?_)
          · have ho : o_move S (nI i) (nI j) = (3, 0, S) := by unfold o_move; rw [if_neg (fun h => h.elim hb1 hb2), ei, ej, if_neg h15, if_pos (Or.inr (Or.inl (b1_0.mp h55)))]
            refine mj_aload_n (pc' := 88) C dX6_move_87 rfl rfl ?_
            refine mj_iconst (pc' := 89) (v := 3) C dX6_move_88 rfl rfl ?_
            refine mj_callVN_1 (ci := 6) (pc' := 92) C (c_X6_fails hst S 3) dX6_move_89 rfl km_X6_150 ki_yX6_fails kz_yX6_fails kn_X6 kc_yX6_fails rfl (by decide) (by decide) ⟨rfl, by decide, by decide, by decide +kernel⟩ ⟨by decide, by decide⟩ (Nat.le_of_ble_eq_true rfl) ⟨by decide, by decide⟩ ⟨rfl, hR⟩ (fun r89 μ89 hq89 hm89 => ?_) (fun _ _ h9 => h9)
            obtain ⟨rfl, hq9⟩ := hq89
            have hq9 := hq9.symm
            subst hq9
            dsimp only [Option.toList, List.nil_append, List.cons_append]
            refine mj_iret C dX6_move_92 (by decide) (by decide) (by decide) ?_
            exact mfail ho rfl (by decide) rfl rfl (mR_x hR (Or.inl ⟨rfl, rfl⟩)) hO38.f2
          · refine mj_aload_n (pc' := 59) C dX6_move_58 rfl rfl ?_
            refine mj_getR (pc' := 62) C dX6_move_59 rfl (ci := 6) (f := 19) rfl (by decide) (by decide) (fun _ => rfl) (by decide) kf_X6_68 hR.B.l0 (hR.B.p 19 (by decide) rfl) ?_
            refine mj_bipush (pc' := 64) (v := 10) C dX6_move_62 rfl rfl ?_
            refine mj_aload_n (pc' := 65) C dX6_move_64 rfl rfl ?_
            refine mj_getR (pc' := 68) C dX6_move_65 rfl (ci := 6) (f := 9) rfl (by decide) (by decide) (fun _ => rfl) (by decide) kf_X6_38 hR.B.l0 (hR.B.p 9 (by decide) rfl) ?_
            refine mj_iload_n (pc' := 69) C dX6_move_68 rfl rfl ?_
            refine mj_ialdV (pc' := 70) C dX6_move_69 rfl rfl (by decide) (by decide) (hR.B.l 9 (by decide) rfl) rfl (by first | assumption | omega) ((hR.v 9 (by decide) rfl (by unfold sl; simp <;> first | assumption | omega)).trans eg) ?_
            refine mj_imul (pc' := 71) C dX6_move_70 rfl ?_
            refine mj_iload_n (pc' := 72) C dX6_move_71 rfl rfl ?_
            refine mj_iadd (pc' := 73) C dX6_move_72 rfl ?_
            rw [i10]
            refine mj_ialdV (pc' := 74) C dX6_move_73 rfl rfl (by decide) (by decide) (hR.B.l 19 (by decide) rfl) rfl (by omega) ((hR.tab h138 hg) j hj).1 ?_
            refine mj_iconst (pc' := 75) (v := (-1)) C dX6_move_74 rfl rfl ?_
            refine mj_icmp_eq (tgt := 87) (pc' := 78) C dX6_move_75 (by decide) rfl (fun h75 => ?_) (fun h75 => ?_)
            · have ho : o_move S (nI i) (nI j) = (3, 0, S) := by unfold o_move; rw [if_neg (fun h => h.elim hb1 hb2), ei, ej, if_neg h15, if_pos (Or.inr (Or.inr (Or.inl h75)))]
              refine mj_aload_n (pc' := 88) C dX6_move_87 rfl rfl ?_
              refine mj_iconst (pc' := 89) (v := 3) C dX6_move_88 rfl rfl ?_
              refine mj_callVN_1 (ci := 6) (pc' := 92) C (c_X6_fails hst S 3) dX6_move_89 rfl km_X6_150 ki_yX6_fails kz_yX6_fails kn_X6 kc_yX6_fails rfl (by decide) (by decide) ⟨rfl, by decide, by decide, by decide +kernel⟩ ⟨by decide, by decide⟩ (Nat.le_of_ble_eq_true rfl) ⟨by decide, by decide⟩ ⟨rfl, hR⟩ (fun r89 μ89 hq89 hm89 => ?_) (fun _ _ h9 => h9)
              obtain ⟨rfl, hq9⟩ := hq89
              have hq9 := hq9.symm
              subst hq9
              dsimp only [Option.toList, List.nil_append, List.cons_append]
              refine mj_iret C dX6_move_92 (by decide) (by decide) (by decide) ?_
              exact mfail ho rfl (by decide) rfl rfl (mR_x hR (Or.inl ⟨rfl, rfl⟩)) hO38.f2
            · refine mj_aload_n (pc' := 79) C dX6_move_78 rfl rfl ?_
              refine mj_iload_n (pc' := 80) C dX6_move_79 rfl rfl ?_
              refine mj_iload_n (pc' := 81) C dX6_move_80 rfl rfl ?_
              refine mj_callVN_2 (ci := 6) (pc' := 84) C (c_X6_affords hst S i j) dX6_move_81 rfl km_X6_166 ki_yX6_affords kz_yX6_affords kn_X6 kc_yX6_affords rfl (by decide) (by decide) ⟨rfl, by decide, by decide, by decide +kernel⟩ ⟨by decide, by decide⟩ (Nat.le_of_ble_eq_true rfl) ⟨by decide, by decide⟩ ⟨rfl, hR, hW, ⟨hi, hj⟩, fun a ha => hR.tab h138 ha⟩ (fun r81 μ81 hq81 hm81 => ?_) (fun _ _ h9 => h9)
              obtain ⟨rfl, hq9⟩ := hq81
              have hq9 := hq9.symm
              subst hq9
              dsimp only [Option.toList, List.nil_append, List.cons_append]
              refine mj_if_ne (tgt := 93) (pc' := 87) C dX6_move_84 (by decide) rfl (fun h84 => ?_) (fun h84 => ?_)
              · have hRo := hR
                refine mj_aload_n (pc' := 94) C dX6_move_93 rfl rfl ?_
                refine mj_iconst (pc' := 95) (v := 0) C dX6_move_94 rfl rfl ?_
                refine mj_putI (pc' := 98) C dX6_move_95 rfl (ci := 6) (f := 35) rfl (by decide) (by decide) rfl (fun _ _ => rfl) (by decide) kf_X6_105 rfl rfl hR.B.l0 ?_
                have hR := mR_x (kd := 20) (i := 0) (z := 35) (v := 0) hR (Or.inl ⟨rfl, rfl⟩)
                refine mj_aload_n (pc' := 99) C dX6_move_98 rfl rfl ?_
                refine mj_iload_n (pc' := 100) C dX6_move_99 rfl rfl ?_
                refine mj_iload_n (pc' := 101) C dX6_move_100 rfl rfl ?_
                refine mj_callVN_2 (ci := 6) (pc' := 104) C (c_X6_take hst S i j) dX6_move_101 rfl km_X6_169 ki_yX6_take kz_yX6_take kn_X6 kc_yX6_take rfl (by decide) (by decide) ⟨rfl, by decide, by decide, by decide +kernel⟩ ⟨by decide, by decide⟩ (Nat.le_of_ble_eq_true rfl) ⟨by decide, by decide⟩ ⟨rfl, hR, hW, ⟨hi, hj⟩, fun a ha => mTab_same (hRo.tab h138 ha) (fun kd z hq => mI_sI_n _ _ _ _ _ (by unfold tQ at hq; omega))⟩ (fun r101 μ101 hq101 hm101 => ?_) (fun _ _ h9 => h9)
                obtain ⟨rfl, hR101, hO101⟩ := hq101
                dsimp only [Option.toList, List.nil_append, List.cons_append]
                have hR := hR101
                have e12 : sf (tk S i j) 12 i = alg S (bw (best S (fF S i) j)) (sf S 12 i) := by simp [tk, sf_su]
                refine mj_aload_n (pc' := 105) C dX6_move_104 rfl rfl ?_
                refine mj_getR (pc' := 108) C dX6_move_105 rfl (ci := 6) (f := 12) rfl (by decide) (by decide) (fun _ => rfl) (by decide) kf_X6_47 hR.B.l0 (hR.B.p 12 (by decide) rfl) ?_
                refine mj_iload_n (pc' := 109) C dX6_move_108 rfl rfl ?_
                refine mj_ialdV (pc' := 110) C dX6_move_109 rfl rfl (by decide) (by decide) (hR.B.l 12 (by decide) rfl) rfl (by first | assumption | omega) ((hR.v 12 (by decide) rfl (by unfold sl; simp <;> first | assumption | omega)).trans e12) ?_
                refine mj_iret C dX6_move_110 (by decide) (by decide) (by decide) ?_
                refine mret_of (o := o_move S (nI i) (nI j)) ?_ ((hO101.2 20 0 35 (by omega)).trans z35) hR ((hO38.f2.tr (mF_sI (by decide) mF.rf)).tr (fun kd hk => ⟨by rw [hO101.1.1], fun y z => ⟨hO101.2 kd y z (by omega), by rw [hO101.1.2.1], by rw [hO101.1.2.2]⟩⟩))
                unfold o_move; rw [if_neg (fun h => h.elim hb1 hb2), ei, ej, if_neg h15, if_neg]
                rintro (h | h | h | h)
                · exact h h47
                · exact h (b1_n h55)
                · exact h75 h
                · exact absurd h (Int32.not_lt.mpr (b1_n h84))
              · have ho : o_move S (nI i) (nI j) = (3, 0, S) := by unfold o_move; rw [if_neg (fun h => h.elim hb1 hb2), ei, ej, if_neg h15, if_pos (Or.inr (Or.inr (Or.inr (Int32.not_le.mp (b1_0.mp h84)))))]
                refine mj_aload_n (pc' := 88) C dX6_move_87 rfl rfl ?_
                refine mj_iconst (pc' := 89) (v := 3) C dX6_move_88 rfl rfl ?_
                refine mj_callVN_1 (ci := 6) (pc' := 92) C (c_X6_fails hst S 3) dX6_move_89 rfl km_X6_150 ki_yX6_fails kz_yX6_fails kn_X6 kc_yX6_fails rfl (by decide) (by decide) ⟨rfl, by decide, by decide, by decide +kernel⟩ ⟨by decide, by decide⟩ (Nat.le_of_ble_eq_true rfl) ⟨by decide, by decide⟩ ⟨rfl, hR⟩ (fun r89 μ89 hq89 hm89 => ?_) (fun _ _ h9 => h9)
                obtain ⟨rfl, hq9⟩ := hq89
                have hq9 := hq9.symm
                subst hq9
                dsimp only [Option.toList, List.nil_append, List.cons_append]
                refine mj_iret C dX6_move_92 (by decide) (by decide) (by decide) ?_
                exact mfail ho rfl (by decide) rfl rfl (mR_x hR (Or.inl ⟨rfl, rfl⟩)) hO38.f2
      · have ho : o_move S (nI i) (nI j) = (2, 0, S) := by unfold o_move; rw [if_neg (fun h => h.elim hb1 hb2), ei, if_pos h28.symm]
        refine mj_aload_n (pc' := 32) C dX6_move_31 rfl rfl ?_
        refine mj_iconst (pc' := 33) (v := 2) C dX6_move_32 rfl rfl ?_
        refine mj_callVN_1 (ci := 6) (pc' := 36) C (c_X6_fails hst S 2) dX6_move_33 rfl km_X6_150 ki_yX6_fails kz_yX6_fails kn_X6 kc_yX6_fails rfl (by decide) (by decide) ⟨rfl, by decide, by decide, by decide +kernel⟩ ⟨by decide, by decide⟩ (Nat.le_of_ble_eq_true rfl) ⟨by decide, by decide⟩ ⟨rfl, hR⟩ (fun r33 μ33 hq33 hm33 => ?_) (fun _ _ h9 => h9)
        obtain ⟨rfl, hq9⟩ := hq33
        have hq9 := hq9.symm
        subst hq9
        dsimp only [Option.toList, List.nil_append, List.cons_append]
        refine mj_iret C dX6_move_36 (by decide) (by decide) (by decide) ?_
        exact mfail ho rfl (by decide) rfl rfl (mR_x hR (Or.inl ⟨rfl, rfl⟩)) mF.rf
    · have ho : o_move S (nI i) f = (1, 0, S) := by unfold o_move; rw [if_pos (Or.inr (b1_n h12))]
      refine mj_aload_n (pc' := 16) C dX6_move_15 rfl rfl ?_
      refine mj_iconst (pc' := 17) (v := 1) C dX6_move_16 rfl rfl ?_
      refine mj_callVN_1 (ci := 6) (pc' := 20) C (c_X6_fails hst S 1) dX6_move_17 rfl km_X6_150 ki_yX6_fails kz_yX6_fails kn_X6 kc_yX6_fails rfl (by decide) (by decide) ⟨rfl, by decide, by decide, by decide +kernel⟩ ⟨by decide, by decide⟩ (Nat.le_of_ble_eq_true rfl) ⟨by decide, by decide⟩ ⟨rfl, hR⟩ (fun r17 μ17 hq17 hm17 => ?_) (fun _ _ h9 => h9)
      obtain ⟨rfl, hq9⟩ := hq17
      have hq9 := hq9.symm
      subst hq9
      dsimp only [Option.toList, List.nil_append, List.cons_append]
      refine mj_iret C dX6_move_20 (by decide) (by decide) (by decide) ?_
      exact mfail ho rfl (by decide) rfl rfl (mR_x hR (Or.inl ⟨rfl, rfl⟩)) mF.rf
