/-! THE LAW'S OWN METHODS -/

set_option maxRecDepth 20000 in
theorem c_L_low {l : Launch} (hst : l.stackTraces = false) (v : Int32) (n : Nat) (hn : 0 < n ∧ n < 2 ^ 31) : jMet l yL_low cL_low 2 (some FieldType.int) 6 100 0 0 (fun avs μ => avs = [aI v, aI (nI n)]) (fun avs μ r μ' => (∃ u, u < n ∧ r = some (aI (nI u))) ∧ μ' = μ) (fun avs μ E μ' => False) := by
  refine jMet_of hst (by decide) ?_
  intro avs μ J C hav hpre
  subst hpre
  refine ⟨Nat.le_of_ble_eq_true rfl, ?_⟩
  show J 0 [some (aI v), some (aI (nI n))] [] μ 0 0
  refine mj_iload_n (pc' := 1) C dL_low_0 rfl rfl ?_
  refine mj_ldc (pc' := 3) C dL_low_1 rfl kk_L_9 ?_
  refine mj_iand (pc' := 4) C dL_low_3 rfl ?_
  refine mj_iload_n (pc' := 5) C dL_low_4 rfl rfl ?_
  refine mj_irem (pc' := 6) C dL_low_5 rfl (nI_ne0 hn.1 hn.2) ?_
  refine mj_iret C dL_low_6 (by decide) (by decide) (by decide) ?_
  obtain ⟨u, hu, eu⟩ := low_N v hn.1 hn.2
  exact ⟨⟨u, hu, congrArg (fun x => some (aI x)) eu⟩, rfl⟩

set_option maxHeartbeats 2000000 in
set_option maxRecDepth 20000 in
theorem isF_139 {l : Launch} (hst : l.stackTraces = false) {J : Nat → List (Option jV) → List jV → jM → Nat → Nat → Prop} {μ0 : jM} (S : jS) (i : Nat) (m : Int32) (C : jCtx l J cL_isFile 15 RL { frames := 19, cells := 10, slots := 60, locals := 620 } (some FieldType.boolean) 0 [] (fun r μ' => r = some (aI 1) ∧ xR S μ' ∧ xF μ0 μ') (fun _ _ => False) 10 60) (hW : sW S) (hi : i < sn S 0) {μ : jM} {k n : Nat} (hk : k ≤ 10) (hn : n ≤ 60) (hR : xR S μ) (hF : xF μ0 μ) : J 139 [some (aR 0 0), some (aI (nI i)), some (aI (sf S 15 i)), some (aI (sf S 9 i)), some (aI m), some (aI (sf S 7 (fL S i))), some (aI (sf S 13 i)), some (aI (sf S 0 (fF S i))), some (aI (hv S i)), some (aI (b1 (sf S 15 i = 0 ∧ safe S i (fF S i)))), some (aI 1), some (aI 1), some (aI 1), none, none] [aI 1] μ k n := by
  refine mj_istore_13 (pc' := 141) C dL_isFile_139 rfl (by decide) rfl ?_
  refine mj_iload (pc' := 143) C dL_isFile_141 rfl rfl ?_
  refine mj_iconst (pc' := 144) (v := (-1)) C dL_isFile_143 rfl rfl ?_
  refine jn (tgt := 161) (v := aI 1) (st := []) (fun K144 => ?_) ?_
  · refine mj_icmp_ne (tgt := 156) (pc' := 147) C dL_isFile_144 (by decide) rfl (fun h144 => ?_) (fun h144 => ?_)
    · refine mj_iconst (pc' := 157) (v := 1) C dL_isFile_156 rfl rfl ?_
      refine mj_goto (pc' := 161) C dL_isFile_157 (by decide) ?_
      exact K144
    · refine mj_iload_n (pc' := 148) C dL_isFile_147 rfl rfl ?_
      refine mj_if_ne (tgt := 156) (pc' := 151) C dL_isFile_148 (by decide) rfl (fun h148 => ?_) (fun h148 => ?_)
      · refine mj_iconst (pc' := 157) (v := 1) C dL_isFile_156 rfl rfl ?_
        refine mj_goto (pc' := 161) C dL_isFile_157 (by decide) ?_
        exact K144
      · refine mj_iload (pc' := 153) C dL_isFile_151 rfl rfl ?_
        refine mj_if_eq (tgt := 160) (pc' := 156) C dL_isFile_153 (by decide) rfl (fun h9 => absurd h9 (show ¬ b1 (sf S 15 i = 0 ∧ safe S i (fF S i)) = 0 from by rw [b1_t ⟨h148, Or.inl h144⟩]; decide)) (fun _ => ?_)
        refine mj_iconst (pc' := 157) (v := 1) C dL_isFile_156 rfl rfl ?_
        refine mj_goto (pc' := 161) C dL_isFile_157 (by decide) ?_
        exact K144
  refine mj_istore_14 (pc' := 163) C dL_isFile_161 rfl (by decide) rfl ?_
  refine mj_iload (pc' := 165) C dL_isFile_163 rfl rfl ?_
  refine mj_if_eq (tgt := 192) (pc' := 168) C dL_isFile_165 (by decide) rfl (fun h9 => absurd h9 (by decide)) (fun _ => ?_)
  refine mj_iload (pc' := 170) C dL_isFile_168 rfl rfl ?_
  refine mj_if_eq (tgt := 192) (pc' := 173) C dL_isFile_170 (by decide) rfl (fun h9 => absurd h9 (by decide)) (fun _ => ?_)
  refine mj_iload (pc' := 175) C dL_isFile_173 rfl rfl ?_
  refine mj_if_eq (tgt := 192) (pc' := 178) C dL_isFile_175 (by decide) rfl (fun h9 => absurd h9 (by decide)) (fun _ => ?_)
  refine mj_iload (pc' := 180) C dL_isFile_178 rfl rfl ?_
  refine mj_if_eq (tgt := 192) (pc' := 183) C dL_isFile_180 (by decide) rfl (fun h9 => absurd h9 (by decide)) (fun _ => ?_)
  refine mj_iload (pc' := 185) C dL_isFile_183 rfl rfl ?_
  refine mj_if_eq (tgt := 192) (pc' := 188) C dL_isFile_185 (by decide) rfl (fun h9 => absurd h9 (by decide)) (fun _ => ?_)
  refine mj_iconst (pc' := 189) (v := 1) C dL_isFile_188 rfl rfl ?_
  refine mj_goto (pc' := 193) C dL_isFile_189 (by decide) ?_
  refine mj_zret C (by decide) dL_isFile_193 (by decide) (by first | decide | (show _ ≤ (10 : Nat); omega) | (show _ ≤ (60 : Nat); omega)) (by first | decide | (show _ ≤ (10 : Nat); omega) | (show _ ≤ (60 : Nat); omega)) ?_
  exact ⟨rfl, hR, hF⟩

set_option maxHeartbeats 2000000 in
set_option maxRecDepth 20000 in
theorem isF_115 {l : Launch} (hst : l.stackTraces = false) {J : Nat → List (Option jV) → List jV → jM → Nat → Nat → Prop} {μ0 : jM} (S : jS) (i : Nat) (m : Int32) (C : jCtx l J cL_isFile 15 RL { frames := 19, cells := 10, slots := 60, locals := 620 } (some FieldType.boolean) 0 [] (fun r μ' => r = some (aI 1) ∧ xR S μ' ∧ xF μ0 μ') (fun _ _ => False) 10 60) (hW : sW S) (hi : i < sn S 0) {μ : jM} {k n : Nat} (hk : k ≤ 8) (hn : n ≤ 48) (hR : xR S μ) (hF : xF μ0 μ) : J 115 [some (aR 0 0), some (aI (nI i)), some (aI (sf S 15 i)), some (aI (sf S 9 i)), some (aI m), some (aI (sf S 7 (fL S i))), some (aI (sf S 13 i)), some (aI (sf S 0 (fF S i))), some (aI (hv S i)), some (aI (b1 (sf S 15 i = 0 ∧ safe S i (fF S i)))), some (aI 1), some (aI 1), none, none, none] [aI 1] μ k n := by
  refine mj_istore_12 (pc' := 117) C dL_isFile_115 rfl (by decide) rfl ?_
  refine mj_iload (pc' := 119) C dL_isFile_117 rfl rfl ?_
  refine mj_iconst (pc' := 120) (v := (-1)) C dL_isFile_119 rfl rfl ?_
  refine mj_icmp_eq (tgt := 134) (pc' := 123) C dL_isFile_120 (by decide) rfl (fun h120 => ?_) (fun h120 => ?_)
  · refine mj_iconst (pc' := 135) (v := 1) C dL_isFile_134 rfl rfl ?_
    refine mj_goto (pc' := 139) C dL_isFile_135 (by decide) ?_
    exact isF_139 hst S i m C hW hi (by omega) (by omega) hR hF
  · obtain ⟨hs, j, hj, ej, hq, -⟩ := hv_some h120
    obtain ⟨hg, eg⟩ := fF_of hW hi
    rw [ej, eg]
    refine mj_aload_n (pc' := 124) C dL_isFile_123 rfl rfl ?_
    refine mj_iload_n (pc' := 125) C dL_isFile_124 rfl rfl ?_
    refine mj_iload (pc' := 127) C dL_isFile_125 rfl rfl ?_
    refine mj_callVN_2 (ci := 5) (pc' := 130) C (c_X5_quality hst S (nI (fF S i)) (nI j)) dL_isFile_127 rfl km_L_10 ki_yX5_quality kz_yX5_quality kn_X5 kc_yX5_quality rfl (by decide) (by decide) ⟨rfl, by decide, by decide, by decide +kernel⟩ ⟨by decide, by decide⟩ (Nat.le_of_ble_eq_true rfl) ⟨by first | decide | (show _ ≤ (10 : Nat); omega) | (show _ ≤ (60 : Nat); omega), by first | decide | (show _ ≤ (10 : Nat); omega) | (show _ ≤ (60 : Nat); omega)⟩ ⟨rfl, hR, hW⟩ (fun r127 μ127 hq127 hm127 => ?_) (fun _ _ h9 => jno_of (oe_quality hg hj) h9)
    obtain ⟨rfl, hR127, hF127⟩ := jret_of (oe_quality hg hj) hq127
    dsimp only [Option.toList, List.nil_append, List.cons_append]
    have hR := hR127
    have hF := hF.tr hF127
    refine mj_iconst (pc' := 131) (v := (-1)) C dL_isFile_130 rfl rfl ?_
    refine mj_icmp_eq (tgt := 138) (pc' := 134) C dL_isFile_131 (by decide) rfl (fun h9 => absurd h9 hq) (fun _ => ?_)
    refine mj_iconst (pc' := 135) (v := 1) C dL_isFile_134 rfl rfl ?_
    refine mj_goto (pc' := 139) C dL_isFile_135 (by decide) ?_
    rw [← ej, ← eg]
    exact isF_139 hst S i m C hW hi (by omega) (by omega) hR hF

set_option maxHeartbeats 2000000 in
set_option maxRecDepth 20000 in
theorem c_L_isFile {l : Launch} (hst : l.stackTraces = false) (S : jS) (i : Nat) (m : Int32) : jMet l yL_isFile cL_isFile 15 (some FieldType.boolean) 19 620 10 60 (fun avs μ => avs = [aR 0 0, aI (nI i), aI (sf S 15 i), aI (sf S 9 i), aI m, aI (sf S 7 (fL S i)), aI (sf S 13 i), aI (sf S 0 (fF S i))] ∧ xR S μ ∧ sW S ∧ i < sn S 0 ∧ sf S 12 i ≤ m) (fun avs μ r μ' => r = some (aI 1) ∧ xR S μ' ∧ xF μ μ') (fun avs μ E μ' => False) := by
  refine jMet_of hst (by decide) ?_
  intro avs μ J C hav hpre
  obtain ⟨rfl, hR, hW, hi, hm⟩ := hpre
  refine ⟨Nat.le_of_ble_eq_true rfl, ?_⟩
  show J 0 [some (aR 0 0), some (aI (nI i)), some (aI (sf S 15 i)), some (aI (sf S 9 i)), some (aI m), some (aI (sf S 7 (fL S i))), some (aI (sf S 13 i)), some (aI (sf S 0 (fF S i))), none, none, none, none, none, none, none] [] μ 0 0
  have hF : xF μ μ := xF.rf
  refine mj_aload_n (pc' := 1) C dL_isFile_0 rfl rfl ?_
  refine mj_iload_n (pc' := 2) C dL_isFile_1 rfl rfl ?_
  refine mj_callVN_1 (ci := 5) (pc' := 5) C (c_X5_haven hst S (nI i)) dL_isFile_2 rfl km_L_26 ki_yX5_haven kz_yX5_haven kn_X5 kc_yX5_haven rfl (by decide) (by decide) ⟨rfl, by decide, by decide, by decide +kernel⟩ ⟨by decide, by decide⟩ (Nat.le_of_ble_eq_true rfl) ⟨by first | decide | (show _ ≤ (10 : Nat); omega) | (show _ ≤ (60 : Nat); omega), by first | decide | (show _ ≤ (10 : Nat); omega) | (show _ ≤ (60 : Nat); omega)⟩ ⟨rfl, hR, hW⟩ (fun r2 μ2 hq2 hm2 => ?_) (fun _ _ h9 => jno_of (oe_haven hW hi) h9)
  obtain ⟨rfl, hR2, hF2⟩ := jret_of (oe_haven hW hi) hq2
  dsimp only [Option.toList, List.nil_append, List.cons_append]
  have hR := hR2
  have hF := hF.tr hF2
  refine mj_istore_8 (pc' := 7) C dL_isFile_5 rfl (by decide) rfl ?_
  refine mj_aload_n (pc' := 8) C dL_isFile_7 rfl rfl ?_
  refine mj_iload_n (pc' := 9) C dL_isFile_8 rfl rfl ?_
  refine mj_callVN_1 (ci := 5) (pc' := 12) C (c_X5_isSafe hst S (nI i)) dL_isFile_9 rfl km_L_30 ki_yX5_isSafe kz_yX5_isSafe kn_X5 kc_yX5_isSafe rfl (by decide) (by decide) ⟨rfl, by decide, by decide, by decide +kernel⟩ ⟨by decide, by decide⟩ (Nat.le_of_ble_eq_true rfl) ⟨by first | decide | (show _ ≤ (10 : Nat); omega) | (show _ ≤ (60 : Nat); omega), by first | decide | (show _ ≤ (10 : Nat); omega) | (show _ ≤ (60 : Nat); omega)⟩ ⟨rfl, hR, hW⟩ (fun r9 μ9 hq9 hm9 => ?_) (fun _ _ h9 => jno_of (oe_isSafe hW hi) h9)
  obtain ⟨rfl, hR9, hF9⟩ := jret_of (oe_isSafe hW hi) hq9
  dsimp only [Option.toList, List.nil_append, List.cons_append]
  have hR := hR9
  have hF := hF.tr hF9
  refine mj_istore_9 (pc' := 14) C dL_isFile_12 rfl (by decide) rfl ?_
  refine mj_aload_n (pc' := 15) C dL_isFile_14 rfl rfl ?_
  refine mj_iload_n (pc' := 16) C dL_isFile_15 rfl rfl ?_
  refine mj_callVN_1 (ci := 5) (pc' := 19) C (c_X5_stateOf hst S (nI i)) dL_isFile_16 rfl km_L_34 ki_yX5_stateOf kz_yX5_stateOf kn_X5 kc_yX5_stateOf rfl (by decide) (by decide) ⟨rfl, by decide, by decide, by decide +kernel⟩ ⟨by decide, by decide⟩ (Nat.le_of_ble_eq_true rfl) ⟨by first | decide | (show _ ≤ (10 : Nat); omega) | (show _ ≤ (60 : Nat); omega), by first | decide | (show _ ≤ (10 : Nat); omega) | (show _ ≤ (60 : Nat); omega)⟩ ⟨rfl, hR, hW⟩ (fun r16 μ16 hq16 hm16 => ?_) (fun _ _ h9 => jno_of (oe_get 15 hW hi) h9)
  obtain ⟨rfl, hR16, hF16⟩ := jret_of (oe_get 15 hW hi) hq16
  dsimp only [Option.toList, List.nil_append, List.cons_append]
  have hR := hR16
  have hF := hF.tr hF16
  refine mj_iload_n (pc' := 20) C dL_isFile_19 rfl rfl ?_
  refine mj_icmp_ne (tgt := 64) (pc' := 23) C dL_isFile_20 (by decide) rfl (fun h9 => absurd rfl h9) (fun _ => ?_)
  refine mj_aload_n (pc' := 24) C dL_isFile_23 rfl rfl ?_
  refine mj_iload_n (pc' := 25) C dL_isFile_24 rfl rfl ?_
  refine mj_callVN_1 (ci := 5) (pc' := 28) C (c_X5_formatOf hst S (nI i)) dL_isFile_25 rfl km_L_37 ki_yX5_formatOf kz_yX5_formatOf kn_X5 kc_yX5_formatOf rfl (by decide) (by decide) ⟨rfl, by decide, by decide, by decide +kernel⟩ ⟨by decide, by decide⟩ (Nat.le_of_ble_eq_true rfl) ⟨by first | decide | (show _ ≤ (10 : Nat); omega) | (show _ ≤ (60 : Nat); omega), by first | decide | (show _ ≤ (10 : Nat); omega) | (show _ ≤ (60 : Nat); omega)⟩ ⟨rfl, hR, hW⟩ (fun r25 μ25 hq25 hm25 => ?_) (fun _ _ h9 => jno_of (oe_get 9 hW hi) h9)
  obtain ⟨rfl, hR25, hF25⟩ := jret_of (oe_get 9 hW hi) hq25
  dsimp only [Option.toList, List.nil_append, List.cons_append]
  have hR := hR25
  have hF := hF.tr hF25
  refine mj_iload_n (pc' := 29) C dL_isFile_28 rfl rfl ?_
  refine mj_icmp_ne (tgt := 64) (pc' := 32) C dL_isFile_29 (by decide) rfl (fun h9 => absurd rfl h9) (fun _ => ?_)
  refine mj_aload_n (pc' := 33) C dL_isFile_32 rfl rfl ?_
  refine mj_iload_n (pc' := 34) C dL_isFile_33 rfl rfl ?_
  refine mj_callVN_1 (ci := 5) (pc' := 37) C (c_X5_endOf hst S (nI i)) dL_isFile_34 rfl km_L_40 ki_yX5_endOf kz_yX5_endOf kn_X5 kc_yX5_endOf rfl (by decide) (by decide) ⟨rfl, by decide, by decide, by decide +kernel⟩ ⟨by decide, by decide⟩ (Nat.le_of_ble_eq_true rfl) ⟨by first | decide | (show _ ≤ (10 : Nat); omega) | (show _ ≤ (60 : Nat); omega), by first | decide | (show _ ≤ (10 : Nat); omega) | (show _ ≤ (60 : Nat); omega)⟩ ⟨rfl, hR, hW⟩ (fun r34 μ34 hq34 hm34 => ?_) (fun _ _ h9 => jno_of (oe_get 13 hW hi) h9)
  obtain ⟨rfl, hR34, hF34⟩ := jret_of (oe_get 13 hW hi) hq34
  dsimp only [Option.toList, List.nil_append, List.cons_append]
  have hR := hR34
  have hF := hF.tr hF34
  refine mj_iload (pc' := 39) C dL_isFile_37 rfl rfl ?_
  refine mj_icmp_ne (tgt := 64) (pc' := 42) C dL_isFile_39 (by decide) rfl (fun h9 => absurd rfl h9) (fun _ => ?_)
  refine mj_aload_n (pc' := 43) C dL_isFile_42 rfl rfl ?_
  refine mj_iload_n (pc' := 44) C dL_isFile_43 rfl rfl ?_
  refine mj_callVN_1 (ci := 5) (pc' := 47) C (c_X5_qualityOf hst S (nI i)) dL_isFile_44 rfl km_L_43 ki_yX5_qualityOf kz_yX5_qualityOf kn_X5 kc_yX5_qualityOf rfl (by decide) (by decide) ⟨rfl, by decide, by decide, by decide +kernel⟩ ⟨by decide, by decide⟩ (Nat.le_of_ble_eq_true rfl) ⟨by first | decide | (show _ ≤ (10 : Nat); omega) | (show _ ≤ (60 : Nat); omega), by first | decide | (show _ ≤ (10 : Nat); omega) | (show _ ≤ (60 : Nat); omega)⟩ ⟨rfl, hR, hW⟩ (fun r44 μ44 hq44 hm44 => ?_) (fun _ _ h9 => jno_of (oe_get 12 hW hi) h9)
  obtain ⟨rfl, hR44, hF44⟩ := jret_of (oe_get 12 hW hi) hq44
  dsimp only [Option.toList, List.nil_append, List.cons_append]
  have hR := hR44
  have hF := hF.tr hF44
  refine mj_iload (pc' := 49) C dL_isFile_47 rfl rfl ?_
  refine mj_icmp_gt (tgt := 64) (pc' := 52) C dL_isFile_49 (by decide) rfl (fun h9 => absurd h9 (Int32.not_lt.mpr hm)) (fun _ => ?_)
  refine mj_aload_n (pc' := 53) C dL_isFile_52 rfl rfl ?_
  refine mj_iload_n (pc' := 54) C dL_isFile_53 rfl rfl ?_
  refine mj_callVN_1 (ci := 5) (pc' := 57) C (c_X5_qualityOf hst S (nI i)) dL_isFile_54 rfl km_L_43 ki_yX5_qualityOf kz_yX5_qualityOf kn_X5 kc_yX5_qualityOf rfl (by decide) (by decide) ⟨rfl, by decide, by decide, by decide +kernel⟩ ⟨by decide, by decide⟩ (Nat.le_of_ble_eq_true rfl) ⟨by first | decide | (show _ ≤ (10 : Nat); omega) | (show _ ≤ (60 : Nat); omega), by first | decide | (show _ ≤ (10 : Nat); omega) | (show _ ≤ (60 : Nat); omega)⟩ ⟨rfl, hR, hW⟩ (fun r54 μ54 hq54 hm54 => ?_) (fun _ _ h9 => jno_of (oe_get 12 hW hi) h9)
  obtain ⟨rfl, hR54, hF54⟩ := jret_of (oe_get 12 hW hi) hq54
  dsimp only [Option.toList, List.nil_append, List.cons_append]
  have hR := hR54
  have hF := hF.tr hF54
  refine mj_if_lt (tgt := 64) (pc' := 60) C dL_isFile_57 (by decide) rfl (fun h9 => absurd h9 (show ¬ sf S 12 i < 0 from by obtain ⟨u, hu, eu⟩ := (hW.2.2.1 i hi).2.2.1; rw [eu]; exact nI_pos (by omega))) (fun _ => ?_)
  refine mj_iconst (pc' := 61) (v := 1) C dL_isFile_60 rfl rfl ?_
  refine mj_goto (pc' := 65) C dL_isFile_61 (by decide) ?_
  refine mj_istore_10 (pc' := 67) C dL_isFile_65 rfl (by decide) rfl ?_
  refine mj_iload_n (pc' := 68) C dL_isFile_67 rfl rfl ?_
  refine jn (tgt := 87) (v := aI 1) (st := []) (fun K68 => ?_) ?_
  · refine mj_if_eq (tgt := 82) (pc' := 71) C dL_isFile_68 (by decide) rfl (fun h68 => ?_) (fun h68 => ?_)
    · refine mj_iconst (pc' := 83) (v := 1) C dL_isFile_82 rfl rfl ?_
      refine mj_goto (pc' := 87) C dL_isFile_83 (by decide) ?_
      exact K68
    · refine mj_iload (pc' := 73) C dL_isFile_71 rfl rfl ?_
      refine mj_iconst (pc' := 74) (v := (-1)) C dL_isFile_73 rfl rfl ?_
      refine mj_icmp_ne (tgt := 86) (pc' := 77) C dL_isFile_74 (by decide) rfl (fun h9 => absurd (hv_n h68) h9) (fun _ => ?_)
      refine mj_iload (pc' := 79) C dL_isFile_77 rfl rfl ?_
      refine mj_if_ne (tgt := 86) (pc' := 82) C dL_isFile_79 (by decide) rfl (fun h9 => absurd (b1_f (fun q => h68 q.1)) h9) (fun _ => ?_)
      refine mj_iconst (pc' := 83) (v := 1) C dL_isFile_82 rfl rfl ?_
      refine mj_goto (pc' := 87) C dL_isFile_83 (by decide) ?_
      exact K68
  refine mj_istore_11 (pc' := 89) C dL_isFile_87 rfl (by decide) rfl ?_
  refine mj_iload (pc' := 91) C dL_isFile_89 rfl rfl ?_
  refine mj_if_eq (tgt := 110) (pc' := 94) C dL_isFile_91 (by decide) rfl (fun h91 => ?_) (fun h91 => ?_)
  · refine mj_iconst (pc' := 111) (v := 1) C dL_isFile_110 rfl rfl ?_
    refine mj_goto (pc' := 115) C dL_isFile_111 (by decide) ?_
    exact isF_115 hst S i m C hW hi (by omega) (by omega) hR hF
  · refine mj_aload_n (pc' := 95) C dL_isFile_94 rfl rfl ?_
    refine mj_iload_n (pc' := 96) C dL_isFile_95 rfl rfl ?_
    refine mj_callVN_1 (ci := 5) (pc' := 99) C (c_X5_qualityOf hst S (nI i)) dL_isFile_96 rfl km_L_43 ki_yX5_qualityOf kz_yX5_qualityOf kn_X5 kc_yX5_qualityOf rfl (by decide) (by decide) ⟨rfl, by decide, by decide, by decide +kernel⟩ ⟨by decide, by decide⟩ (Nat.le_of_ble_eq_true rfl) ⟨by first | decide | (show _ ≤ (10 : Nat); omega) | (show _ ≤ (60 : Nat); omega), by first | decide | (show _ ≤ (10 : Nat); omega) | (show _ ≤ (60 : Nat); omega)⟩ ⟨rfl, hR, hW⟩ (fun r96 μ96 hq96 hm96 => ?_) (fun _ _ h9 => jno_of (oe_get 12 hW hi) h9)
    obtain ⟨rfl, hR96, hF96⟩ := jret_of (oe_get 12 hW hi) hq96
    dsimp only [Option.toList, List.nil_append, List.cons_append]
    have hR := hR96
    have hF := hF.tr hF96
    refine mj_iload (pc' := 101) C dL_isFile_99 rfl rfl ?_
    refine mj_icmp_lt (tgt := 110) (pc' := 104) C dL_isFile_101 (by decide) rfl (fun h101 => ?_) (fun h101 => ?_)
    · refine mj_iconst (pc' := 111) (v := 1) C dL_isFile_110 rfl rfl ?_
      refine mj_goto (pc' := 115) C dL_isFile_111 (by decide) ?_
      exact isF_115 hst S i m C hW hi (by omega) (by omega) hR hF
    · refine mj_iload (pc' := 106) C dL_isFile_104 rfl rfl ?_
      refine mj_iconst (pc' := 107) (v := (-1)) C dL_isFile_106 rfl rfl ?_
      refine mj_icmp_eq (tgt := 114) (pc' := 110) C dL_isFile_107 (by decide) rfl (fun h9 => absurd h9 (hv_self hW hi (b1_n h91).1 (b1_n h91).2 (Int32.not_lt.mp h101))) (fun _ => ?_)
      refine mj_iconst (pc' := 111) (v := 1) C dL_isFile_110 rfl rfl ?_
      refine mj_goto (pc' := 115) C dL_isFile_111 (by decide) ?_
      exact isF_115 hst S i m C hW hi (by omega) (by omega) hR hF
