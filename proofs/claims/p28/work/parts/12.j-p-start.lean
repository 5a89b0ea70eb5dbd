/-! THE LAW: ITS START -/
def mu0 : jM := (fun x => if x = 61 then 1 else 0, fun _ _ _ => 0, fun _ _ _ => none, fun _ _ _ => 0)
theorem mu0_N (x : Nat) : mN mu0 x = if x = 61 then 1 else 0 := rfl
theorem V0_start : V0 (nw mu0 0) (nw mu0 0) 0 := by
  refine ⟨?_, fun g hg => ?_, fun x hx hx2 => ?_, fun g hg => absurd hg (Nat.not_lt_zero g), fun k y z hk => ?_, fun k y z hk hk2 => ?_, xF.rf⟩
  · rw [mN_nw, if_pos rfl, mu0_N, if_neg (by decide)]
  · rw [mN_nw, if_neg (by omega), mu0_N, if_neg (by omega), if_neg (Nat.not_lt_zero g)]
  · rw [mN_nw, if_neg (by omega), mu0_N, if_neg (by omega)]
  · rw [mI_nw]
    split
    · rfl
    · rfl
  · rw [mP_nw, if_neg (by omega)]
    rfl
/-- which of the law's rows is made first -/
def rk (g : Nat) : Nat := if g = 0 then 4 else g - 1
/-- f of the law's rows are made -/
def aS (f : Nat) (μ : jM) : Prop := xR S0 μ ∧ (∀ g, g < 19 → g ≠ 5 → mN μ (21 + g) = if rk g < f then 1 else 0) ∧ ∀ kd z, 21 ≤ kd → kd < 40 → mI μ kd 0 z = 0
theorem aS_0 {μ : jM} (hR : xR S0 μ) (hF : xF (nw mu0 0) μ) : aS 0 μ := by
  refine ⟨hR, fun g hg h5 => ?_, fun kd z h1 h2 => ?_⟩
  · rw [(hF (21 + g) (by omega)).1, mN_nw, if_neg (by omega), mu0_N, if_neg (by omega), if_neg (Nat.not_lt_zero _)]
  · rw [((hF kd (by omega)).2 0 z).1, mI_nw, if_neg (by omega)]
    rfl
theorem aS_s {μ : jM} {f : Nat} (h : aS f μ) (k g : Nat) (hk : 21 + g = k) (hg : g < 19 ∧ g ≠ 5) (hr : rk g = f) : mN μ k = 0 ∧ aS (f + 1) (nw μ k) := by
  obtain ⟨hR, h1, h2⟩ := h
  have h0 : mN μ k = 0 := by rw [← hk, h1 g hg.1 hg.2, if_neg (by omega)]
  refine ⟨h0, hR.kept (fun kd hk => eqK_nw (by omega)), fun g2 h3 h4 => ?_, fun kd z h3 h4 => ?_⟩
  · rw [mN_nw]
    by_cases e : g2 = g
    · subst e
      rw [if_pos hk, h0, if_pos (by omega)]
    · rw [if_neg (by omega), h1 g2 h3 h4]
      have : rk g2 ≠ f := by
        rw [← hr]
        unfold rk
        have := hg.2
        split <;> split <;> omega
      by_cases q : rk g2 < f
      · rw [if_pos q, if_pos (by omega)]
      · rw [if_neg q, if_neg (by omega)]
  · rw [mI_nw]
    split
    · rfl
    · exact h2 kd z h3 h4
/-- the law's first numbers -/
def bS (t u : Nat) (μ : jM) : Prop := xR S0 μ ∧ pB μ ∧ (∀ i, i < t → mI μ 21 0 i = -1) ∧ (∀ i, i < u → mI μ 27 0 i = 10 ∧ mI μ 29 0 i = 5) ∧ ∀ kd z, 21 ≤ kd → kd < 40 → kd ≠ 21 → kd ≠ 27 → kd ≠ 29 → mI μ kd 0 z = 0
theorem bS_0 {μ : jM} (h : aS 18 μ) : bS 0 0 μ := ⟨h.1, fun f hf h5 => by
  rw [h.2.1 f hf h5, if_pos (by unfold rk; split <;> omega)]
  exact Nat.one_pos, fun i hi => absurd hi (Nat.not_lt_zero i), fun i hi => absurd hi (Nat.not_lt_zero i), fun kd z h1 h2 _ _ _ => h.2.2 kd z h1 h2⟩
theorem bS_a {μ : jM} {t : Nat} (h : bS t 0 μ) : bS (t + 1) 0 (sI μ 21 0 t (-1)) := by
  obtain ⟨h1, h2, h3, h4, h5⟩ := h
  refine ⟨h1.o (by decide), h2, fun i hi => ?_, fun i hi => absurd hi (Nat.not_lt_zero i), fun kd z a1 a2 a3 a4 a5 => ?_⟩
  · rw [mI_sI]
    by_cases e : i = t
    · rw [if_pos ⟨rfl, rfl, e⟩]
    · rw [if_neg (fun q => e q.2.2)]
      exact h3 i (by omega)
  · rw [mI_sI_n _ _ _ _ _ (fun q => a3 q.1)]
    exact h5 kd z a1 a2 a3 a4 a5
theorem bS_b {μ : jM} {u : Nat} (h : bS 10 u μ) : bS 10 (u + 1) (sI (sI μ 27 0 u 10) 29 0 u 5) := by
  obtain ⟨h1, h2, h3, h4, h5⟩ := h
  refine ⟨(h1.o (by decide)).o (by decide), h2, fun i hi => ?_, fun i hi => ?_, fun kd z a1 a2 a3 a4 a5 => ?_⟩
  · rw [mI_sI_n _ _ _ _ _ (fun q => by omega), mI_sI_n _ _ _ _ _ (fun q => by omega)]
    exact h3 i hi
  · by_cases e : i = u
    · subst e
      exact ⟨by rw [mI_sI_n _ _ _ _ _ (fun q => by omega), mI_sI_s], by rw [mI_sI_s]⟩
    · rw [mI_sI_n _ _ _ _ _ (fun q => by omega), mI_sI_n _ _ _ _ _ (fun q => by omega), mI_sI_n _ _ _ _ _ (fun q => by omega), mI_sI_n _ _ _ _ _ (fun q => by omega)]
      exact h4 i (by omega)
  · rw [mI_sI_n _ _ _ _ _ (fun q => a5 q.1), mI_sI_n _ _ _ _ _ (fun q => a4 q.1)]
    exact h5 kd z a1 a2 a3 a4 a5
theorem pR_0 {μ : jM} (h : bS 10 5 μ) : pR S0 μ := by
  obtain ⟨h1, h2, h3, h4, h5⟩ := h
  refine ⟨h2, fun a i a1 a2 a3 a4 => ?_, fun i hi => absurd hi (Nat.not_lt_zero i), fun i _ _ => ⟨h5 36 i (by omega) (by omega) (by omega) (by omega) (by omega), h5 37 i (by omega) (by omega) (by omega) (by omega) (by omega)⟩⟩
  have e : pf S0 a i = sf S0 a i := by
    unfold pf
    rw [if_neg (fun q => q.2 rfl)]
  rw [e]
  unfold pL at a4
  rw [S0_n, S0_n] at a4
  split at a4
  · rename_i q
    subst q
    exact h3 i a4
  · split at a4
    · omega
    · split at a4
      · rcases (show a = 6 ∨ a = 7 ∨ a = 8 by omega) with rfl | rfl | rfl
        · exact (h4 i a4).1
        · exact h5 28 i (by omega) (by omega) (by omega) (by omega) (by omega)
        · exact (h4 i a4).2
      · omega
theorem pI_0 : pI 0 S0 := ⟨by rw [S0_n]; omega, by decide, by decide, 0, Nat.le_refl 0, rfl⟩

set_option maxHeartbeats 2000000 in
set_option maxRecDepth 20000 in
theorem law_body {l : Launch} (hst : l.stackTraces = false) {J : Nat → List (Option jV) → List jV → jM → Nat → Nat → Prop} (C : jCtx l J cL_law 36 RL room_1 (some FieldType.boolean) 3 [] (fun _ _ => True) (fun _ _ => False) 0 0) (Sc : jSc J cL_law) : J 0 [some (aR 61 0), none, none, none, none, none, none, none, none, none, none, none, none, none, none, none, none, none, none, none, none, none, none, none, none, none, none, none, none, none, none, none, none, none, none, none] [] mu0 0 0 := by
  refine mj_new (ci := 5) (kd := 0) (pc' := 3) C dL_law_0 rfl rfl (by decide) (by decide) kl_L_11 kt_X5 kn_X5 (by decide) (by decide) ?_
  rw [show mN mu0 0 = 0 from rfl]
  refine mj_dup (pc' := 4) C dL_law_3 rfl rfl ?_
  refine mj_callI_0 (pc' := 7) C (c_X5_init) dL_law_4 rfl km_L_46 ki_yX5_init kn_X5 kc_yX5_init rfl ⟨by decide, by decide, by decide +kernel⟩ ⟨by decide, by decide⟩ (Nat.le_of_ble_eq_true rfl) ⟨by decide, by decide⟩ ⟨rfl, V0_start⟩ (fun r μ4 hq4 hm4 => ?_)
  obtain ⟨rfl, hR4, hF4⟩ := hq4
  dsimp only [Option.toList, List.nil_append, List.cons_append]
  have hS := aS_0 hR4 hF4
  refine mj_astore_n_1 (pc' := 8) C dL_law_7 rfl (by decide) rfl ?_
  refine mj_bipush (pc' := 10) (v := 30) C dL_law_8 rfl rfl ?_
  refine mj_newa (kd := 22) (pc' := 12) C dL_law_10 rfl rfl rfl (by decide) (by decide) ⟨by decide, by decide, fun _ h9 => by cases h9⟩ (by decide) rfl ka_int (by decide) (by decide) (by decide) ?_
  rw [(aS_s hS 22 1 rfl (by decide) rfl).1]
  refine jgen (J := J) (P := aS 1) (aS_s hS 22 1 rfl (by decide) rfl).2 ?_
  clear hS
  rintro μ12 hS
  refine mj_astore_n_2 (pc' := 13) C dL_law_12 rfl (by decide) rfl ?_
  refine mj_bipush (pc' := 15) (v := 30) C dL_law_13 rfl rfl ?_
  refine mj_newa (kd := 23) (pc' := 17) C dL_law_15 rfl rfl rfl (by decide) (by decide) ⟨by decide, by decide, fun _ h9 => by cases h9⟩ (by decide) rfl ka_int (by decide) (by decide) (by decide) ?_
  rw [(aS_s hS 23 2 rfl (by decide) rfl).1]
  refine jgen (J := J) (P := aS 2) (aS_s hS 23 2 rfl (by decide) rfl).2 ?_
  clear hS
  rintro μ17 hS
  refine mj_astore_n_3 (pc' := 18) C dL_law_17 rfl (by decide) rfl ?_
  refine mj_bipush (pc' := 20) (v := 30) C dL_law_18 rfl rfl ?_
  refine mj_newa (kd := 24) (pc' := 22) C dL_law_20 rfl rfl rfl (by decide) (by decide) ⟨by decide, by decide, fun _ h9 => by cases h9⟩ (by decide) rfl ka_int (by decide) (by decide) (by decide) ?_
  rw [(aS_s hS 24 3 rfl (by decide) rfl).1]
  refine jgen (J := J) (P := aS 3) (aS_s hS 24 3 rfl (by decide) rfl).2 ?_
  clear hS
  rintro μ22 hS
  refine mj_astore_4 (pc' := 24) C dL_law_22 rfl (by decide) rfl ?_
  refine mj_bipush (pc' := 26) (v := 30) C dL_law_24 rfl rfl ?_
  refine mj_newa (kd := 25) (pc' := 28) C dL_law_26 rfl rfl rfl (by decide) (by decide) ⟨by decide, by decide, fun _ h9 => by cases h9⟩ (by decide) rfl ka_int (by decide) (by decide) (by decide) ?_
  rw [(aS_s hS 25 4 rfl (by decide) rfl).1]
  refine jgen (J := J) (P := aS 4) (aS_s hS 25 4 rfl (by decide) rfl).2 ?_
  clear hS
  rintro μ28 hS
  refine mj_astore_5 (pc' := 30) C dL_law_28 rfl (by decide) rfl ?_
  refine mj_bipush (pc' := 32) (v := 10) C dL_law_30 rfl rfl ?_
  refine mj_newa (kd := 21) (pc' := 34) C dL_law_32 rfl rfl rfl (by decide) (by decide) ⟨by decide, by decide, fun _ h9 => by cases h9⟩ (by decide) rfl ka_int (by decide) (by decide) (by decide) ?_
  rw [(aS_s hS 21 0 rfl (by decide) rfl).1]
  refine jgen (J := J) (P := aS 5) (aS_s hS 21 0 rfl (by decide) rfl).2 ?_
  clear hS
  rintro μ34 hS
  refine mj_astore_6 (pc' := 36) C dL_law_34 rfl (by decide) rfl ?_
  refine mj_iconst (pc' := 37) (v := 5) C dL_law_36 rfl rfl ?_
  refine mj_newa (kd := 27) (pc' := 39) C dL_law_37 rfl rfl rfl (by decide) (by decide) ⟨by decide, by decide, fun _ h9 => by cases h9⟩ (by decide) rfl ka_int (by decide) (by decide) (by decide) ?_
  rw [(aS_s hS 27 6 rfl (by decide) rfl).1]
  refine jgen (J := J) (P := aS 6) (aS_s hS 27 6 rfl (by decide) rfl).2 ?_
  clear hS
  rintro μ39 hS
  refine mj_astore_7 (pc' := 41) C dL_law_39 rfl (by decide) rfl ?_
  refine mj_iconst (pc' := 42) (v := 5) C dL_law_41 rfl rfl ?_
  refine mj_newa (kd := 28) (pc' := 44) C dL_law_42 rfl rfl rfl (by decide) (by decide) ⟨by decide, by decide, fun _ h9 => by cases h9⟩ (by decide) rfl ka_int (by decide) (by decide) (by decide) ?_
  rw [(aS_s hS 28 7 rfl (by decide) rfl).1]
  refine jgen (J := J) (P := aS 7) (aS_s hS 28 7 rfl (by decide) rfl).2 ?_
  clear hS
  rintro μ44 hS
  refine mj_astore_8 (pc' := 46) C dL_law_44 rfl (by decide) rfl ?_
  refine mj_iconst (pc' := 47) (v := 5) C dL_law_46 rfl rfl ?_
  refine mj_newa (kd := 29) (pc' := 49) C dL_law_47 rfl rfl rfl (by decide) (by decide) ⟨by decide, by decide, fun _ h9 => by cases h9⟩ (by decide) rfl ka_int (by decide) (by decide) (by decide) ?_
  rw [(aS_s hS 29 8 rfl (by decide) rfl).1]
  refine jgen (J := J) (P := aS 8) (aS_s hS 29 8 rfl (by decide) rfl).2 ?_
  clear hS
  rintro μ49 hS
  refine mj_astore_9 (pc' := 51) C dL_law_49 rfl (by decide) rfl ?_
  refine mj_bipush (pc' := 53) (v := 12) C dL_law_51 rfl rfl ?_
  refine mj_newa (kd := 30) (pc' := 55) C dL_law_53 rfl rfl rfl (by decide) (by decide) ⟨by decide, by decide, fun _ h9 => by cases h9⟩ (by decide) rfl ka_int (by decide) (by decide) (by decide) ?_
  rw [(aS_s hS 30 9 rfl (by decide) rfl).1]
  refine jgen (J := J) (P := aS 9) (aS_s hS 30 9 rfl (by decide) rfl).2 ?_
  clear hS
  rintro μ55 hS
  refine mj_astore_10 (pc' := 57) C dL_law_55 rfl (by decide) rfl ?_
  refine mj_bipush (pc' := 59) (v := 12) C dL_law_57 rfl rfl ?_
  refine mj_newa (kd := 31) (pc' := 61) C dL_law_59 rfl rfl rfl (by decide) (by decide) ⟨by decide, by decide, fun _ h9 => by cases h9⟩ (by decide) rfl ka_int (by decide) (by decide) (by decide) ?_
  rw [(aS_s hS 31 10 rfl (by decide) rfl).1]
  refine jgen (J := J) (P := aS 10) (aS_s hS 31 10 rfl (by decide) rfl).2 ?_
  clear hS
  rintro μ61 hS
  refine mj_astore_11 (pc' := 63) C dL_law_61 rfl (by decide) rfl ?_
  refine mj_bipush (pc' := 65) (v := 12) C dL_law_63 rfl rfl ?_
  refine mj_newa (kd := 32) (pc' := 67) C dL_law_65 rfl rfl rfl (by decide) (by decide) ⟨by decide, by decide, fun _ h9 => by cases h9⟩ (by decide) rfl ka_int (by decide) (by decide) (by decide) ?_
  rw [(aS_s hS 32 11 rfl (by decide) rfl).1]
  refine jgen (J := J) (P := aS 11) (aS_s hS 32 11 rfl (by decide) rfl).2 ?_
  clear hS
  rintro μ67 hS
  refine mj_astore_12 (pc' := 69) C dL_law_67 rfl (by decide) rfl ?_
  refine mj_bipush (pc' := 71) (v := 12) C dL_law_69 rfl rfl ?_
  refine mj_newa (kd := 33) (pc' := 73) C dL_law_71 rfl rfl rfl (by decide) (by decide) ⟨by decide, by decide, fun _ h9 => by cases h9⟩ (by decide) rfl ka_int (by decide) (by decide) (by decide) ?_
  rw [(aS_s hS 33 12 rfl (by decide) rfl).1]
  refine jgen (J := J) (P := aS 12) (aS_s hS 33 12 rfl (by decide) rfl).2 ?_
  clear hS
  rintro μ73 hS
  refine mj_astore_13 (pc' := 75) C dL_law_73 rfl (by decide) rfl ?_
  refine mj_bipush (pc' := 77) (v := 12) C dL_law_75 rfl rfl ?_
  refine mj_newa (kd := 34) (pc' := 79) C dL_law_77 rfl rfl rfl (by decide) (by decide) ⟨by decide, by decide, fun _ h9 => by cases h9⟩ (by decide) rfl ka_int (by decide) (by decide) (by decide) ?_
  rw [(aS_s hS 34 13 rfl (by decide) rfl).1]
  refine jgen (J := J) (P := aS 13) (aS_s hS 34 13 rfl (by decide) rfl).2 ?_
  clear hS
  rintro μ79 hS
  refine mj_astore_14 (pc' := 81) C dL_law_79 rfl (by decide) rfl ?_
  refine mj_bipush (pc' := 83) (v := 12) C dL_law_81 rfl rfl ?_
  refine mj_newa (kd := 35) (pc' := 85) C dL_law_83 rfl rfl rfl (by decide) (by decide) ⟨by decide, by decide, fun _ h9 => by cases h9⟩ (by decide) rfl ka_int (by decide) (by decide) (by decide) ?_
  rw [(aS_s hS 35 14 rfl (by decide) rfl).1]
  refine jgen (J := J) (P := aS 14) (aS_s hS 35 14 rfl (by decide) rfl).2 ?_
  clear hS
  rintro μ85 hS
  refine mj_astore_15 (pc' := 87) C dL_law_85 rfl (by decide) rfl ?_
  refine mj_bipush (pc' := 89) (v := 12) C dL_law_87 rfl rfl ?_
  refine mj_newa (kd := 36) (pc' := 91) C dL_law_89 rfl rfl rfl (by decide) (by decide) ⟨by decide, by decide, fun _ h9 => by cases h9⟩ (by decide) rfl ka_int (by decide) (by decide) (by decide) ?_
  rw [(aS_s hS 36 15 rfl (by decide) rfl).1]
  refine jgen (J := J) (P := aS 15) (aS_s hS 36 15 rfl (by decide) rfl).2 ?_
  clear hS
  rintro μ91 hS
  refine mj_astore_16 (pc' := 93) C dL_law_91 rfl (by decide) rfl ?_
  refine mj_bipush (pc' := 95) (v := 12) C dL_law_93 rfl rfl ?_
  refine mj_newa (kd := 37) (pc' := 97) C dL_law_95 rfl rfl rfl (by decide) (by decide) ⟨by decide, by decide, fun _ h9 => by cases h9⟩ (by decide) rfl ka_int (by decide) (by decide) (by decide) ?_
  rw [(aS_s hS 37 16 rfl (by decide) rfl).1]
  refine jgen (J := J) (P := aS 16) (aS_s hS 37 16 rfl (by decide) rfl).2 ?_
  clear hS
  rintro μ97 hS
  refine mj_astore_17 (pc' := 99) C dL_law_97 rfl (by decide) rfl ?_
  refine mj_bipush (pc' := 101) (v := 12) C dL_law_99 rfl rfl ?_
  refine mj_newa (kd := 38) (pc' := 103) C dL_law_101 rfl rfl rfl (by decide) (by decide) ⟨by decide, by decide, fun _ h9 => by cases h9⟩ (by decide) rfl ka_int (by decide) (by decide) (by decide) ?_
  rw [(aS_s hS 38 17 rfl (by decide) rfl).1]
  refine jgen (J := J) (P := aS 17) (aS_s hS 38 17 rfl (by decide) rfl).2 ?_
  clear hS
  rintro μ103 hS
  refine mj_astore_18 (pc' := 105) C dL_law_103 rfl (by decide) rfl ?_
  refine mj_bipush (pc' := 107) (v := 12) C dL_law_105 rfl rfl ?_
  refine mj_newa (kd := 39) (pc' := 109) C dL_law_107 rfl rfl rfl (by decide) (by decide) ⟨by decide, by decide, fun _ h9 => by cases h9⟩ (by decide) rfl ka_int (by decide) (by decide) (by decide) ?_
  rw [(aS_s hS 39 18 rfl (by decide) rfl).1]
  refine jgen (J := J) (P := aS 18) (aS_s hS 39 18 rfl (by decide) rfl).2 ?_
  clear hS
  rintro μ109 hS
  refine mj_astore_19 (pc' := 111) C dL_law_109 rfl (by decide) rfl ?_
  refine mj_iconst (pc' := 112) (v := 0) C dL_law_111 rfl rfl ?_
  refine mj_istore_20 (pc' := 114) C dL_law_112 rfl (by decide) rfl ?_
  have lo1 : ∀ (d : Nat) (t : Nat) (μ1 : jM), t + d = 10 → bS t 0 μ1 → J 114 [some (aR 61 0), some (aR 0 0), some (aR 22 0), some (aR 23 0), some (aR 24 0), some (aR 25 0), some (aR 21 0), some (aR 27 0), some (aR 28 0), some (aR 29 0), some (aR 30 0), some (aR 31 0), some (aR 32 0), some (aR 33 0), some (aR 34 0), some (aR 35 0), some (aR 36 0), some (aR 37 0), some (aR 38 0), some (aR 39 0), some (aI (nI t)), none, none, none, none, none, none, none, none, none, none, none, none, none, none, none] [] μ1 300 4000 := by
    intro d
    induction d with
    | zero =>
      intro t μ1 hd hS
      obtain rfl : t = 10 := by omega
      refine mj_iload (pc' := 116) C dL_law_114 rfl rfl ?_
      refine mj_bipush (pc' := 118) (v := 10) C dL_law_116 rfl rfl ?_
      refine mj_icmp_ge (tgt := 133) (pc' := 121) C dL_law_118 (by decide) rfl (fun _ => ?_) (fun h9 => absurd (Int32.le_refl _) h9)
      refine mj_iconst (pc' := 134) (v := 0) C dL_law_133 rfl rfl ?_
      refine mj_istore_20 (pc' := 136) C dL_law_134 rfl (by decide) rfl ?_
      have lo2 : ∀ (d : Nat) (u : Nat) (μ1 : jM), u + d = 5 → bS 10 u μ1 → J 136 [some (aR 61 0), some (aR 0 0), some (aR 22 0), some (aR 23 0), some (aR 24 0), some (aR 25 0), some (aR 21 0), some (aR 27 0), some (aR 28 0), some (aR 29 0), some (aR 30 0), some (aR 31 0), some (aR 32 0), some (aR 33 0), some (aR 34 0), some (aR 35 0), some (aR 36 0), some (aR 37 0), some (aR 38 0), some (aR 39 0), some (aI (nI u)), none, none, none, none, none, none, none, none, none, none, none, none, none, none, none] [] μ1 300 4000 := by
        intro d
        induction d with
        | zero =>
          intro u μ1 hd hS
          obtain rfl : u = 5 := by omega
          refine mj_iload (pc' := 138) C dL_law_136 rfl rfl ?_
          refine mj_iconst (pc' := 139) (v := 5) C dL_law_138 rfl rfl ?_
          refine mj_icmp_ge (tgt := 161) (pc' := 142) C dL_law_139 (by decide) rfl (fun _ => ?_) (fun h9 => absurd (Int32.le_refl _) h9)
          refine mj_iconst (pc' := 162) (v := 0) C dL_law_161 rfl rfl ?_
          refine mj_istore_20 (pc' := 164) C dL_law_162 rfl (by decide) rfl ?_
          refine mj_iconst (pc' := 165) (v := 0) C dL_law_164 rfl rfl ?_
          refine mj_istore_21 (pc' := 167) C dL_law_165 rfl (by decide) rfl ?_
          refine mj_iconst (pc' := 168) (v := 0) C dL_law_167 rfl rfl ?_
          refine mj_istore_22 (pc' := 170) C dL_law_168 rfl (by decide) rfl ?_
          refine mj_sipush (pc' := 173) (v := 1000) C dL_law_170 rfl rfl ?_
          refine mj_istore_23 (pc' := 175) C dL_law_173 rfl (by decide) rfl ?_
          refine mj_sipush (pc' := 178) (v := 1000) C dL_law_175 rfl rfl ?_
          refine mj_istore_24 (pc' := 180) C dL_law_178 rfl (by decide) rfl ?_
          refine mj_iconst (pc' := 181) (v := 0) C dL_law_180 rfl rfl ?_
          refine mj_istore_25 (pc' := 183) C dL_law_181 rfl (by decide) rfl ?_
          exact law_loop hst C Sc 40 0 S0 _ (by omega) hS.1 (pR_0 hS) A_0 pI_0
        | succ d ih2 =>
          intro u μ1 hd hS
          have hlt : u < 5 := by omega
          refine mj_iload (pc' := 138) C dL_law_136 rfl rfl ?_
          refine mj_iconst (pc' := 139) (v := 5) C dL_law_138 rfl rfl ?_
          refine mj_icmp_ge (tgt := 161) (pc' := 142) C dL_law_139 (by decide) rfl (fun h9 => absurd h9 (nI_ge (b := 5) hlt (by decide))) (fun _ => ?_)
          refine mj_aload (pc' := 144) C dL_law_142 rfl rfl ?_
          refine mj_iload (pc' := 146) C dL_law_144 rfl rfl ?_
          refine mj_bipush (pc' := 148) (v := 10) C dL_law_146 rfl rfl ?_
          refine mj_iast (pc' := 149) C dL_law_148 rfl rfl (by decide) (by decide) (hS.2.1.l 6 (by decide) rfl) rfl (by omega) ?_
          refine mj_aload (pc' := 151) C dL_law_149 rfl rfl ?_
          refine mj_iload (pc' := 153) C dL_law_151 rfl rfl ?_
          refine mj_iconst (pc' := 154) (v := 5) C dL_law_153 rfl rfl ?_
          refine mj_iast (pc' := 155) C dL_law_154 rfl rfl (by decide) (by decide) (hS.2.1.l 8 (by decide) rfl) rfl (by omega) ?_
          refine mj_iinc_20 (pc' := 158) (w := 1) C dL_law_155 rfl rfl (by decide) rfl ?_
          refine mj_goto (pc' := 136) C dL_law_158 (by decide) ?_
          rw [nI_1]
          exact ih2 (u + 1) _ (by omega) (bS_b hS)
      exact lo2 5 0 _ (by omega) hS
    | succ d ih =>
      intro t μ1 hd hS
      have hlt : t < 10 := by omega
      refine mj_iload (pc' := 116) C dL_law_114 rfl rfl ?_
      refine mj_bipush (pc' := 118) (v := 10) C dL_law_116 rfl rfl ?_
      refine mj_icmp_ge (tgt := 133) (pc' := 121) C dL_law_118 (by decide) rfl (fun h9 => absurd h9 (nI_ge (b := 10) hlt (by decide))) (fun _ => ?_)
      refine mj_aload (pc' := 123) C dL_law_121 rfl rfl ?_
      refine mj_iload (pc' := 125) C dL_law_123 rfl rfl ?_
      refine mj_iconst (pc' := 126) (v := (-1)) C dL_law_125 rfl rfl ?_
      refine mj_iast (pc' := 127) C dL_law_126 rfl rfl (by decide) (by decide) (hS.2.1.l 0 (by decide) rfl) rfl (by omega) ?_
      refine mj_iinc_20 (pc' := 130) (w := 1) C dL_law_127 rfl rfl (by decide) rfl ?_
      refine mj_goto (pc' := 114) C dL_law_130 (by decide) ?_
      rw [nI_1]
      exact ih (t + 1) _ (by omega) (bS_a hS)
  refine Sc.widen (k' := 300) (n' := 4000) (by decide) (by decide) ?_
  exact lo1 10 0 _ (by omega) (bS_0 hS)
