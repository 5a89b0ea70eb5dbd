/-! MAKERS: NETWORK, VAULT, MODEL -/
theorem jgen {J : Nat → List (Option jV) → List jV → jM → Nat → Nat → Prop} {pc : Nat} {L : List (Option jV)} {st : List jV} {k n : Nat} {μ1 : jM} {P : jM → Prop} (h : P μ1) (K : ∀ μ2, P μ2 → J pc L st μ2 k n) : J pc L st μ1 k n := K _ h
theorem jkn {J : Nat → List (Option jV) → List jV → jM → Nat → Nat → Prop} {pc : Nat} {L : List (Option jV)} {st : List jV} {k n k' n' : Nat} {μ1 : jM} (h1 : k = k') (h2 : n = n') (K : J pc L st μ1 k' n') : J pc L st μ1 k n := by
  subst h1
  subst h2
  exact K
/-- one thing made and laid into a field: what is where -/
def mk1 (μ : jM) (k a i f : Nat) : jM := sP (nw μ k) a i f (some (k, mN μ k))
theorem mN_mk1 (μ : jM) (k a i f x : Nat) : mN (mk1 μ k a i f) x = if x = k then mN μ k + 1 else mN μ x := rfl
theorem mI_mk1 (μ : jM) (k a i f x y z : Nat) : mI (mk1 μ k a i f) x y z = if x = k ∧ mN μ k ≤ y then 0 else mI μ x y z := rfl
theorem mG_mk1 (μ : jM) (k a i f x y z : Nat) : mG (mk1 μ k a i f) x y z = if x = k ∧ mN μ k ≤ y then 0 else mG μ x y z := rfl
theorem mP_mk1 (μ : jM) (k a i f x y z : Nat) : mP (mk1 μ k a i f) x y z = if x = a ∧ y = i ∧ z = f then some (k, mN μ k) else if x = k ∧ mN μ k ≤ y then none else mP μ x y z := rfl
theorem eqK_mk1 {μ : jM} {k a i f kd : Nat} (h1 : kd ≠ k) (h2 : kd ≠ a) : eqK μ (mk1 μ k a i f) kd := (eqK_nw h1).tr (eqK_sP h2)
/-- the model's rows, the first f of them -/
def mI0 (μ0 μ : jM) (f : Nat) : Prop := mN μ 20 = 1 ∧ (∀ g, g < 29 → mN μ (21 + g) = if g < f then 1 else 0) ∧ (∀ g, g < f → mP μ 20 0 g = some (21 + g, 0)) ∧ (∀ k y z, 20 ≤ k → k < 50 → mI μ k y z = 0) ∧ mF μ0 μ
theorem mI0_step {μ0 μ : jM} {f k : Nat} (h : mI0 μ0 μ f) (hf : f < 29) (hk : 21 + f = k) : mI0 μ0 (sP (nw μ k) 20 0 f (some (k, mN μ k))) (f + 1) := by
  subst hk
  obtain ⟨h1, h2, h3, h4, h5⟩ := h
  show mI0 μ0 (mk1 μ (21 + f) 20 0 f) (f + 1)
  have e0 : mN μ (21 + f) = 0 := by rw [h2 f hf, if_neg (Nat.lt_irrefl f)]
  refine ⟨?_, fun g hg => ?_, fun g hg => ?_, fun k y z hk1 hk2 => ?_, fun kd hk => ?_⟩
  · rw [mN_mk1, if_neg (by omega), h1]
  · rw [mN_mk1]
    by_cases e : g = f
    · subst e
      rw [if_pos rfl, e0, if_pos (by omega)]
    · rw [if_neg (by omega), h2 g hg]
      by_cases q : g < f
      · rw [if_pos q, if_pos (by omega)]
      · rw [if_neg q, if_neg (by omega)]
  · rw [mP_mk1]
    by_cases e : g = f
    · subst e
      rw [if_pos ⟨rfl, rfl, rfl⟩, e0]
    · rw [if_neg (by omega), if_neg (by omega), h3 g (by omega)]
  · rw [mI_mk1]
    split
    · rfl
    · exact h4 k y z hk1 hk2
  · exact (h5 kd hk).tr (eqK_mk1 (by omega) (by omega))
def mI1 (μ0 μ : jM) (i j : Nat) : Prop := mB (mN μ) (mP μ) ∧ (mI μ 20 0 29 = 0 ∧ mI μ 20 0 30 = 0 ∧ mI μ 20 0 31 = 1000 ∧ mI μ 20 0 32 = 1000 ∧ mI μ 20 0 33 = 0 ∧ mI μ 20 0 34 = 0) ∧ (∀ x, x < i → mI μ 21 0 x = -1) ∧ (∀ x, x < j → mI μ 27 0 x = 10 ∧ mI μ 29 0 x = 5) ∧ (∀ k x, k = 26 ∨ k = 28 ∨ k = 49 → mI μ k 0 x = 0) ∧ mF μ0 μ
theorem mI1_of {μ0 μ : jM} (h : mI0 μ0 μ 29) : mI1 μ0 (sI (sI μ 20 0 31 1000) 20 0 32 1000) 0 0 := by
  obtain ⟨h1, h2, h3, h4, h5⟩ := h
  refine ⟨⟨h1, fun f hf => ⟨?_, h3 f hf⟩⟩, ⟨?_, ?_, ?_, ?_, ?_, ?_⟩, fun x hx => absurd hx (Nat.not_lt_zero x), fun x hx => absurd hx (Nat.not_lt_zero x), fun k x hk => ?_, mF_sI (by omega) (mF_sI (by omega) h5)⟩
  · show mN μ (21 + f) = 1
    rw [h2 f hf, if_pos hf]
  · simp [mI_sI, h4 20 0 29 (by omega) (by omega)]
  · simp [mI_sI, h4 20 0 30 (by omega) (by omega)]
  · simp [mI_sI]
  · simp [mI_sI]
  · simp [mI_sI, h4 20 0 33 (by omega) (by omega)]
  · simp [mI_sI, h4 20 0 34 (by omega) (by omega)]
  · rw [mI_sI_n _ _ _ _ _ (by omega), mI_sI_n _ _ _ _ _ (by omega)]
    exact h4 k 0 x (by omega) (by omega)
theorem mI1_i {μ0 μ : jM} {i : Nat} (h : mI1 μ0 μ i 0) : mI1 μ0 (sI μ 21 0 i (-1)) (i + 1) 0 := by
  obtain ⟨h1, ⟨a1, a2, a3, a4, a5, a6⟩, h3, h4, h5, h6⟩ := h
  have f : ∀ x y z, x ≠ 21 → mI (sI μ 21 0 i (-1)) x y z = mI μ x y z := fun x y z q => mI_sI_n _ _ _ _ _ (by omega)
  refine ⟨h1, ⟨?_, ?_, ?_, ?_, ?_, ?_⟩, fun x hx => ?_, fun x hx => absurd hx (Nat.not_lt_zero x), fun k x hk => ?_, mF_sI (by omega) h6⟩
  · rw [f _ _ _ (by omega)]; exact a1
  · rw [f _ _ _ (by omega)]; exact a2
  · rw [f _ _ _ (by omega)]; exact a3
  · rw [f _ _ _ (by omega)]; exact a4
  · rw [f _ _ _ (by omega)]; exact a5
  · rw [f _ _ _ (by omega)]; exact a6
  · rw [mI_sI]
    split
    · rfl
    · exact h3 x (by omega)
  · rw [f _ _ _ (by omega)]; exact h5 k x hk
theorem mI1_j {μ0 μ : jM} {i j : Nat} (h : mI1 μ0 μ i j) : mI1 μ0 (sI (sI μ 27 0 j 10) 29 0 j 5) i (j + 1) := by
  obtain ⟨h1, ⟨a1, a2, a3, a4, a5, a6⟩, h3, h4, h5, h6⟩ := h
  have f : ∀ x y z, x ≠ 27 → x ≠ 29 → mI (sI (sI μ 27 0 j 10) 29 0 j 5) x y z = mI μ x y z := fun x y z q q2 => (mI_sI_n _ _ _ _ _ (by omega)).trans (mI_sI_n _ _ _ _ _ (by omega))
  refine ⟨h1, ⟨?_, ?_, ?_, ?_, ?_, ?_⟩, fun x hx => ?_, fun x hx => ?_, fun k x hk => ?_, mF_sI (by omega) (mF_sI (by omega) h6)⟩
  · rw [f _ _ _ (by omega) (by omega)]; exact a1
  · rw [f _ _ _ (by omega) (by omega)]; exact a2
  · rw [f _ _ _ (by omega) (by omega)]; exact a3
  · rw [f _ _ _ (by omega) (by omega)]; exact a4
  · rw [f _ _ _ (by omega) (by omega)]; exact a5
  · rw [f _ _ _ (by omega) (by omega)]; exact a6
  · rw [f _ _ _ (by omega) (by omega)]; exact h3 x hx
  · by_cases e : x = j
    · subst e
      exact ⟨by rw [mI_sI_n _ _ _ _ _ (by omega), mI_sI_s], by rw [mI_sI_s]⟩
    · obtain ⟨b1, b2⟩ := h4 x (by omega)
      exact ⟨by rw [mI_sI_n _ _ _ _ _ (by omega), mI_sI_n _ _ _ _ _ (by omega)]; exact b1, by rw [mI_sI_n _ _ _ _ _ (by omega), mI_sI_n _ _ _ _ _ (by omega)]; exact b2⟩
  · rw [f _ _ _ (by omega) (by omega)]; exact h5 k x hk
theorem mI1_R {μ0 μ : jM} (h : mI1 μ0 μ 10 5) : mR S0 μ := by
  obtain ⟨h1, ⟨a1, a2, a3, a4, a5, a6⟩, h3, h4, h5, h6⟩ := h
  refine ⟨h1, ⟨a1, a2, a3, a4, a5⟩, fun a i ha hi => ?_, Or.inl a6, fun j hj => h5 49 j (by omega)⟩
  unfold sl at hi
  rw [S0_n, S0_n] at hi
  rw [S0_f]
  by_cases e0 : a = 0
  · subst e0
    exact h3 i hi
  · by_cases e5 : a = 5
    · subst e5
      exact h5 26 i (by omega)
    · rw [if_neg e0, if_neg e5] at hi
      by_cases l5 : a ≤ 5
      · rw [if_pos l5] at hi
        omega
      · rw [if_neg l5] at hi
        by_cases l8 : a ≤ 8
        · rw [if_pos l8] at hi
          rcases (show a = 6 ∨ a = 7 ∨ a = 8 by omega) with rfl | rfl | rfl
          · exact (h4 i hi).1
          · exact h5 28 i (by omega)
          · exact (h4 i hi).2
        · rw [if_neg l8] at hi
          omega

set_option maxHeartbeats 1000000 in
set_option maxRecDepth 20000 in
theorem c_X6_init {l : Launch}  : jMetN l yX6_init (.code yX6_init cX6_init 2 none) 6 100 29 1840 (fun avs μ => avs = [aR 20 0] ∧ mI0 μ μ 0) (fun avs μ r μ' => r = none ∧ mR S0 μ' ∧ mF μ μ') := by
  refine jMetI_of (by decide) rfl ?_
  intro avs μ J C hav hpre
  obtain ⟨rfl, h⟩ := hpre
  refine ⟨Nat.le_of_ble_eq_true rfl, ?_⟩
  show J 0 [some (aR 20 0), none] [] μ 0 0
  refine mj_aload_n (pc' := 1) C dX6_init_0 rfl rfl ?_
  refine mj_objInit (pc' := 4) C dX6_init_1 rfl km_X6_1 ki_obj kc_obj (by decide) (by decide) ?_
  refine mj_aload_n (pc' := 5) C dX6_init_4 rfl rfl ?_
  refine mj_bipush (pc' := 7) (v := 10) C dX6_init_5 rfl rfl ?_
  refine mj_newa (kd := 21) (pc' := 9) C dX6_init_7 rfl rfl rfl (by decide) (by decide) ⟨by decide, by decide, fun _ h9 => by cases h9⟩ (by decide) rfl ka_int (by decide) (by decide) (by decide) ?_
  refine mj_putRF (pc' := 12) C dX6_init_9 rfl (ci := 6) (f := 0) rfl (by decide) (by decide) rfl rfl (fun _ _ => rfl) (by decide) kf_X6_7 (fun _ => rfl) ⟨rfl, fun _ => rfl⟩ (by rw [mN_nw, if_neg (by decide), h.1]; decide) ?_
  refine jgen (J := J) (P := fun μ1 => mI0 μ μ1 1) (mI0_step h (by decide) rfl) ?_
  clear h
  intro μ1 h
  refine mj_aload_n (pc' := 13) C dX6_init_12 rfl rfl ?_
  refine mj_bipush (pc' := 15) (v := 30) C dX6_init_13 rfl rfl ?_
  refine mj_newa (kd := 22) (pc' := 17) C dX6_init_15 rfl rfl rfl (by decide) (by decide) ⟨by decide, by decide, fun _ h9 => by cases h9⟩ (by decide) rfl ka_int (by decide) (by decide) (by decide) ?_
  refine mj_putRF (pc' := 20) C dX6_init_17 rfl (ci := 6) (f := 1) rfl (by decide) (by decide) rfl rfl (fun _ _ => rfl) (by decide) kf_X6_13 (fun _ => rfl) ⟨rfl, fun _ => rfl⟩ (by rw [mN_nw, if_neg (by decide), h.1]; decide) ?_
  refine jgen (J := J) (P := fun μ1 => mI0 μ μ1 2) (mI0_step h (by decide) rfl) ?_
  clear h
  intro μ2 h
  refine mj_aload_n (pc' := 21) C dX6_init_20 rfl rfl ?_
  refine mj_bipush (pc' := 23) (v := 30) C dX6_init_21 rfl rfl ?_
  refine mj_newa (kd := 23) (pc' := 25) C dX6_init_23 rfl rfl rfl (by decide) (by decide) ⟨by decide, by decide, fun _ h9 => by cases h9⟩ (by decide) rfl ka_int (by decide) (by decide) (by decide) ?_
  refine mj_putRF (pc' := 28) C dX6_init_25 rfl (ci := 6) (f := 2) rfl (by decide) (by decide) rfl rfl (fun _ _ => rfl) (by decide) kf_X6_16 (fun _ => rfl) ⟨rfl, fun _ => rfl⟩ (by rw [mN_nw, if_neg (by decide), h.1]; decide) ?_
  refine jgen (J := J) (P := fun μ1 => mI0 μ μ1 3) (mI0_step h (by decide) rfl) ?_
  clear h
  intro μ3 h
  refine mj_aload_n (pc' := 29) C dX6_init_28 rfl rfl ?_
  refine mj_bipush (pc' := 31) (v := 30) C dX6_init_29 rfl rfl ?_
  refine mj_newa (kd := 24) (pc' := 33) C dX6_init_31 rfl rfl rfl (by decide) (by decide) ⟨by decide, by decide, fun _ h9 => by cases h9⟩ (by decide) rfl ka_int (by decide) (by decide) (by decide) ?_
  refine mj_putRF (pc' := 36) C dX6_init_33 rfl (ci := 6) (f := 3) rfl (by decide) (by decide) rfl rfl (fun _ _ => rfl) (by decide) kf_X6_19 (fun _ => rfl) ⟨rfl, fun _ => rfl⟩ (by rw [mN_nw, if_neg (by decide), h.1]; decide) ?_
  refine jgen (J := J) (P := fun μ1 => mI0 μ μ1 4) (mI0_step h (by decide) rfl) ?_
  clear h
  intro μ4 h
  refine mj_aload_n (pc' := 37) C dX6_init_36 rfl rfl ?_
  refine mj_bipush (pc' := 39) (v := 30) C dX6_init_37 rfl rfl ?_
  refine mj_newa (kd := 25) (pc' := 41) C dX6_init_39 rfl rfl rfl (by decide) (by decide) ⟨by decide, by decide, fun _ h9 => by cases h9⟩ (by decide) rfl ka_int (by decide) (by decide) (by decide) ?_
  refine mj_putRF (pc' := 44) C dX6_init_41 rfl (ci := 6) (f := 4) rfl (by decide) (by decide) rfl rfl (fun _ _ => rfl) (by decide) kf_X6_22 (fun _ => rfl) ⟨rfl, fun _ => rfl⟩ (by rw [mN_nw, if_neg (by decide), h.1]; decide) ?_
  refine jgen (J := J) (P := fun μ1 => mI0 μ μ1 5) (mI0_step h (by decide) rfl) ?_
  clear h
  intro μ5 h
  refine mj_aload_n (pc' := 45) C dX6_init_44 rfl rfl ?_
  refine mj_bipush (pc' := 47) (v := 30) C dX6_init_45 rfl rfl ?_
  refine mj_newa (kd := 26) (pc' := 49) C dX6_init_47 rfl rfl rfl (by decide) (by decide) ⟨by decide, by decide, fun _ h9 => by cases h9⟩ (by decide) rfl ka_boolean (by decide) (by decide) (by decide) ?_
  refine mj_putRF (pc' := 52) C dX6_init_49 rfl (ci := 6) (f := 5) rfl (by decide) (by decide) rfl rfl (fun _ _ => rfl) (by decide) kf_X6_25 (fun _ => rfl) ⟨rfl, fun _ => rfl⟩ (by rw [mN_nw, if_neg (by decide), h.1]; decide) ?_
  refine jgen (J := J) (P := fun μ1 => mI0 μ μ1 6) (mI0_step h (by decide) rfl) ?_
  clear h
  intro μ6 h
  refine mj_aload_n (pc' := 53) C dX6_init_52 rfl rfl ?_
  refine mj_iconst (pc' := 54) (v := 5) C dX6_init_53 rfl rfl ?_
  refine mj_newa (kd := 27) (pc' := 56) C dX6_init_54 rfl rfl rfl (by decide) (by decide) ⟨by decide, by decide, fun _ h9 => by cases h9⟩ (by decide) rfl ka_int (by decide) (by decide) (by decide) ?_
  refine mj_putRF (pc' := 59) C dX6_init_56 rfl (ci := 6) (f := 6) rfl (by decide) (by decide) rfl rfl (fun _ _ => rfl) (by decide) kf_X6_29 (fun _ => rfl) ⟨rfl, fun _ => rfl⟩ (by rw [mN_nw, if_neg (by decide), h.1]; decide) ?_
  refine jgen (J := J) (P := fun μ1 => mI0 μ μ1 7) (mI0_step h (by decide) rfl) ?_
  clear h
  intro μ7 h
  refine mj_aload_n (pc' := 60) C dX6_init_59 rfl rfl ?_
  refine mj_iconst (pc' := 61) (v := 5) C dX6_init_60 rfl rfl ?_
  refine mj_newa (kd := 28) (pc' := 63) C dX6_init_61 rfl rfl rfl (by decide) (by decide) ⟨by decide, by decide, fun _ h9 => by cases h9⟩ (by decide) rfl ka_int (by decide) (by decide) (by decide) ?_
  refine mj_putRF (pc' := 66) C dX6_init_63 rfl (ci := 6) (f := 7) rfl (by decide) (by decide) rfl rfl (fun _ _ => rfl) (by decide) kf_X6_32 (fun _ => rfl) ⟨rfl, fun _ => rfl⟩ (by rw [mN_nw, if_neg (by decide), h.1]; decide) ?_
  refine jgen (J := J) (P := fun μ1 => mI0 μ μ1 8) (mI0_step h (by decide) rfl) ?_
  clear h
  intro μ8 h
  refine mj_aload_n (pc' := 67) C dX6_init_66 rfl rfl ?_
  refine mj_iconst (pc' := 68) (v := 5) C dX6_init_67 rfl rfl ?_
  refine mj_newa (kd := 29) (pc' := 70) C dX6_init_68 rfl rfl rfl (by decide) (by decide) ⟨by decide, by decide, fun _ h9 => by cases h9⟩ (by decide) rfl ka_int (by decide) (by decide) (by decide) ?_
  refine mj_putRF (pc' := 73) C dX6_init_70 rfl (ci := 6) (f := 8) rfl (by decide) (by decide) rfl rfl (fun _ _ => rfl) (by decide) kf_X6_35 (fun _ => rfl) ⟨rfl, fun _ => rfl⟩ (by rw [mN_nw, if_neg (by decide), h.1]; decide) ?_
  refine jgen (J := J) (P := fun μ1 => mI0 μ μ1 9) (mI0_step h (by decide) rfl) ?_
  clear h
  intro μ9 h
  refine mj_aload_n (pc' := 74) C dX6_init_73 rfl rfl ?_
  refine mj_bipush (pc' := 76) (v := 40) C dX6_init_74 rfl rfl ?_
  refine mj_newa (kd := 30) (pc' := 78) C dX6_init_76 rfl rfl rfl (by decide) (by decide) ⟨by decide, by decide, fun _ h9 => by cases h9⟩ (by decide) rfl ka_int (by decide) (by decide) (by decide) ?_
  refine mj_putRF (pc' := 81) C dX6_init_78 rfl (ci := 6) (f := 9) rfl (by decide) (by decide) rfl rfl (fun _ _ => rfl) (by decide) kf_X6_38 (fun _ => rfl) ⟨rfl, fun _ => rfl⟩ (by rw [mN_nw, if_neg (by decide), h.1]; decide) ?_
  refine jgen (J := J) (P := fun μ1 => mI0 μ μ1 10) (mI0_step h (by decide) rfl) ?_
  clear h
  intro μ10 h
  refine mj_aload_n (pc' := 82) C dX6_init_81 rfl rfl ?_
  refine mj_bipush (pc' := 84) (v := 40) C dX6_init_82 rfl rfl ?_
  refine mj_newa (kd := 31) (pc' := 86) C dX6_init_84 rfl rfl rfl (by decide) (by decide) ⟨by decide, by decide, fun _ h9 => by cases h9⟩ (by decide) rfl ka_int (by decide) (by decide) (by decide) ?_
  refine mj_putRF (pc' := 89) C dX6_init_86 rfl (ci := 6) (f := 10) rfl (by decide) (by decide) rfl rfl (fun _ _ => rfl) (by decide) kf_X6_41 (fun _ => rfl) ⟨rfl, fun _ => rfl⟩ (by rw [mN_nw, if_neg (by decide), h.1]; decide) ?_
  refine jgen (J := J) (P := fun μ1 => mI0 μ μ1 11) (mI0_step h (by decide) rfl) ?_
  clear h
  intro μ11 h
  refine mj_aload_n (pc' := 90) C dX6_init_89 rfl rfl ?_
  refine mj_bipush (pc' := 92) (v := 40) C dX6_init_90 rfl rfl ?_
  refine mj_newa (kd := 32) (pc' := 94) C dX6_init_92 rfl rfl rfl (by decide) (by decide) ⟨by decide, by decide, fun _ h9 => by cases h9⟩ (by decide) rfl ka_int (by decide) (by decide) (by decide) ?_
  refine mj_putRF (pc' := 97) C dX6_init_94 rfl (ci := 6) (f := 11) rfl (by decide) (by decide) rfl rfl (fun _ _ => rfl) (by decide) kf_X6_44 (fun _ => rfl) ⟨rfl, fun _ => rfl⟩ (by rw [mN_nw, if_neg (by decide), h.1]; decide) ?_
  refine jgen (J := J) (P := fun μ1 => mI0 μ μ1 12) (mI0_step h (by decide) rfl) ?_
  clear h
  intro μ12 h
  refine mj_aload_n (pc' := 98) C dX6_init_97 rfl rfl ?_
  refine mj_bipush (pc' := 100) (v := 40) C dX6_init_98 rfl rfl ?_
  refine mj_newa (kd := 33) (pc' := 102) C dX6_init_100 rfl rfl rfl (by decide) (by decide) ⟨by decide, by decide, fun _ h9 => by cases h9⟩ (by decide) rfl ka_int (by decide) (by decide) (by decide) ?_
  refine mj_putRF (pc' := 105) C dX6_init_102 rfl (ci := 6) (f := 12) rfl (by decide) (by decide) rfl rfl (fun _ _ => rfl) (by decide) kf_X6_47 (fun _ => rfl) ⟨rfl, fun _ => rfl⟩ (by rw [mN_nw, if_neg (by decide), h.1]; decide) ?_
  refine jgen (J := J) (P := fun μ1 => mI0 μ μ1 13) (mI0_step h (by decide) rfl) ?_
  clear h
  intro μ13 h
  refine mj_aload_n (pc' := 106) C dX6_init_105 rfl rfl ?_
  refine mj_bipush (pc' := 108) (v := 40) C dX6_init_106 rfl rfl ?_
  refine mj_newa (kd := 34) (pc' := 110) C dX6_init_108 rfl rfl rfl (by decide) (by decide) ⟨by decide, by decide, fun _ h9 => by cases h9⟩ (by decide) rfl ka_int (by decide) (by decide) (by decide) ?_
  refine mj_putRF (pc' := 113) C dX6_init_110 rfl (ci := 6) (f := 13) rfl (by decide) (by decide) rfl rfl (fun _ _ => rfl) (by decide) kf_X6_50 (fun _ => rfl) ⟨rfl, fun _ => rfl⟩ (by rw [mN_nw, if_neg (by decide), h.1]; decide) ?_
  refine jgen (J := J) (P := fun μ1 => mI0 μ μ1 14) (mI0_step h (by decide) rfl) ?_
  clear h
  intro μ14 h
  refine mj_aload_n (pc' := 114) C dX6_init_113 rfl rfl ?_
  refine mj_bipush (pc' := 116) (v := 40) C dX6_init_114 rfl rfl ?_
  refine mj_newa (kd := 35) (pc' := 118) C dX6_init_116 rfl rfl rfl (by decide) (by decide) ⟨by decide, by decide, fun _ h9 => by cases h9⟩ (by decide) rfl ka_int (by decide) (by decide) (by decide) ?_
  refine mj_putRF (pc' := 121) C dX6_init_118 rfl (ci := 6) (f := 14) rfl (by decide) (by decide) rfl rfl (fun _ _ => rfl) (by decide) kf_X6_53 (fun _ => rfl) ⟨rfl, fun _ => rfl⟩ (by rw [mN_nw, if_neg (by decide), h.1]; decide) ?_
  refine jgen (J := J) (P := fun μ1 => mI0 μ μ1 15) (mI0_step h (by decide) rfl) ?_
  clear h
  intro μ15 h
  refine mj_aload_n (pc' := 122) C dX6_init_121 rfl rfl ?_
  refine mj_bipush (pc' := 124) (v := 40) C dX6_init_122 rfl rfl ?_
  refine mj_newa (kd := 36) (pc' := 126) C dX6_init_124 rfl rfl rfl (by decide) (by decide) ⟨by decide, by decide, fun _ h9 => by cases h9⟩ (by decide) rfl ka_int (by decide) (by decide) (by decide) ?_
  refine mj_putRF (pc' := 129) C dX6_init_126 rfl (ci := 6) (f := 15) rfl (by decide) (by decide) rfl rfl (fun _ _ => rfl) (by decide) kf_X6_56 (fun _ => rfl) ⟨rfl, fun _ => rfl⟩ (by rw [mN_nw, if_neg (by decide), h.1]; decide) ?_
  refine jgen (J := J) (P := fun μ1 => mI0 μ μ1 16) (mI0_step h (by decide) rfl) ?_
  clear h
  intro μ16 h
  refine mj_aload_n (pc' := 130) C dX6_init_129 rfl rfl ?_
  refine mj_bipush (pc' := 132) (v := 40) C dX6_init_130 rfl rfl ?_
  refine mj_newa (kd := 37) (pc' := 134) C dX6_init_132 rfl rfl rfl (by decide) (by decide) ⟨by decide, by decide, fun _ h9 => by cases h9⟩ (by decide) rfl ka_boolean (by decide) (by decide) (by decide) ?_
  refine mj_putRF (pc' := 137) C dX6_init_134 rfl (ci := 6) (f := 16) rfl (by decide) (by decide) rfl rfl (fun _ _ => rfl) (by decide) kf_X6_59 (fun _ => rfl) ⟨rfl, fun _ => rfl⟩ (by rw [mN_nw, if_neg (by decide), h.1]; decide) ?_
  refine jgen (J := J) (P := fun μ1 => mI0 μ μ1 17) (mI0_step h (by decide) rfl) ?_
  clear h
  intro μ17 h
  refine mj_aload_n (pc' := 138) C dX6_init_137 rfl rfl ?_
  refine mj_bipush (pc' := 140) (v := 40) C dX6_init_138 rfl rfl ?_
  refine mj_newa (kd := 38) (pc' := 142) C dX6_init_140 rfl rfl rfl (by decide) (by decide) ⟨by decide, by decide, fun _ h9 => by cases h9⟩ (by decide) rfl ka_boolean (by decide) (by decide) (by decide) ?_
  refine mj_putRF (pc' := 145) C dX6_init_142 rfl (ci := 6) (f := 17) rfl (by decide) (by decide) rfl rfl (fun _ _ => rfl) (by decide) kf_X6_62 (fun _ => rfl) ⟨rfl, fun _ => rfl⟩ (by rw [mN_nw, if_neg (by decide), h.1]; decide) ?_
  refine jgen (J := J) (P := fun μ1 => mI0 μ μ1 18) (mI0_step h (by decide) rfl) ?_
  clear h
  intro μ18 h
  refine mj_aload_n (pc' := 146) C dX6_init_145 rfl rfl ?_
  refine mj_bipush (pc' := 148) (v := 40) C dX6_init_146 rfl rfl ?_
  refine mj_newa (kd := 39) (pc' := 150) C dX6_init_148 rfl rfl rfl (by decide) (by decide) ⟨by decide, by decide, fun _ h9 => by cases h9⟩ (by decide) rfl ka_boolean (by decide) (by decide) (by decide) ?_
  refine mj_putRF (pc' := 153) C dX6_init_150 rfl (ci := 6) (f := 18) rfl (by decide) (by decide) rfl rfl (fun _ _ => rfl) (by decide) kf_X6_65 (fun _ => rfl) ⟨rfl, fun _ => rfl⟩ (by rw [mN_nw, if_neg (by decide), h.1]; decide) ?_
  refine jgen (J := J) (P := fun μ1 => mI0 μ μ1 19) (mI0_step h (by decide) rfl) ?_
  clear h
  intro μ19 h
  refine mj_aload_n (pc' := 154) C dX6_init_153 rfl rfl ?_
  refine mj_bipush (pc' := 156) (v := 100) C dX6_init_154 rfl rfl ?_
  refine mj_newa (kd := 40) (pc' := 158) C dX6_init_156 rfl rfl rfl (by decide) (by decide) ⟨by decide, by decide, fun _ h9 => by cases h9⟩ (by decide) rfl ka_int (by decide) (by decide) (by decide) ?_
  refine mj_putRF (pc' := 161) C dX6_init_158 rfl (ci := 6) (f := 19) rfl (by decide) (by decide) rfl rfl (fun _ _ => rfl) (by decide) kf_X6_68 (fun _ => rfl) ⟨rfl, fun _ => rfl⟩ (by rw [mN_nw, if_neg (by decide), h.1]; decide) ?_
  refine jgen (J := J) (P := fun μ1 => mI0 μ μ1 20) (mI0_step h (by decide) rfl) ?_
  clear h
  intro μ20 h
  refine mj_aload_n (pc' := 162) C dX6_init_161 rfl rfl ?_
  refine mj_bipush (pc' := 164) (v := 100) C dX6_init_162 rfl rfl ?_
  refine mj_newa (kd := 41) (pc' := 166) C dX6_init_164 rfl rfl rfl (by decide) (by decide) ⟨by decide, by decide, fun _ h9 => by cases h9⟩ (by decide) rfl ka_int (by decide) (by decide) (by decide) ?_
  refine mj_putRF (pc' := 169) C dX6_init_166 rfl (ci := 6) (f := 20) rfl (by decide) (by decide) rfl rfl (fun _ _ => rfl) (by decide) kf_X6_71 (fun _ => rfl) ⟨rfl, fun _ => rfl⟩ (by rw [mN_nw, if_neg (by decide), h.1]; decide) ?_
  refine jgen (J := J) (P := fun μ1 => mI0 μ μ1 21) (mI0_step h (by decide) rfl) ?_
  clear h
  intro μ21 h
  refine mj_aload_n (pc' := 170) C dX6_init_169 rfl rfl ?_
  refine mj_bipush (pc' := 172) (v := 100) C dX6_init_170 rfl rfl ?_
  refine mj_newa (kd := 42) (pc' := 174) C dX6_init_172 rfl rfl rfl (by decide) (by decide) ⟨by decide, by decide, fun _ h9 => by cases h9⟩ (by decide) rfl ka_int (by decide) (by decide) (by decide) ?_
  refine mj_putRF (pc' := 177) C dX6_init_174 rfl (ci := 6) (f := 21) rfl (by decide) (by decide) rfl rfl (fun _ _ => rfl) (by decide) kf_X6_74 (fun _ => rfl) ⟨rfl, fun _ => rfl⟩ (by rw [mN_nw, if_neg (by decide), h.1]; decide) ?_
  refine jgen (J := J) (P := fun μ1 => mI0 μ μ1 22) (mI0_step h (by decide) rfl) ?_
  clear h
  intro μ22 h
  refine mj_aload_n (pc' := 178) C dX6_init_177 rfl rfl ?_
  refine mj_sipush (pc' := 181) (v := 900) C dX6_init_178 rfl rfl ?_
  refine mj_newa (kd := 43) (pc' := 183) C dX6_init_181 rfl rfl rfl (by decide) (by decide) ⟨by decide, by decide, fun _ h9 => by cases h9⟩ (by decide) rfl ka_int (by decide) (by decide) (by decide) ?_
  refine mj_putRF (pc' := 186) C dX6_init_183 rfl (ci := 6) (f := 22) rfl (by decide) (by decide) rfl rfl (fun _ _ => rfl) (by decide) kf_X6_77 (fun _ => rfl) ⟨rfl, fun _ => rfl⟩ (by rw [mN_nw, if_neg (by decide), h.1]; decide) ?_
  refine jgen (J := J) (P := fun μ1 => mI0 μ μ1 23) (mI0_step h (by decide) rfl) ?_
  clear h
  intro μ23 h
  refine mj_aload_n (pc' := 187) C dX6_init_186 rfl rfl ?_
  refine mj_bipush (pc' := 189) (v := 11) C dX6_init_187 rfl rfl ?_
  refine mj_newa (kd := 44) (pc' := 191) C dX6_init_189 rfl rfl rfl (by decide) (by decide) ⟨by decide, by decide, fun _ h9 => by cases h9⟩ (by decide) rfl ka_int (by decide) (by decide) (by decide) ?_
  refine mj_putRF (pc' := 194) C dX6_init_191 rfl (ci := 6) (f := 23) rfl (by decide) (by decide) rfl rfl (fun _ _ => rfl) (by decide) kf_X6_80 (fun _ => rfl) ⟨rfl, fun _ => rfl⟩ (by rw [mN_nw, if_neg (by decide), h.1]; decide) ?_
  refine jgen (J := J) (P := fun μ1 => mI0 μ μ1 24) (mI0_step h (by decide) rfl) ?_
  clear h
  intro μ24 h
  refine mj_aload_n (pc' := 195) C dX6_init_194 rfl rfl ?_
  refine mj_bipush (pc' := 197) (v := 11) C dX6_init_195 rfl rfl ?_
  refine mj_newa (kd := 45) (pc' := 199) C dX6_init_197 rfl rfl rfl (by decide) (by decide) ⟨by decide, by decide, fun _ h9 => by cases h9⟩ (by decide) rfl ka_int (by decide) (by decide) (by decide) ?_
  refine mj_putRF (pc' := 202) C dX6_init_199 rfl (ci := 6) (f := 24) rfl (by decide) (by decide) rfl rfl (fun _ _ => rfl) (by decide) kf_X6_83 (fun _ => rfl) ⟨rfl, fun _ => rfl⟩ (by rw [mN_nw, if_neg (by decide), h.1]; decide) ?_
  refine jgen (J := J) (P := fun μ1 => mI0 μ μ1 25) (mI0_step h (by decide) rfl) ?_
  clear h
  intro μ25 h
  refine mj_aload_n (pc' := 203) C dX6_init_202 rfl rfl ?_
  refine mj_bipush (pc' := 205) (v := 11) C dX6_init_203 rfl rfl ?_
  refine mj_newa (kd := 46) (pc' := 207) C dX6_init_205 rfl rfl rfl (by decide) (by decide) ⟨by decide, by decide, fun _ h9 => by cases h9⟩ (by decide) rfl ka_int (by decide) (by decide) (by decide) ?_
  refine mj_putRF (pc' := 210) C dX6_init_207 rfl (ci := 6) (f := 25) rfl (by decide) (by decide) rfl rfl (fun _ _ => rfl) (by decide) kf_X6_86 (fun _ => rfl) ⟨rfl, fun _ => rfl⟩ (by rw [mN_nw, if_neg (by decide), h.1]; decide) ?_
  refine jgen (J := J) (P := fun μ1 => mI0 μ μ1 26) (mI0_step h (by decide) rfl) ?_
  clear h
  intro μ26 h
  refine mj_aload_n (pc' := 211) C dX6_init_210 rfl rfl ?_
  refine mj_bipush (pc' := 213) (v := 11) C dX6_init_211 rfl rfl ?_
  refine mj_newa (kd := 47) (pc' := 215) C dX6_init_213 rfl rfl rfl (by decide) (by decide) ⟨by decide, by decide, fun _ h9 => by cases h9⟩ (by decide) rfl ka_int (by decide) (by decide) (by decide) ?_
  refine mj_putRF (pc' := 218) C dX6_init_215 rfl (ci := 6) (f := 26) rfl (by decide) (by decide) rfl rfl (fun _ _ => rfl) (by decide) kf_X6_89 (fun _ => rfl) ⟨rfl, fun _ => rfl⟩ (by rw [mN_nw, if_neg (by decide), h.1]; decide) ?_
  refine jgen (J := J) (P := fun μ1 => mI0 μ μ1 27) (mI0_step h (by decide) rfl) ?_
  clear h
  intro μ27 h
  refine mj_aload_n (pc' := 219) C dX6_init_218 rfl rfl ?_
  refine mj_bipush (pc' := 221) (v := 11) C dX6_init_219 rfl rfl ?_
  refine mj_newa (kd := 48) (pc' := 223) C dX6_init_221 rfl rfl rfl (by decide) (by decide) ⟨by decide, by decide, fun _ h9 => by cases h9⟩ (by decide) rfl ka_int (by decide) (by decide) (by decide) ?_
  refine mj_putRF (pc' := 226) C dX6_init_223 rfl (ci := 6) (f := 27) rfl (by decide) (by decide) rfl rfl (fun _ _ => rfl) (by decide) kf_X6_92 (fun _ => rfl) ⟨rfl, fun _ => rfl⟩ (by rw [mN_nw, if_neg (by decide), h.1]; decide) ?_
  refine jgen (J := J) (P := fun μ1 => mI0 μ μ1 28) (mI0_step h (by decide) rfl) ?_
  clear h
  intro μ28 h
  refine mj_aload_n (pc' := 227) C dX6_init_226 rfl rfl ?_
  refine mj_bipush (pc' := 229) (v := 10) C dX6_init_227 rfl rfl ?_
  refine mj_newa (kd := 49) (pc' := 231) C dX6_init_229 rfl rfl rfl (by decide) (by decide) ⟨by decide, by decide, fun _ h9 => by cases h9⟩ (by decide) rfl ka_boolean (by decide) (by decide) (by decide) ?_
  refine mj_putRF (pc' := 234) C dX6_init_231 rfl (ci := 6) (f := 28) rfl (by decide) (by decide) rfl rfl (fun _ _ => rfl) (by decide) kf_X6_95 (fun _ => rfl) ⟨rfl, fun _ => rfl⟩ (by rw [mN_nw, if_neg (by decide), h.1]; decide) ?_
  refine jgen (J := J) (P := fun μ1 => mI0 μ μ1 29) (mI0_step h (by decide) rfl) ?_
  clear h
  intro μ29 h
  refine mj_aload_n (pc' := 235) C dX6_init_234 rfl rfl ?_
  refine mj_sipush (pc' := 238) (v := 1000) C dX6_init_235 rfl rfl ?_
  refine mj_putI (pc' := 241) C dX6_init_238 rfl (ci := 6) (f := 31) rfl (by decide) (by decide) rfl (fun _ _ => rfl) (by decide) kf_X6_98 rfl rfl (Nat.lt_of_lt_of_eq Nat.zero_lt_one h.1.symm) ?_
  refine mj_aload_n (pc' := 242) C dX6_init_241 rfl rfl ?_
  refine mj_sipush (pc' := 245) (v := 1000) C dX6_init_242 rfl rfl ?_
  refine mj_putI (pc' := 248) C dX6_init_245 rfl (ci := 6) (f := 32) rfl (by decide) (by decide) rfl (fun _ _ => rfl) (by decide) kf_X6_102 rfl rfl (Nat.lt_of_lt_of_eq Nat.zero_lt_one h.1.symm) ?_
  refine jgen (J := J) (P := fun μ1 => mI1 μ μ1 0 0) (mI1_of h) ?_
  clear h
  intro μ30 h
  refine mj_iconst (pc' := 249) (v := 0) C dX6_init_248 rfl rfl ?_
  refine mj_istore_n_1 (pc' := 250) C dX6_init_249 rfl (by decide) rfl ?_
  have lo1 : ∀ (d : Nat) (i : Nat) (μ1 : jM), i + d = 10 → mI1 μ μ1 i 0 → J 250 [some (aR 20 0), some (aI (nI i))] [] μ1 29 1840 := by
    intro d
    induction d with
    | zero =>
      intro i μ1 hd h1
      obtain rfl : i = 10 := by omega
      refine mj_iload_n (pc' := 251) C dX6_init_250 rfl rfl ?_
      refine mj_bipush (pc' := 253) (v := 10) C dX6_init_251 rfl rfl ?_
      refine mj_icmp_ge (tgt := 269) (pc' := 256) C dX6_init_253 (by decide) rfl (fun _ => ?_) (fun h9 => absurd (by decide) h9)
      refine mj_iconst (pc' := 270) (v := 0) C dX6_init_269 rfl rfl ?_
      refine mj_istore_n_1 (pc' := 271) C dX6_init_270 rfl (by decide) rfl ?_
      have lo2 : ∀ (d : Nat) (i : Nat) (μ1 : jM), i + d = 5 → mI1 μ μ1 10 i → J 271 [some (aR 20 0), some (aI (nI i))] [] μ1 29 1840 := by
        intro d
        induction d with
        | zero =>
          intro i μ1 hd h1
          obtain rfl : i = 5 := by omega
          refine mj_iload_n (pc' := 272) C dX6_init_271 rfl rfl ?_
          refine mj_iconst (pc' := 273) (v := 5) C dX6_init_272 rfl rfl ?_
          refine mj_icmp_ge (tgt := 297) (pc' := 276) C dX6_init_273 (by decide) rfl (fun _ => ?_) (fun h9 => absurd (by decide) h9)
          refine mj_vret C dX6_init_297 (by decide) (by decide) (by decide) ?_
          exact ⟨rfl, mI1_R h1, h1.2.2.2.2.2⟩
        | succ d ih =>
          intro i μ1 hd h1
          have hlt : i < 5 := by omega
          refine mj_iload_n (pc' := 272) C dX6_init_271 rfl rfl ?_
          refine mj_iconst (pc' := 273) (v := 5) C dX6_init_272 rfl rfl ?_
          refine mj_icmp_ge (tgt := 297) (pc' := 276) C dX6_init_273 (by decide) rfl (fun h9 => absurd h9 (nI_ge (b := 5) hlt (by decide))) (fun _ => ?_)
          refine mj_aload_n (pc' := 277) C dX6_init_276 rfl rfl ?_
          refine mj_getR (pc' := 280) C dX6_init_277 rfl (ci := 6) (f := 6) rfl (by decide) (by decide) (fun _ => rfl) (by decide) kf_X6_29 h1.1.l0 (h1.1.p 6 (by decide) rfl) ?_
          refine mj_iload_n (pc' := 281) C dX6_init_280 rfl rfl ?_
          refine mj_bipush (pc' := 283) (v := 10) C dX6_init_281 rfl rfl ?_
          refine mj_iast (pc' := 284) C dX6_init_283 rfl rfl (by decide) (by decide) (h1.1.l 6 (by decide) rfl) rfl (by omega) ?_
          refine mj_aload_n (pc' := 285) C dX6_init_284 rfl rfl ?_
          refine mj_getR (pc' := 288) C dX6_init_285 rfl (ci := 6) (f := 8) rfl (by decide) (by decide) (fun _ => rfl) (by decide) kf_X6_35 h1.1.l0 (h1.1.p 8 (by decide) rfl) ?_
          refine mj_iload_n (pc' := 289) C dX6_init_288 rfl rfl ?_
          refine mj_iconst (pc' := 290) (v := 5) C dX6_init_289 rfl rfl ?_
          refine mj_iast (pc' := 291) C dX6_init_290 rfl rfl (by decide) (by decide) (h1.1.l 8 (by decide) rfl) rfl (by omega) ?_
          refine mj_iinc_1 (pc' := 294) (w := 1) C dX6_init_291 rfl rfl (by decide) rfl ?_
          refine mj_goto (pc' := 271) C dX6_init_294 (by decide) ?_
          rw [nI_1]
          exact ih (i + 1) _ (by omega) (mI1_j h1)
      exact lo2 5 0 _ (by omega) h1
    | succ d ih =>
      intro i μ1 hd h1
      have hlt : i < 10 := by omega
      refine mj_iload_n (pc' := 251) C dX6_init_250 rfl rfl ?_
      refine mj_bipush (pc' := 253) (v := 10) C dX6_init_251 rfl rfl ?_
      refine mj_icmp_ge (tgt := 269) (pc' := 256) C dX6_init_253 (by decide) rfl (fun h9 => absurd h9 (nI_ge (b := 10) hlt (by decide))) (fun _ => ?_)
      refine mj_aload_n (pc' := 257) C dX6_init_256 rfl rfl ?_
      refine mj_getR (pc' := 260) C dX6_init_257 rfl (ci := 6) (f := 0) rfl (by decide) (by decide) (fun _ => rfl) (by decide) kf_X6_7 h1.1.l0 (h1.1.p 0 (by decide) rfl) ?_
      refine mj_iload_n (pc' := 261) C dX6_init_260 rfl rfl ?_
      refine mj_iconst (pc' := 262) (v := (-1)) C dX6_init_261 rfl rfl ?_
      refine mj_iast (pc' := 263) C dX6_init_262 rfl rfl (by decide) (by decide) (h1.1.l 0 (by decide) rfl) rfl (by omega) ?_
      refine mj_iinc_1 (pc' := 266) (w := 1) C dX6_init_263 rfl rfl (by decide) rfl ?_
      refine mj_goto (pc' := 250) C dX6_init_266 (by decide) ?_
      rw [nI_1]
      exact ih (i + 1) _ (by omega) (mI1_i h1)
  refine jkn (J := J) (k' := 29) (n' := 1840) rfl rfl ?_
  exact lo1 10 0 _ (by omega) h
