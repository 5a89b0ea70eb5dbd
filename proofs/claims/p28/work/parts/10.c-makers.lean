/-! MAKERS: LAW -/
set_option maxRecDepth 20000 in
theorem c_X2_init {l : Launch} (i : Nat) : jMetN l yX2_init (.code yX2_init cX2_init 1 none) 6 100 0 0 (fun avs μ => avs = [aR 10 i] ∧ i < mN μ 10) (fun avs μ r μ' => r = none ∧ μ' = sI (sI (sI μ 10 i 0 10) 10 i 1 0) 10 i 2 5) := by
  refine jMetI_of (by decide) rfl ?_
  intro avs μ J C hav hpre
  obtain ⟨rfl, hi⟩ := hpre
  refine ⟨Nat.le_of_ble_eq_true rfl, ?_⟩
  show J 0 [some (aR 10 i)] [] μ 0 0
  refine mj_aload_n (pc' := 1) C dX2_init_0 rfl rfl ?_
  refine mj_objInit (pc' := 4) C dX2_init_1 rfl km_X2_1 ki_obj kc_obj (by decide) (by decide) ?_
  refine mj_aload_n (pc' := 5) C dX2_init_4 rfl rfl ?_
  refine mj_bipush (pc' := 7) (v := 10) C dX2_init_5 rfl rfl ?_
  refine mj_putI (pc' := 10) C dX2_init_7 rfl (ci := 2) (f := 0) rfl (by decide) (by decide) rfl (fun _ _ => rfl) (by decide) kf_X2_7 rfl rfl hi ?_
  refine mj_aload_n (pc' := 11) C dX2_init_10 rfl rfl ?_
  refine mj_iconst (pc' := 12) (v := 0) C dX2_init_11 rfl rfl ?_
  refine mj_putI (pc' := 15) C dX2_init_12 rfl (ci := 2) (f := 1) rfl (by decide) (by decide) rfl (fun _ _ => rfl) (by decide) kf_X2_13 rfl rfl hi ?_
  refine mj_aload_n (pc' := 16) C dX2_init_15 rfl rfl ?_
  refine mj_iconst (pc' := 17) (v := 5) C dX2_init_16 rfl rfl ?_
  refine mj_putI (pc' := 20) C dX2_init_17 rfl (ci := 2) (f := 2) rfl (by decide) (by decide) rfl (fun _ _ => rfl) (by decide) kf_X2_16 rfl rfl hi ?_
  refine mj_vret C dX2_init_20 (by decide) (by decide) (by decide) ?_
  exact ⟨rfl, rfl⟩

set_option maxRecDepth 20000 in
theorem c_X0_init {l : Launch} (i : Nat) : jMetN l yX0_init (.code yX0_init cX0_init 1 none) 6 100 14 130 (fun avs μ => avs = [aR 11 i] ∧ i < mN μ 11) (fun avs μ r μ' => r = none ∧ μ' = (sP (nwm (sP (nw (sP (nw (sP (nw μ 14) 11 i 0 (some (14, mN μ 14))) 15) 11 i 1 (some (15, mN (sP (nw μ 14) 11 i 0 (some (14, mN μ 14))) 15))) 16) 11 i 2 (some (16, mN (sP (nw (sP (nw μ 14) 11 i 0 (some (14, mN μ 14))) 15) 11 i 1 (some (15, mN (sP (nw μ 14) 11 i 0 (some (14, mN μ 14))) 15))) 16))) 17 18 10) 11 i 3 (some (17, mN (sP (nw (sP (nw (sP (nw μ 14) 11 i 0 (some (14, mN μ 14))) 15) 11 i 1 (some (15, mN (sP (nw μ 14) 11 i 0 (some (14, mN μ 14))) 15))) 16) 11 i 2 (some (16, mN (sP (nw (sP (nw μ 14) 11 i 0 (some (14, mN μ 14))) 15) 11 i 1 (some (15, mN (sP (nw μ 14) 11 i 0 (some (14, mN μ 14))) 15))) 16))) 17)))) := by
  refine jMetI_of (by decide) rfl ?_
  intro avs μ J C hav hpre
  obtain ⟨rfl, hi⟩ := hpre
  refine ⟨Nat.le_of_ble_eq_true rfl, ?_⟩
  show J 0 [some (aR 11 i)] [] μ 0 0
  refine mj_aload_n (pc' := 1) C dX0_init_0 rfl rfl ?_
  refine mj_objInit (pc' := 4) C dX0_init_1 rfl km_X0_3 ki_obj kc_obj (by decide) (by decide) ?_
  refine mj_aload_n (pc' := 5) C dX0_init_4 rfl rfl ?_
  refine mj_bipush (pc' := 7) (v := 10) C dX0_init_5 rfl rfl ?_
  refine mj_newa (kd := 14) (pc' := 9) C dX0_init_7 rfl rfl rfl (by decide) (by decide) ⟨by decide, by decide, fun _ h9 => by cases h9⟩ (by decide) rfl ka_int (by decide) (by decide) (by decide) ?_
  refine mj_putRF (pc' := 12) C dX0_init_9 rfl (ci := 0) (f := 0) rfl (by decide) (by decide) rfl rfl (fun _ _ => rfl) (by decide) kf_X0_9 (fun _ => rfl) ⟨rfl, fun _ => rfl⟩ hi ?_
  refine mj_aload_n (pc' := 13) C dX0_init_12 rfl rfl ?_
  refine mj_bipush (pc' := 15) (v := 10) C dX0_init_13 rfl rfl ?_
  refine mj_newa (kd := 15) (pc' := 17) C dX0_init_15 rfl rfl rfl (by decide) (by decide) ⟨by decide, by decide, fun _ h9 => by cases h9⟩ (by decide) rfl ka_int (by decide) (by decide) (by decide) ?_
  refine mj_putRF (pc' := 20) C dX0_init_17 rfl (ci := 0) (f := 1) rfl (by decide) (by decide) rfl rfl (fun _ _ => rfl) (by decide) kf_X0_15 (fun _ => rfl) ⟨rfl, fun _ => rfl⟩ hi ?_
  refine mj_aload_n (pc' := 21) C dX0_init_20 rfl rfl ?_
  refine mj_bipush (pc' := 23) (v := 10) C dX0_init_21 rfl rfl ?_
  refine mj_newa (kd := 16) (pc' := 25) C dX0_init_23 rfl rfl rfl (by decide) (by decide) ⟨by decide, by decide, fun _ h9 => by cases h9⟩ (by decide) rfl ka_int (by decide) (by decide) (by decide) ?_
  refine mj_putRF (pc' := 28) C dX0_init_25 rfl (ci := 0) (f := 2) rfl (by decide) (by decide) rfl rfl (fun _ _ => rfl) (by decide) kf_X0_18 (fun _ => rfl) ⟨rfl, fun _ => rfl⟩ hi ?_
  refine mj_aload_n (pc' := 29) C dX0_init_28 rfl rfl ?_
  refine mj_bipush (pc' := 31) (v := 10) C dX0_init_29 rfl rfl ?_
  refine mj_bipush (pc' := 33) (v := 9) C dX0_init_31 rfl rfl ?_
  refine mj_mnew (a := 17) (r := 18) (N := 10) (M := 9) (pc' := 37) C dX0_init_33 rfl rfl rfl (by decide) (by decide) (by decide) rfl rfl kl_X0_21 ka_int (by decide) (by decide) ?_
  refine mj_putRF (pc' := 40) C dX0_init_37 rfl (ci := 0) (f := 3) rfl (by decide) (by decide) rfl rfl (fun _ _ => rfl) (by decide) kf_X0_23 (fun _ => rfl) ⟨rfl, fun _ => rfl⟩ hi ?_
  refine mj_vret C dX0_init_40 (by decide) (by decide) (by decide) ?_
  exact ⟨rfl, rfl⟩
