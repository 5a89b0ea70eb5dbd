/-! MAKERS: LAW -/
set_option maxRecDepth 20000 in
theorem c_X2_init {l : Launch} (i : Nat) : jMetN l yX2_init (.code yX2_init cX2_init 1 none) 6 100 0 0 (fun avs μ => avs = [aR 10 i] ∧ i < mN μ 10) (fun avs μ r μ' => r = none ∧ μ' = sI (sI (sI μ 10 i 0 10) 10 i 1 0) 10 i 2 5) := by
  refine jMetI_of (by decide) rfl ?_
  intro avs μ J C hav hpre
  obtain ⟨rfl, hi⟩ := hpre
  refine ⟨Nat.le_of_ble_eq_true rfl, ?_⟩
  show J 0 [some (aR 10 i)] [] μ 0 0
  refine mj_aload_n (pc' := 1) C dX2_init_0 rfl rfl ?_
  refine mj_objInit (pc' := 4) C dX2_init_1 rfl km_X2_1 ki_obj kc_obj (by decide) (by decide) ?_
  refine mj_aload_n (pc' := 5) C dX2_init_4 rfl rfl ?_
  refine mj_bipush (pc' := 7) (v := 10) C dX2_init_5 rfl rfl ?_
  refine mj_putI (pc' := 10) C dX2_init_7 rfl (ci := 2) (f := 0) rfl (by decide) (by decide) rfl (fun _ _ => rfl) (by decide) kf_X2_7 rfl rfl hi ?_
  refine mj_aload_n (pc' := 11) C dX2_init_10 rfl rfl ?_
  refine mj_iconst (pc' := 12) (v := 0) C dX2_init_11 rfl rfl ?_
  refine mj_putI (pc' := 15) C dX2_init_12 rfl (ci := 2) (f := 1) rfl (by decide) (by decide) rfl (fun _ _ => rfl) (by decide) kf_X2_13 rfl rfl hi ?_
  refine mj_aload_n (pc' := 16) C dX2_init_15 rfl rfl ?_
  refine mj_iconst (pc' := 17) (v := 5) C dX2_init_16 rfl rfl ?_
  refine mj_putI (pc' := 20) C dX2_init_17 rfl (ci := 2) (f := 2) rfl (by decide) (by decide) rfl (fun _ _ => rfl) (by decide) kf_X2_16 rfl rfl hi ?_
  refine mj_vret C dX2_init_20 (by decide) (by decide) (by decide) ?_
  exact ⟨rfl, rfl⟩
