/-! THE CLASS: FILE AND CONVERTER -/
def fNew (μ : jM) (i j : Nat) (f sz e y : Int32) : jM := sI (sI (sP (sI (sI (sI (sI μ 12 i 4 1000) 12 i 6 0) 12 i 3 f) 12 i 0 sz) 12 i 1 (some (10, j))) 12 i 2 e) 12 i 5 y
theorem fN_I {μ : jM} {i j : Nat} {f sz e y : Int32} {kd y9 z : Nat} (h : ¬ (kd = 12 ∧ y9 = i)) : mI (fNew μ i j f sz e y) kd y9 z = mI μ kd y9 z :=
  (mI_sI_n _ _ _ _ _ (fun q => h ⟨q.1, q.2.1⟩)).trans ((mI_sI_n _ _ _ _ _ (fun q => h ⟨q.1, q.2.1⟩)).trans ((mI_sI_n _ _ _ _ _ (fun q => h ⟨q.1, q.2.1⟩)).trans ((mI_sI_n _ _ _ _ _ (fun q => h ⟨q.1, q.2.1⟩)).trans ((mI_sI_n _ _ _ _ _ (fun q => h ⟨q.1, q.2.1⟩)).trans (mI_sI_n _ _ _ _ _ (fun q => h ⟨q.1, q.2.1⟩))))))
theorem fN_P {μ : jM} {i j : Nat} {f sz e y : Int32} {kd y9 z : Nat} : mP (fNew μ i j f sz e y) kd y9 z = if kd = 12 ∧ y9 = i ∧ z = 1 then some (10, j) else mP μ kd y9 z := rfl
theorem fN_N {μ : jM} {i j : Nat} {f sz e y : Int32} : mN (fNew μ i j f sz e y) = mN μ := rfl
theorem fN_v {μ : jM} {i j : Nat} {f sz e y : Int32} (h : mI μ 12 i 7 = 0) : mI (fNew μ i j f sz e y) 12 i 0 = sz ∧ mI (fNew μ i j f sz e y) 12 i 2 = e ∧ mI (fNew μ i j f sz e y) 12 i 3 = f ∧ mI (fNew μ i j f sz e y) 12 i 4 = 1000 ∧ mI (fNew μ i j f sz e y) 12 i 5 = y ∧ mI (fNew μ i j f sz e y) 12 i 6 = 0 ∧ mI (fNew μ i j f sz e y) 12 i 7 = 0 := by
  have hP : ∀ (ν : jM) (a b c : Nat) (v : Option (Nat × Nat)), mI (sP ν a b c v) = mI ν := fun _ _ _ _ _ => rfl
  unfold fNew
  simp [mI_sI, hP, h]
def cNew (μ : jM) (i : Nat) (nr f t lo co : Int32) : jM := sI (sI (sI (sI (sI μ 13 i 0 nr) 13 i 1 f) 13 i 2 t) 13 i 3 lo) 13 i 4 co
theorem cN_I {μ : jM} {i : Nat} {nr f t lo co : Int32} {kd y9 z : Nat} (h : ¬ (kd = 13 ∧ y9 = i)) : mI (cNew μ i nr f t lo co) kd y9 z = mI μ kd y9 z :=
  (mI_sI_n _ _ _ _ _ (fun q => h ⟨q.1, q.2.1⟩)).trans ((mI_sI_n _ _ _ _ _ (fun q => h ⟨q.1, q.2.1⟩)).trans ((mI_sI_n _ _ _ _ _ (fun q => h ⟨q.1, q.2.1⟩)).trans ((mI_sI_n _ _ _ _ _ (fun q => h ⟨q.1, q.2.1⟩)).trans (mI_sI_n _ _ _ _ _ (fun q => h ⟨q.1, q.2.1⟩)))))
theorem cN_v {μ : jM} {i : Nat} {nr f t lo co : Int32} (h : mI μ 13 i 5 = 0) : mI (cNew μ i nr f t lo co) 13 i 0 = nr ∧ mI (cNew μ i nr f t lo co) 13 i 1 = f ∧ mI (cNew μ i nr f t lo co) 13 i 2 = t ∧ mI (cNew μ i nr f t lo co) 13 i 3 = lo ∧ mI (cNew μ i nr f t lo co) 13 i 4 = co ∧ mI (cNew μ i nr f t lo co) 13 i 5 = 0 := by
  unfold cNew
  simp [mI_sI, h]
def aM (μ : jM) (o : Option Nat) (a c : Nat) : jM := sI (sP (sP (match o with | none => sP μ 6 0 a (some (13, c)) | some i => sP μ 13 i 6 (some (13, c))) 7 0 a (some (13, c))) 5 0 c (some (13, c))) 4 0 1 (nI c + 1)
theorem aM_I (μ : jM) (o : Option Nat) (a c kd y z : Nat) : mI (aM μ o a c) kd y z = if kd = 4 ∧ y = 0 ∧ z = 1 then nI c + 1 else mI μ kd y z := by
  cases o <;> rfl
theorem aM_N (μ : jM) (o : Option Nat) (a c : Nat) : mN (aM μ o a c) = mN μ := by
  cases o <;> rfl
theorem aM_P (μ : jM) (o : Option Nat) (a c kd y z : Nat) : mP (aM μ o a c) kd y z = if kd = 5 ∧ y = 0 ∧ z = c then some (13, c) else if kd = 7 ∧ y = 0 ∧ z = a then some (13, c) else match o with
    | none => if kd = 6 ∧ y = 0 ∧ z = a then some (13, c) else mP μ kd y z
    | some i => if kd = 13 ∧ y = i ∧ z = 6 then some (13, c) else mP μ kd y z := by
  cases o <;> rfl

set_option maxRecDepth 20000 in
theorem c_X4_init {l : Launch} (i j : Nat) (f sz y e : Int32) : jMetN l yX4_init (.code yX4_init cX4_init 5 none) 6 100 0 0 (fun avs μ => avs = [aR 12 i, aI f, aI sz, aR 10 j, aI y] ∧ i < mN μ 12 ∧ j < mN μ 10 ∧ mI μ 10 j 0 = e) (fun avs μ r μ' => r = none ∧ μ' = fNew μ i j f sz (y + e) y) := by
  refine jMetI_of (by decide) rfl ?_
  intro avs μ J C hav hpre
  obtain ⟨rfl, hi, hj, he⟩ := hpre
  refine ⟨Nat.le_of_ble_eq_true rfl, ?_⟩
  show J 0 [some (aR 12 i), some (aI f), some (aI sz), some (aR 10 j), some (aI y)] [] μ 0 0
  refine mj_aload_n (pc' := 1) C dX4_init_0 rfl rfl ?_
  refine mj_objInit (pc' := 4) C dX4_init_1 rfl km_X4_3 ki_obj kc_obj (by decide) (by decide) ?_
  refine mj_aload_n (pc' := 5) C dX4_init_4 rfl rfl ?_
  refine mj_sipush (pc' := 8) (v := 1000) C dX4_init_5 rfl rfl ?_
  refine mj_putI (pc' := 11) C dX4_init_8 rfl (ci := 4) (f := 4) rfl (by decide) (by decide) rfl (fun _ _ => rfl) (by decide) kf_X4_9 rfl rfl hi ?_
  refine mj_aload_n (pc' := 12) C dX4_init_11 rfl rfl ?_
  refine mj_iconst (pc' := 13) (v := 0) C dX4_init_12 rfl rfl ?_
  refine mj_putI (pc' := 16) C dX4_init_13 rfl (ci := 4) (f := 6) rfl (by decide) (by decide) rfl (fun _ _ => rfl) (by decide) kf_X4_15 rfl rfl hi ?_
  refine mj_aload_n (pc' := 17) C dX4_init_16 rfl rfl ?_
  refine mj_iload_n (pc' := 18) C dX4_init_17 rfl rfl ?_
  refine mj_putI (pc' := 21) C dX4_init_18 rfl (ci := 4) (f := 3) rfl (by decide) (by decide) rfl (fun _ _ => rfl) (by decide) kf_X4_18 rfl rfl hi ?_
  refine mj_aload_n (pc' := 22) C dX4_init_21 rfl rfl ?_
  refine mj_iload_n (pc' := 23) C dX4_init_22 rfl rfl ?_
  refine mj_putIF (pc' := 26) C dX4_init_23 rfl (ci := 4) (f := 0) rfl (by decide) (by decide) rfl rfl (fun _ _ => rfl) (by decide) kf_X4_21 rfl rfl hi ?_
  refine mj_aload_n (pc' := 27) C dX4_init_26 rfl rfl ?_
  refine mj_aload_n (pc' := 28) C dX4_init_27 rfl rfl ?_
  refine mj_putRF (pc' := 31) C dX4_init_28 rfl (ci := 4) (f := 1) rfl (by decide) (by decide) rfl rfl (fun _ _ => rfl) (by decide) kf_X4_24 (fun _ => rfl) ⟨rfl, fun _ => rfl⟩ hi ?_
  refine mj_aload_n (pc' := 32) C dX4_init_31 rfl rfl ?_
  refine mj_iload (pc' := 34) C dX4_init_32 rfl rfl ?_
  refine mj_aload_n (pc' := 35) C dX4_init_34 rfl rfl ?_
  refine mj_getV (pc' := 38) C dX4_init_35 rfl (ci := 2) (f := 0) rfl (by decide) (by decide) (fun _ => rfl) (by decide) kf_X4_28 hj he ?_
  refine mj_iadd (pc' := 39) C dX4_init_38 rfl ?_
  refine mj_putIF (pc' := 42) C dX4_init_39 rfl (ci := 4) (f := 2) rfl (by decide) (by decide) rfl rfl (fun _ _ => rfl) (by decide) kf_X4_33 rfl rfl hi ?_
  refine mj_aload_n (pc' := 43) C dX4_init_42 rfl rfl ?_
  refine mj_iload (pc' := 45) C dX4_init_43 rfl rfl ?_
  refine mj_putI (pc' := 48) C dX4_init_45 rfl (ci := 4) (f := 5) rfl (by decide) (by decide) rfl (fun _ _ => rfl) (by decide) kf_X4_36 rfl rfl hi ?_
  refine mj_vret C dX4_init_48 (by decide) (by decide) (by decide) ?_
  exact ⟨rfl, rfl⟩

set_option maxRecDepth 20000 in
theorem c_X1_init {l : Launch} (i : Nat) (nr f t lo co : Int32) : jMetN l yX1_init (.code yX1_init cX1_init 6 none) 6 100 0 0 (fun avs μ => avs = [aR 13 i, aI nr, aI f, aI t, aI lo, aI co] ∧ i < mN μ 13) (fun avs μ r μ' => r = none ∧ μ' = cNew μ i nr f t lo co) := by
  refine jMetI_of (by decide) rfl ?_
  intro avs μ J C hav hpre
  obtain ⟨rfl, hi⟩ := hpre
  refine ⟨Nat.le_of_ble_eq_true rfl, ?_⟩
  show J 0 [some (aR 13 i), some (aI nr), some (aI f), some (aI t), some (aI lo), some (aI co)] [] μ 0 0
  refine mj_aload_n (pc' := 1) C dX1_init_0 rfl rfl ?_
  refine mj_objInit (pc' := 4) C dX1_init_1 rfl km_X1_3 ki_obj kc_obj (by decide) (by decide) ?_
  refine mj_aload_n (pc' := 5) C dX1_init_4 rfl rfl ?_
  refine mj_iload_n (pc' := 6) C dX1_init_5 rfl rfl ?_
  refine mj_putIF (pc' := 9) C dX1_init_6 rfl (ci := 1) (f := 0) rfl (by decide) (by decide) rfl rfl (fun _ _ => rfl) (by decide) kf_X1_9 rfl rfl hi ?_
  refine mj_aload_n (pc' := 10) C dX1_init_9 rfl rfl ?_
  refine mj_iload_n (pc' := 11) C dX1_init_10 rfl rfl ?_
  refine mj_putIF (pc' := 14) C dX1_init_11 rfl (ci := 1) (f := 1) rfl (by decide) (by decide) rfl rfl (fun _ _ => rfl) (by decide) kf_X1_15 rfl rfl hi ?_
  refine mj_aload_n (pc' := 15) C dX1_init_14 rfl rfl ?_
  refine mj_iload_n (pc' := 16) C dX1_init_15 rfl rfl ?_
  refine mj_putIF (pc' := 19) C dX1_init_16 rfl (ci := 1) (f := 2) rfl (by decide) (by decide) rfl rfl (fun _ _ => rfl) (by decide) kf_X1_18 rfl rfl hi ?_
  refine mj_aload_n (pc' := 20) C dX1_init_19 rfl rfl ?_
  refine mj_iload (pc' := 22) C dX1_init_20 rfl rfl ?_
  refine mj_putIF (pc' := 25) C dX1_init_22 rfl (ci := 1) (f := 3) rfl (by decide) (by decide) rfl rfl (fun _ _ => rfl) (by decide) kf_X1_21 rfl rfl hi ?_
  refine mj_aload_n (pc' := 26) C dX1_init_25 rfl rfl ?_
  refine mj_iload (pc' := 28) C dX1_init_26 rfl rfl ?_
  refine mj_putIF (pc' := 31) C dX1_init_28 rfl (ci := 1) (f := 4) rfl (by decide) (by decide) rfl rfl (fun _ _ => rfl) (by decide) kf_X1_24 rfl rfl hi ?_
  refine mj_vret C dX1_init_31 (by decide) (by decide) (by decide) ?_
  exact ⟨rfl, rfl⟩

set_option maxRecDepth 20000 in
theorem c_X3_add {l : Launch} (hst : l.stackTraces = false) (o : Option Nat) (a c : Nat) : jMet l yX3_add cX3_add 3 (some FieldType.int) 7 140 0 0 (fun avs μ => avs = [aR 4 0, aR 13 c] ∧ xBB μ ∧ (c < 30 ∧ a < 10) ∧ c < mN μ 13 ∧ (∀ i, o = some i → i < mN μ 13) ∧ mI μ 13 c 1 = nI a ∧ mI μ 13 c 0 = nI c ∧ mP μ 7 0 a = o.map (fun c => (13, c)) ∧ mI μ 4 0 1 = nI c) (fun avs μ r μ' => r = some (aI (nI c)) ∧ oF (fun kd _ => kd = 11) (aM μ o a c) μ' ∧ ∀ b, b < 10 → mI μ' 11 b 4 = 0) (fun avs μ E μ' => False) := by
  refine jMet_of hst (by decide) ?_
  intro avs μ J C hav hpre
  obtain ⟨rfl, hR, ⟨hc, ha⟩, hl, hlo, h1, h0, h7, hnc⟩ := hpre
  refine ⟨Nat.le_of_ble_eq_true rfl, ?_⟩
  show J 0 [some (aR 4 0), some (aR 13 c), none] [] μ 0 0
  refine mj_aload_n (pc' := 1) C dX3_add_0 rfl rfl ?_
  refine mj_getR (pc' := 4) C dX3_add_1 rfl (ci := 3) (f := 3) rfl (by decide) (by decide) (fun _ => rfl) (by decide) kf_X3_20 hR.B.l4 hR.B.p43 ?_
  refine mj_aload_n (pc' := 5) C dX3_add_4 rfl rfl ?_
  refine mj_getV (pc' := 8) C dX3_add_5 rfl (ci := 1) (f := 1) rfl (by decide) (by decide) (fun _ => rfl) (by decide) kf_X3_34 hl h1 ?_
  refine mj_aald (pc' := 9) C dX3_add_8 rfl rfl (by decide) rfl (fun _ _ => rfl) (by decide) (by decide) hR.B.l7 rfl (by first | assumption | omega) h7 ?_
  refine mj_astore_n_2 (pc' := 10) C dX3_add_9 rfl (by decide) rfl ?_
  refine mj_aload_n (pc' := 11) C dX3_add_10 rfl rfl ?_
  refine mj_ifnonnull (tgt := 27) (pc' := 14) C dX3_add_11 (by decide) rfl (fun q11 h11 => ?_) (fun h11 => ?_)
  · obtain ⟨i, rfl, rfl⟩ := Option.map_eq_some_iff.mp h11
    rw [show (some i).map (fun c => (13, c)) = some (13, i) from rfl]
    refine mj_aload_n (pc' := 28) C dX3_add_27 rfl rfl ?_
    refine mj_aload_n (pc' := 29) C dX3_add_28 rfl rfl ?_
    refine mj_putR (pc' := 32) C dX3_add_29 rfl (ci := 1) (f := 6) rfl (by decide) (by decide) rfl (fun _ _ => rfl) (by decide) kf_X3_38 (fun _ => rfl) ⟨rfl, fun _ => rfl⟩ (hlo i rfl) ?_
    refine mj_aload_n (pc' := 33) C dX3_add_32 rfl rfl ?_
    refine mj_getR (pc' := 36) C dX3_add_33 rfl (ci := 3) (f := 3) rfl (by decide) (by decide) (fun _ => rfl) (by decide) kf_X3_20 hR.B.l4 hR.B.p43 ?_
    refine mj_aload_n (pc' := 37) C dX3_add_36 rfl rfl ?_
    refine mj_getV (pc' := 40) C dX3_add_37 rfl (ci := 1) (f := 1) rfl (by decide) (by decide) (fun _ => rfl) (by decide) kf_X3_34 hl h1 ?_
    refine mj_aload_n (pc' := 41) C dX3_add_40 rfl rfl ?_
    refine mj_aast (ci := 1) (pc' := 42) C dX3_add_41 rfl rfl (by decide) rfl (by decide) (by decide) (by decide) (by decide) hR.B.l7 hl rfl (by first | assumption | omega) ?_
    refine mj_aload_n (pc' := 43) C dX3_add_42 rfl rfl ?_
    refine mj_getR (pc' := 46) C dX3_add_43 rfl (ci := 3) (f := 0) rfl (by decide) (by decide) (fun _ => rfl) (by decide) kf_X3_11 hR.B.l4 hR.B.p40 ?_
    refine mj_aload_n (pc' := 47) C dX3_add_46 rfl rfl ?_
    refine mj_getV (pc' := 50) C dX3_add_47 rfl (ci := 3) (f := 1) rfl (by decide) (by decide) (fun _ => rfl) (by decide) kf_X3_42 hR.B.l4 hnc ?_
    refine mj_aload_n (pc' := 51) C dX3_add_50 rfl rfl ?_
    refine mj_aast (ci := 1) (pc' := 52) C dX3_add_51 rfl rfl (by decide) rfl (by decide) (by decide) (by decide) (by decide) hR.B.l5 hl rfl (by first | assumption | omega) ?_
    refine mj_aload_n (pc' := 53) C dX3_add_52 rfl rfl ?_
    refine mj_dup (pc' := 54) C dX3_add_53 rfl rfl ?_
    refine mj_getV (pc' := 57) C dX3_add_54 rfl (ci := 3) (f := 1) rfl (by decide) (by decide) (fun _ => rfl) (by decide) kf_X3_42 hR.B.l4 hnc ?_
    refine mj_iconst (pc' := 58) (v := 1) C dX3_add_57 rfl rfl ?_
    refine mj_iadd (pc' := 59) C dX3_add_58 rfl ?_
    refine mj_putI (pc' := 62) C dX3_add_59 rfl (ci := 3) (f := 1) rfl (by decide) (by decide) rfl (fun _ _ => rfl) (by decide) kf_X3_42 rfl rfl hR.B.l4 ?_
    refine mj_aload_n (pc' := 63) C dX3_add_62 rfl rfl ?_
    refine mj_callVN_0 (ci := 3) (pc' := 66) C (c_X3_forgetWays hst) dX3_add_63 rfl km_X3_45 ki_yX3_forgetWays kz_yX3_forgetWays kn_X3 kc_yX3_forgetWays rfl (by decide) (by decide) ⟨rfl, by decide, by decide, by decide +kernel⟩ ⟨by decide, by decide⟩ (Nat.le_of_ble_eq_true rfl) ⟨by decide, by decide⟩ ⟨rfl, (show xBB _ from hR)⟩ (fun r63 μ63 hq63 hm63 => ?_) (fun _ _ h9 => h9)
    obtain ⟨rfl, hO63, hz63⟩ := hq63
    dsimp only [Option.toList, List.nil_append, List.cons_append]
    refine mj_aload_n (pc' := 67) C dX3_add_66 rfl rfl ?_
    refine mj_getV (pc' := 70) C dX3_add_67 rfl (ci := 1) (f := 0) rfl (by decide) (by decide) (fun _ => rfl) (by decide) kf_X3_48 (by rw [hO63.1.1]; exact hl) ((hO63.2 13 c 0 (by show ¬ (13 = 11); decide)).trans h0) ?_
    refine mj_iret C dX3_add_70 (by decide) (by decide) (by decide) ?_
    exact ⟨rfl, hO63, hz63⟩
  · obtain rfl := Option.map_eq_none_iff.mp h11
    refine mj_aload_n (pc' := 15) C dX3_add_14 rfl rfl ?_
    refine mj_getR (pc' := 18) C dX3_add_15 rfl (ci := 3) (f := 2) rfl (by decide) (by decide) (fun _ => rfl) (by decide) kf_X3_17 hR.B.l4 hR.B.p42 ?_
    refine mj_aload_n (pc' := 19) C dX3_add_18 rfl rfl ?_
    refine mj_getV (pc' := 22) C dX3_add_19 rfl (ci := 1) (f := 1) rfl (by decide) (by decide) (fun _ => rfl) (by decide) kf_X3_34 hl h1 ?_
    refine mj_aload_n (pc' := 23) C dX3_add_22 rfl rfl ?_
    refine mj_aast (ci := 1) (pc' := 24) C dX3_add_23 rfl rfl (by decide) rfl (by decide) (by decide) (by decide) (by decide) hR.B.l6 hl rfl (by first | assumption | omega) ?_
    refine mj_goto (pc' := 32) C dX3_add_24 (by decide) ?_
    refine mj_aload_n (pc' := 33) C dX3_add_32 rfl rfl ?_
    refine mj_getR (pc' := 36) C dX3_add_33 rfl (ci := 3) (f := 3) rfl (by decide) (by decide) (fun _ => rfl) (by decide) kf_X3_20 hR.B.l4 hR.B.p43 ?_
    refine mj_aload_n (pc' := 37) C dX3_add_36 rfl rfl ?_
    refine mj_getV (pc' := 40) C dX3_add_37 rfl (ci := 1) (f := 1) rfl (by decide) (by decide) (fun _ => rfl) (by decide) kf_X3_34 hl h1 ?_
    refine mj_aload_n (pc' := 41) C dX3_add_40 rfl rfl ?_
    refine mj_aast (ci := 1) (pc' := 42) C dX3_add_41 rfl rfl (by decide) rfl (by decide) (by decide) (by decide) (by decide) hR.B.l7 hl rfl (by first | assumption | omega) ?_
    refine mj_aload_n (pc' := 43) C dX3_add_42 rfl rfl ?_
    refine mj_getR (pc' := 46) C dX3_add_43 rfl (ci := 3) (f := 0) rfl (by decide) (by decide) (fun _ => rfl) (by decide) kf_X3_11 hR.B.l4 hR.B.p40 ?_
    refine mj_aload_n (pc' := 47) C dX3_add_46 rfl rfl ?_
    refine mj_getV (pc' := 50) C dX3_add_47 rfl (ci := 3) (f := 1) rfl (by decide) (by decide) (fun _ => rfl) (by decide) kf_X3_42 hR.B.l4 hnc ?_
    refine mj_aload_n (pc' := 51) C dX3_add_50 rfl rfl ?_
    refine mj_aast (ci := 1) (pc' := 52) C dX3_add_51 rfl rfl (by decide) rfl (by decide) (by decide) (by decide) (by decide) hR.B.l5 hl rfl (by first | assumption | omega) ?_
    refine mj_aload_n (pc' := 53) C dX3_add_52 rfl rfl ?_
    refine mj_dup (pc' := 54) C dX3_add_53 rfl rfl ?_
    refine mj_getV (pc' := 57) C dX3_add_54 rfl (ci := 3) (f := 1) rfl (by decide) (by decide) (fun _ => rfl) (by decide) kf_X3_42 hR.B.l4 hnc ?_
    refine mj_iconst (pc' := 58) (v := 1) C dX3_add_57 rfl rfl ?_
    refine mj_iadd (pc' := 59) C dX3_add_58 rfl ?_
    refine mj_putI (pc' := 62) C dX3_add_59 rfl (ci := 3) (f := 1) rfl (by decide) (by decide) rfl (fun _ _ => rfl) (by decide) kf_X3_42 rfl rfl hR.B.l4 ?_
    refine mj_aload_n (pc' := 63) C dX3_add_62 rfl rfl ?_
    refine mj_callVN_0 (ci := 3) (pc' := 66) C (c_X3_forgetWays hst) dX3_add_63 rfl km_X3_45 ki_yX3_forgetWays kz_yX3_forgetWays kn_X3 kc_yX3_forgetWays rfl (by decide) (by decide) ⟨rfl, by decide, by decide, by decide +kernel⟩ ⟨by decide, by decide⟩ (Nat.le_of_ble_eq_true rfl) ⟨by decide, by decide⟩ ⟨rfl, (show xBB _ from hR)⟩ (fun r63 μ63 hq63 hm63 => ?_) (fun _ _ h9 => h9)
    obtain ⟨rfl, hO63, hz63⟩ := hq63
    dsimp only [Option.toList, List.nil_append, List.cons_append]
    refine mj_aload_n (pc' := 67) C dX3_add_66 rfl rfl ?_
    refine mj_getV (pc' := 70) C dX3_add_67 rfl (ci := 1) (f := 0) rfl (by decide) (by decide) (fun _ => rfl) (by decide) kf_X3_48 (by rw [hO63.1.1]; exact hl) ((hO63.2 13 c 0 (by show ¬ (13 = 11); decide)).trans h0) ?_
    refine mj_iret C dX3_add_70 (by decide) (by decide) (by decide) ?_
    exact ⟨rfl, hO63, hz63⟩

set_option maxRecDepth 20000 in
theorem c_X5_file {l : Launch} (hst : l.stackTraces = false) (S : jS) (f sz x : Int32) : jMet l yX5_file cX5_file 5 (some FieldType.int) 9 220 5 60 (fun avs μ => avs = [aR 0 0, aI f, aI sz, aI x] ∧ xR S μ ∧ sW S) (fun avs μ r μ' => (o_file S f sz x).1 = 0 ∧ r = some (aI (o_file S f sz x).2.1) ∧ xR (o_file S f sz x).2.2 μ' ∧ xF μ μ') (fun avs μ E μ' => (o_file S f sz x).1 ≠ 0 ∧ E = exn (o_file S f sz x).1 ∧ xR S μ' ∧ xF μ μ') := by
  refine jMet_of hst (by decide) ?_
  intro avs μ J C hav hpre
  obtain ⟨rfl, hR, hW⟩ := hpre
  refine ⟨Nat.le_of_ble_eq_true rfl, ?_⟩
  show J 0 [some (aR 0 0), some (aI f), some (aI sz), some (aI x), none] [] μ 0 0
  have hW0 := hW.1.1
  have hW1 := hW.1.2
  refine mj_iload_n (pc' := 1) C dX5_file_0 rfl rfl ?_
  refine mj_callSX_1 (pc' := 4) C (c_X5_requireFormat hst f) dX5_file_1 rfl km_X5_40 ks_yX5_requireFormat kn_X5 kc_yX5_requireFormat ⟨by decide, by decide, by decide +kernel⟩ ⟨by decide, by decide⟩ (Nat.le_of_ble_eq_true rfl) ⟨by decide, by decide⟩ rfl (fun r1 μ1 hq1 hm1 => ?_) (fun E μ9 h9 => ?_) (by decide) (by decide)
  · obtain ⟨hb1, rfl, hq9⟩ := hq1
    have hq9 := hq9.symm
    subst hq9
    dsimp only [Option.toList, List.nil_append, List.cons_append]
    obtain ⟨i, hi, rfl, ei⟩ := bad_of hb1 (by decide)
    refine mj_aload_n (pc' := 5) C dX5_file_4 rfl rfl ?_
    refine mj_iload_n (pc' := 6) C dX5_file_5 rfl rfl ?_
    refine mj_callVX_1 (ci := 5) (pc' := 9) C (c_X5_lawAt hst S x) dX5_file_6 rfl km_X5_108 ki_yX5_lawAt kz_yX5_lawAt kn_X5 kc_yX5_lawAt rfl (by decide) (by decide) ⟨rfl, by decide, by decide, by decide +kernel⟩ ⟨by decide, by decide⟩ (Nat.le_of_ble_eq_true rfl) ⟨by decide, by decide⟩ ⟨rfl, hR⟩ (fun r6 μ6 hq6 hm6 => ?_) (fun E μ9 h9 => ?_) (by decide) (by decide)
    · obtain ⟨hb6, rfl, hq9⟩ := hq6
      have hq9 := hq9.symm
      subst hq9
      dsimp only [Option.toList, List.nil_append, List.cons_append]
      obtain ⟨j, hj, rfl, ej⟩ := bad_of hb6 (by decide)
      rw [ej]
      refine mj_astore_4 (pc' := 11) C dX5_file_9 rfl (by decide) rfl ?_
      refine mj_iload_n (pc' := 12) C dX5_file_11 rfl rfl ?_
      refine mj_iconst (pc' := 13) (v := 1) C dX5_file_12 rfl rfl ?_
      refine mj_bipush (pc' := 15) (v := 100) C dX5_file_13 rfl rfl ?_
      refine mj_callSX_3 (pc' := 18) C (c_X5_requireRange hst sz 1 100) dX5_file_15 rfl km_X5_47 ks_yX5_requireRange kn_X5 kc_yX5_requireRange ⟨by decide, by decide, by decide +kernel⟩ ⟨by decide, by decide⟩ (Nat.le_of_ble_eq_true rfl) ⟨by decide, by decide⟩ rfl (fun r15 μ15 hq15 hm15 => ?_) (fun E μ9 h9 => ?_) (by decide) (by decide)
      · obtain ⟨hb15, rfl, hq9⟩ := hq15
        have hq9 := hq9.symm
        subst hq9
        dsimp only [Option.toList, List.nil_append, List.cons_append]
        refine mj_aload_n (pc' := 19) C dX5_file_18 rfl rfl ?_
        refine mj_getV (pc' := 22) C dX5_file_19 rfl (ci := 5) (f := 4) rfl (by decide) (by decide) (fun _ => rfl) (by decide) kf_X5_146 hR.B.l0 hR.fc ?_
        refine mj_bipush (pc' := 24) (v := 40) C dX5_file_22 rfl rfl ?_
        refine mj_icmp_lt (tgt := 37) (pc' := 27) C dX5_file_24 (by decide) rfl (fun h24 => ?_) (fun h24 => ?_)
        · have hn40 : sn S 0 < 40 := (nI_ltI (by omega) (by decide)).mp h24
          refine mj_aload_n (pc' := 38) C dX5_file_37 rfl rfl ?_
          refine mj_iload_n (pc' := 39) C dX5_file_38 rfl rfl ?_
          refine mj_callVX_1 (ci := 5) (pc' := 42) C (c_X5_requireReadable hst S i) dX5_file_39 rfl km_X5_51 ki_yX5_requireReadable kz_yX5_requireReadable kn_X5 kc_yX5_requireReadable rfl (by decide) (by decide) ⟨rfl, by decide, by decide, by decide +kernel⟩ ⟨by decide, by decide⟩ (Nat.le_of_ble_eq_true rfl) ⟨by decide, by decide⟩ ⟨rfl, hR, hi⟩ (fun r39 μ39 hq39 hm39 => ?_) (fun E μ9 h9 => ?_) (by decide) (by decide)
          · obtain ⟨hr39, rfl, hq9⟩ := hq39
            have hq9 := hq9.symm
            subst hq9
            dsimp only [Option.toList, List.nil_append, List.cons_append]
            refine mj_aload_n (pc' := 43) C dX5_file_42 rfl rfl ?_
            refine mj_getR (pc' := 46) C dX5_file_43 rfl (ci := 5) (f := 2) rfl (by decide) (by decide) (fun _ => rfl) (by decide) kf_X5_21 hR.B.l0 hR.B.p02 ?_
            refine mj_aload_n (pc' := 47) C dX5_file_46 rfl rfl ?_
            refine mj_getV (pc' := 50) C dX5_file_47 rfl (ci := 5) (f := 4) rfl (by decide) (by decide) (fun _ => rfl) (by decide) kf_X5_146 hR.B.l0 hR.fc ?_
            refine mj_new (ci := 4) (kd := 12) (pc' := 53) C dX5_file_50 rfl rfl (by decide) (by decide) kl_X5_19 kt_X4 kn_X4 (by decide) (by decide) ?_
            rw [hR.n12]
            have hl12 : sn S 0 < mN (nw μ 12) 12 := by rw [mN_nw, if_pos rfl, hR.n12]; exact Nat.lt_succ_self _
            refine mj_dup (pc' := 54) C dX5_file_53 rfl rfl ?_
            refine mj_iload_n (pc' := 55) C dX5_file_54 rfl rfl ?_
            refine mj_iload_n (pc' := 56) C dX5_file_55 rfl rfl ?_
            refine mj_aload (pc' := 58) C dX5_file_56 rfl rfl ?_
            refine mj_aload_n (pc' := 59) C dX5_file_58 rfl rfl ?_
            refine mj_getV (pc' := 62) C dX5_file_59 rfl (ci := 5) (f := 5) rfl (by decide) (by decide) (fun _ => rfl) (by decide) kf_X5_44 hR.B.l0 hR.now ?_
            refine mj_callI_4 (pc' := 65) C (c_X4_init (sn S 0) j (nI i) sz (sf S 17 2) (sf S 6 j)) dX5_file_62 rfl km_X5_151 ki_yX4_init kn_X4 kc_yX4_init rfl ⟨by decide, by decide, by decide +kernel⟩ ⟨by decide, by decide⟩ (Nat.le_of_ble_eq_true rfl) ⟨by decide, by decide⟩ ⟨rfl, hl12, hR.B.l10 hj, hR.ly hj⟩ (fun r μ62 hq62 hm62 => ?_)
            obtain ⟨rfl, e62⟩ := hq62
            have hn7 : mI (nw μ 12) 12 (sn S 0) 7 = 0 := by rw [mI_nw, if_pos ⟨rfl, by rw [hR.n12]; exact Nat.le_refl _⟩]
            have hvv := fN_v (j := j) (f := nI i) (sz := sz) (e := sf S 17 2 + sf S 6 j) (y := sf S 17 2) hn7
            rw [← e62] at hvv
            have eI : ∀ kd y z, ¬ (kd = 12 ∧ sn S 0 ≤ y) → mI μ62 kd y z = mI μ kd y z := fun kd y z h1 => by rw [e62, fN_I (fun q => h1 ⟨q.1, by rw [q.2]; exact Nat.le_refl _⟩), mI_nw, if_neg (fun q => h1 ⟨q.1, by have := q.2; rw [hR.n12] at this; exact this⟩)]
            have eP : ∀ kd y z, ¬ (kd = 12 ∧ sn S 0 ≤ y) → mP μ62 kd y z = mP μ kd y z := fun kd y z h1 => by rw [e62, fN_P, if_neg (fun q => h1 ⟨q.1, by rw [q.2.1]; exact Nat.le_refl _⟩), mP_nw, if_neg (fun q => h1 ⟨q.1, by have := q.2; rw [hR.n12] at this; exact this⟩)]
            have eN : ∀ kd, mN μ62 kd = mN (nw μ 12) kd := fun kd => by rw [e62, fN_N]
            have p12 : mP μ62 12 (sn S 0) 1 = some (10, j) := by rw [e62, fN_P, if_pos ⟨rfl, rfl, rfl⟩]
            have hF62 : xF μ μ62 := by rw [e62]; exact xF_sI (by decide) (xF_sI (by decide) (xF_sP (by decide) (xF_sI (by decide) (xF_sI (by decide) (xF_sI (by decide) (xF_sI (by decide) (xF_nw (by decide) xF.rf)))))))
            have l0 : 0 < mN μ62 0 := by rw [eN, mN_nw, if_neg (by decide)]; exact hR.B.l0
            have l3 : 0 < mN μ62 3 := by rw [eN, mN_nw, if_neg (by decide)]; exact hR.B.l3
            have hl12 : sn S 0 < mN μ62 12 := by rw [eN]; exact hl12
            have hfc : mI μ62 0 0 4 = nI (sn S 0) := (eI 0 0 4 (by omega)).trans hR.fc
            clear e62
            refine mj_aast (ci := 4) (pc' := 66) C dX5_file_65 rfl rfl (by decide) rfl (by decide) (by decide) (by decide) (by decide) l3 hl12 rfl (by omega) ?_
            refine mj_aload_n (pc' := 67) C dX5_file_66 rfl rfl ?_
            refine mj_dup (pc' := 68) C dX5_file_67 rfl rfl ?_
            refine mj_getV (pc' := 71) C dX5_file_68 rfl (ci := 5) (f := 4) rfl (by decide) (by decide) (fun _ => rfl) (by decide) kf_X5_146 l0 hfc ?_
            refine mj_iconst (pc' := 72) (v := 1) C dX5_file_71 rfl rfl ?_
            refine mj_iadd (pc' := 73) C dX5_file_72 rfl ?_
            refine mj_putI (pc' := 76) C dX5_file_73 rfl (ci := 5) (f := 4) rfl (by decide) (by decide) rfl (fun _ _ => rfl) (by decide) kf_X5_146 rfl rfl l0 ?_
            refine mj_aload_n (pc' := 77) C dX5_file_76 rfl rfl ?_
            refine mj_getV (pc' := 80) C dX5_file_77 rfl (ci := 5) (f := 4) rfl (by decide) (by decide) (fun _ => rfl) (by decide) kf_X5_146 l0 (mI_sI_s _ _ _ _ _) ?_
            refine mj_iconst (pc' := 81) (v := 1) C dX5_file_80 rfl rfl ?_
            refine mj_isub (pc' := 82) C dX5_file_81 rfl ?_
            rw [nI_1, nI_pred]
            refine mj_iret C dX5_file_82 (by decide) (by decide) (by decide) ?_
            refine ret_of (o := o_file S (nI i) sz (nI j)) (S' := sa (su (su (su (su (su (su (su (su S 9 (sn S 0) (nI i)) 10 (sn S 0) sz) 11 (sn S 0) (nI j)) 12 (sn S 0) 1000) 13 (sn S 0) (sf S 17 2 + sf S 6 j)) 14 (sn S 0) (sf S 17 2)) 15 (sn S 0) 0) 16 (sn S 0) 0) 0) (by unfold o_file; rw [if_neg (fun h => h.elim hb1 hb6), if_neg (inn hb15), ei, ej, if_neg (fun h => h.elim (fun q => by omega) (fun h => h hr39))]) ?_ ?_
            · obtain ⟨v0, v2, v3, v4, v5, v6, v7⟩ := hvv
              have e9 : ∀ z, mI (sI (sP μ62 3 0 (sn S 0) (some (12, sn S 0))) 0 0 4 (nI (sn S 0 + 1))) 12 (sn S 0) z = mI μ62 12 (sn S 0) z := fun z => mI_sI_n _ _ _ _ _ (by omega)
              refine xR_addF (j := j) hR hj (fun kd y z h1 h2 => ?_) (fun kd y z h1 h2 => ?_) (fun kd h => ?_) ?_ ?_ ?_ ?_ ⟨?_, ?_⟩ (fun a x h => ?_) ?_ ?_
              · rw [mI_sI_n _ _ _ _ _ h2, mI_sP, eI _ _ _ h1]
              · rw [mP_sI, mP_sP_n _ _ _ _ _ h2, eP _ _ _ h1]
              · rw [mN_sI, mN_sP, eN, mN_nw, if_neg h]
              · rw [mN_sI, mN_sP, eN, mN_nw, if_pos rfl, hR.n12]
              · rw [mI_sI_s]
              · rw [mP_sI, mP_sP_s]
              · rw [mP_sI, mP_sP_n _ _ _ _ _ (by omega), p12]
              · simp [sn_sa, sn_su]
              · simp [sn_sa, sn_su]
              · rw [sf_sa, sf_su, if_neg (by omega), sf_su, if_neg (by omega), sf_su, if_neg (by omega), sf_su, if_neg (by omega), sf_su, if_neg (by omega), sf_su, if_neg (by omega), sf_su, if_neg (by omega), sf_su, if_neg (by omega)]
              · simp [sf_sa, sf_su]
              · rw [e9, e9, e9, e9, e9, e9, e9, v0, v2, v3, v4, v5, v6, v7]; simp [sf_sa, sf_su]
            · exact xF_sI (by decide) (xF_sP (by decide) hF62)
          · obtain ⟨hb, rfl, rfl⟩ := h9
            exact thr_of (o := o_file S (nI i) sz (nI j)) (by unfold o_file; rw [if_neg (fun h => h.elim hb1 hb6), if_neg (inn hb15), ei, if_pos (Or.inr hb)]) (by decide) hR xF.rf
        · have hn40 : sn S 0 = 40 := by
            have h : ¬ sn S 0 < 40 := (fun q => h24 ((nI_ltI (b := 40) (by omega) (by decide)).mpr q))
            omega
          refine mj_throw C (text := "there are no more files than 40") (names := ["java/lang/RuntimeException", "java/lang/Exception"]) dX5_file_27 dX5_file_30 dX5_file_31 dX5_file_33 dX5_file_36 rfl rfl kl_X5_64 kn_ISE thrw_3 thrk_3 (by decide) (by decide) (by decide) (by decide) (by decide) (by decide) (by decide) ?_
          exact thr_of (o := o_file S (nI i) sz (nI j)) (c := 3) (by unfold o_file; rw [if_neg (fun h => h.elim hb1 hb6), if_neg (inn hb15), if_pos (Or.inl hn40)]) (by decide) hR xF.rf
      · obtain ⟨hb, rfl, rfl⟩ := h9
        exact thr_of (o := o_file S (nI i) sz (nI j)) (by unfold o_file; rw [if_neg (fun h => h.elim hb1 hb6), if_pos hb]) (by decide) hR xF.rf
    · obtain ⟨hb, rfl, rfl⟩ := h9
      exact thr_of (o := o_file S (nI i) sz x) (by unfold o_file; rw [if_pos (Or.inr hb)]) (by decide) hR xF.rf
  · obtain ⟨hb, rfl, rfl⟩ := h9
    exact thr_of (o := o_file S f sz x) (by unfold o_file; rw [if_pos (Or.inl hb)]) (by decide) hR xF.rf
