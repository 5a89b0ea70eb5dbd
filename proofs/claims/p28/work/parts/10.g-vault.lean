/-! MAKERS: THE VAULT -/
def V0 (μ0 μ : jM) (f : Nat) : Prop := mN μ 0 = 1 ∧ (∀ g, g < 3 → mN μ (1 + g) = if g < f then 1 else 0) ∧ (∀ x, 4 ≤ x → x < 20 → mN μ x = 0) ∧ (∀ g, g < f → mP μ 0 0 g = some (1 + g, 0)) ∧ (∀ k y z, k < 20 → mI μ k y z = 0) ∧ (∀ k y z, 0 < k → k < 20 → mP μ k y z = none) ∧ xF μ0 μ
theorem V0_step {μ0 μ : jM} {f k : Nat} (h : V0 μ0 μ f) (hf : f < 3) (hk : 1 + f = k) : V0 μ0 (sP (nw μ k) 0 0 f (some (k, mN μ k))) (f + 1) := by
  subst hk
  obtain ⟨h1, h2, h3, h4, h5, h6, h7⟩ := h
  show V0 μ0 (mk1 μ (1 + f) 0 0 f) (f + 1)
  have e0 : mN μ (1 + f) = 0 := by rw [h2 f hf, if_neg (Nat.lt_irrefl f)]
  refine ⟨?_, fun g hg => ?_, fun x hx hx2 => ?_, fun g hg => ?_, fun k y z hk => ?_, fun k y z hk hk2 => ?_, fun kd hk => ?_⟩
  · rw [mN_mk1, if_neg (by omega), h1]
  · rw [mN_mk1]
    by_cases e : g = f
    · subst e
      rw [if_pos rfl, e0, if_pos (by omega)]
    · rw [if_neg (by omega), h2 g hg]
      by_cases q : g < f
      · rw [if_pos q, if_pos (by omega)]
      · rw [if_neg q, if_neg (by omega)]
  · rw [mN_mk1, if_neg (by omega), h3 x hx hx2]
  · rw [mP_mk1]
    by_cases e : g = f
    · subst e
      rw [if_pos ⟨rfl, rfl, rfl⟩, e0]
    · rw [if_neg (by omega), if_neg (by omega), h4 g (by omega)]
  · rw [mI_mk1]
    split
    · rfl
    · exact h5 k y z hk
  · rw [mP_mk1, if_neg (by omega)]
    split
    · rfl
    · exact h6 k y z hk hk2
  · exact (h7 kd hk).tr (eqK_mk1 (by omega) (by omega))
theorem V0_N0 {μ0 μ : jM} (h : V0 μ0 μ 3) : N0 (nw μ 4) (nw μ 4) 0 := by
  obtain ⟨h1, h2, h3, h4, h5, h6, h7⟩ := h
  refine ⟨?_, fun g hg => ?_, fun x hx => ?_, fun g hg => absurd hg (Nat.not_lt_zero g), fun y z => ⟨?_, ?_, ?_, ?_⟩, fun kd hk => eqK.rf⟩
  · rw [mN_nw, if_pos rfl, h3 4 (by omega) (by omega)]
  · rw [mN_nw, if_neg (by omega), h3 _ (by omega) (by omega), if_neg (Nat.not_lt_zero g)]
  · rw [mN_nw, if_neg (by omega), h3 _ (by omega) (by omega)]
  · rw [mP_nw, if_neg (by omega)]
    exact h6 6 y z (by omega) (by omega)
  · rw [mP_nw, if_neg (by omega)]
    exact h6 7 y z (by omega) (by omega)
  · rw [mI_nw]
    split
    · rfl
    · exact h5 4 y z (by omega)
  · rw [mI_nw, if_neg (by omega)]
    exact h5 11 y z (by omega)
theorem NB_eq {μ μ' : jM} {i : Nat} (h : NB μ i) (hE : ∀ kd, ¬ nK kd → eqK μ μ' kd) : NB μ' i := by
  obtain ⟨h1, ⟨a1, a2, a3, a4, a5, a6⟩, ⟨p1, p2, p3, p4, p5⟩, h4, h5, h6⟩ := h
  have n : ∀ kd, ¬ nK kd → mN μ' kd = mN μ kd := fun kd q => (hE kd q).1
  have p : ∀ kd y z, ¬ nK kd → mP μ' kd y z = mP μ kd y z := fun kd y z q => ((hE kd q).2 y z).2.1
  have m : ∀ kd y z, ¬ nK kd → mI μ' kd y z = mI μ kd y z := fun kd y z q => ((hE kd q).2 y z).1
  unfold nK at n p m
  refine ⟨fun g hg => (n _ (by omega)).trans (h1 g hg), ⟨(n _ (by omega)).trans a1, (n _ (by omega)).trans a2, (n _ (by omega)).trans a3, (n _ (by omega)).trans a4, (n _ (by omega)).trans a5, (n _ (by omega)).trans a6⟩, ⟨(p _ _ _ (by omega)).trans p1, (p _ _ _ (by omega)).trans p2, (p _ _ _ (by omega)).trans p3, (p _ _ _ (by omega)).trans p4, (p _ _ _ (by omega)).trans p5⟩, fun y z => ?_, fun j hj => ?_, fun j z hj hz => (p _ _ _ (by omega)).trans (h6 j z hj hz)⟩
  · obtain ⟨b1, b2, b3, b4⟩ := h4 y z
    exact ⟨(p _ _ _ (by omega)).trans b1, (p _ _ _ (by omega)).trans b2, (m _ _ _ (by omega)).trans b3, (m _ _ _ (by omega)).trans b4⟩
  · obtain ⟨b1, b2, b3, b4, b5⟩ := h5 j hj
    exact ⟨(p _ _ _ (by omega)).trans b1, (p _ _ _ (by omega)).trans b2, (p _ _ _ (by omega)).trans b3, (p _ _ _ (by omega)).trans b4, (p _ _ _ (by omega)).trans b5⟩
def V1 (μ0 μ : jM) (i j : Nat) : Prop := NB μ 10 ∧ (mN μ 0 = 1 ∧ mN μ 1 = 1 ∧ mN μ 2 = 1 ∧ mN μ 3 = 1 ∧ mN μ 10 = j ∧ mN μ 12 = 0 ∧ mN μ 13 = 0) ∧ (mP μ 0 0 0 = some (1, 0) ∧ mP μ 0 0 1 = some (2, 0) ∧ mP μ 0 0 2 = some (3, 0) ∧ mP μ 0 0 3 = some (4, 0)) ∧ (mI μ 0 0 4 = 0 ∧ mI μ 0 0 5 = 0 ∧ mI μ 0 0 6 = 1000 ∧ mI μ 0 0 7 = 1000) ∧
  (∀ x, x < i → mI μ 1 0 x = -1) ∧ (∀ x, x < j → mP μ 2 0 x = some (10, x) ∧ mI μ 10 x 0 = 10 ∧ mI μ 10 x 1 = 0 ∧ mI μ 10 x 2 = 5) ∧ xF μ0 μ
theorem V1_of {μ0 μ μ1 : jM} (h : V0 μ0 μ 3) (hB : NB μ1 10) (hF : NF (nw μ 4) μ1) : V1 μ0 (sI (sI (sP μ1 0 0 3 (some (4, 0))) 0 0 6 1000) 0 0 7 1000) 0 0 := by
  obtain ⟨h1, h2, h3, h4, h5, h6, h7⟩ := h
  have hn : ∀ x, x ≠ 4 → nK x → mN μ1 x = mN μ x := fun x q k => (hF x k).1.trans (by rw [mN_nw, if_neg q])
  have hI : ∀ x y z, x ≠ 4 → nK x → mI μ1 x y z = mI μ x y z := fun x y z q k => ((hF x k).2 y z).1.trans (by rw [mI_nw, if_neg (fun r => q r.1)])
  have hP : ∀ x y z, x ≠ 4 → nK x → mP μ1 x y z = mP μ x y z := fun x y z q k => ((hF x k).2 y z).2.1.trans (by rw [mP_nw, if_neg (fun r => q r.1)])
  unfold nK at hn hI hP
  refine ⟨NB_eq hB (fun kd q => ?_), ⟨?_, ?_, ?_, ?_, ?_, ?_, ?_⟩, ⟨?_, ?_, ?_, ?_⟩, ⟨?_, ?_, ?_, ?_⟩, fun x hx => absurd hx (Nat.not_lt_zero x), fun x hx => absurd hx (Nat.not_lt_zero x), fun kd hk => ?_⟩
  · unfold nK at q
    exact ((eqK_sP (by omega)).tr (eqK_sI (by omega))).tr (eqK_sI (by omega))
  · exact (hn 0 (by omega) (by omega)).trans h1
  · exact (hn 1 (by omega) (by omega)).trans (h2 0 (by omega))
  · exact (hn 2 (by omega) (by omega)).trans (h2 1 (by omega))
  · exact (hn 3 (by omega) (by omega)).trans (h2 2 (by omega))
  · exact (hn 10 (by omega) (by omega)).trans (h3 _ (by omega) (by omega))
  · exact (hn 12 (by omega) (by omega)).trans (h3 _ (by omega) (by omega))
  · exact (hn 13 (by omega) (by omega)).trans (h3 _ (by omega) (by omega))
  · rw [mP_sI, mP_sI, mP_sP_n _ _ _ _ _ (by omega), hP _ _ _ (by omega) (by omega)]; exact h4 0 (by omega)
  · rw [mP_sI, mP_sI, mP_sP_n _ _ _ _ _ (by omega), hP _ _ _ (by omega) (by omega)]; exact h4 1 (by omega)
  · rw [mP_sI, mP_sI, mP_sP_n _ _ _ _ _ (by omega), hP _ _ _ (by omega) (by omega)]; exact h4 2 (by omega)
  · rw [mP_sI, mP_sI, mP_sP_s]
  · rw [mI_sI_n _ _ _ _ _ (by omega), mI_sI_n _ _ _ _ _ (by omega), mI_sP, hI _ _ _ (by omega) (by omega)]; exact h5 _ _ _ (by omega)
  · rw [mI_sI_n _ _ _ _ _ (by omega), mI_sI_n _ _ _ _ _ (by omega), mI_sP, hI _ _ _ (by omega) (by omega)]; exact h5 _ _ _ (by omega)
  · rw [mI_sI_n _ _ _ _ _ (by omega), mI_sI_s]
  · rw [mI_sI_s]
  · exact (((h7 kd hk).tr (eqK_nw (by omega))).tr (hF kd (by unfold nK; omega))).tr (((eqK_sP (by omega)).tr (eqK_sI (by omega))).tr (eqK_sI (by omega)))
theorem V1_i {μ0 μ : jM} {i : Nat} (h : V1 μ0 μ i 0) : V1 μ0 (sI μ 1 0 i (-1)) (i + 1) 0 := by
  obtain ⟨h1, h2, h3, ⟨a1, a2, a3, a4⟩, h5, h6, h7⟩ := h
  have f : ∀ x y z, x ≠ 1 → mI (sI μ 1 0 i (-1)) x y z = mI μ x y z := fun x y z q => mI_sI_n _ _ _ _ _ (by omega)
  refine ⟨NB_eq h1 (fun kd q => eqK_sI (by unfold nK at q; omega)), h2, h3, ⟨?_, ?_, ?_, ?_⟩, fun x hx => ?_, fun x hx => absurd hx (Nat.not_lt_zero x), xF_sI (by omega) h7⟩
  · rw [f _ _ _ (by omega)]; exact a1
  · rw [f _ _ _ (by omega)]; exact a2
  · rw [f _ _ _ (by omega)]; exact a3
  · rw [f _ _ _ (by omega)]; exact a4
  · rw [mI_sI]
    split
    · rfl
    · exact h5 x (by omega)
theorem V1_j {μ0 μ : jM} {i j : Nat} (h : V1 μ0 μ i j) : V1 μ0 (sP (sI (sI (sI (nw μ 10) 10 j 0 10) 10 j 1 0) 10 j 2 5) 2 0 j (some (10, j))) i (j + 1) := by
  obtain ⟨h1, ⟨b1, b2, b3, b4, b5, b6, b7⟩, ⟨p1, p2, p3, p4⟩, ⟨a1, a2, a3, a4⟩, h5, h6, h7⟩ := h
  obtain ⟨μ1, e1⟩ : ∃ μ1, μ1 = nw μ 10 := ⟨_, rfl⟩
  obtain ⟨μ2, e2⟩ : ∃ μ2, μ2 = sI (sI (sI μ1 10 j 0 10) 10 j 1 0) 10 j 2 5 := ⟨_, rfl⟩
  obtain ⟨μ3, e3⟩ : ∃ μ3, μ3 = sP μ2 2 0 j (some (10, j)) := ⟨_, rfl⟩
  rw [← e1, ← e2, ← e3]
  have n1 : ∀ x, mN μ1 x = if x = 10 then mN μ 10 + 1 else mN μ x := fun x => by rw [e1, mN_nw]
  have n3 : ∀ x, mN μ3 x = mN μ1 x := fun x => by rw [e3, mN_sP, e2, mN_sI, mN_sI, mN_sI]
  have nx : ∀ x, x ≠ 10 → mN μ3 x = mN μ x := fun x q => by rw [n3, n1, if_neg q]
  have ix : ∀ x y z, ¬ (x = 10 ∧ j ≤ y) → mI μ3 x y z = mI μ x y z := fun x y z q => by rw [e3, mI_sP, e2, mI_sI_n _ _ _ _ _ (by omega), mI_sI_n _ _ _ _ _ (by omega), mI_sI_n _ _ _ _ _ (by omega), e1, mI_nw, if_neg (by omega)]
  have px : ∀ x y z, x ≠ 10 → ¬ (x = 2 ∧ y = 0 ∧ z = j) → mP μ3 x y z = mP μ x y z := fun x y z q q2 => by rw [e3, mP_sP_n _ _ _ _ _ q2, e2, mP_sI, mP_sI, mP_sI, e1, mP_nw, if_neg (by omega)]
  have gx : ∀ x y z, x ≠ 10 → mG μ3 x y z = mG μ x y z := fun x y z q => by rw [e3, mG_sP, e2, mG_sI, mG_sI, mG_sI, e1, mG_nw, if_neg (by omega)]
  have ex : ∀ kd, kd ≠ 10 → kd ≠ 2 → eqK μ μ3 kd := fun kd q q2 => ⟨nx kd q, fun y z => ⟨ix _ _ _ (by omega), px _ _ _ q (by omega), gx _ _ _ q⟩⟩
  refine ⟨NB_eq h1 (fun kd q => ex kd (by unfold nK at q; omega) (by unfold nK at q; omega)), ⟨?_, ?_, ?_, ?_, ?_, ?_, ?_⟩, ⟨?_, ?_, ?_, ?_⟩, ⟨?_, ?_, ?_, ?_⟩, fun x hx => ?_, fun x hx => ?_, fun kd hk => (h7 kd hk).tr (ex kd (by omega) (by omega))⟩
  · rw [nx _ (by omega)]; exact b1
  · rw [nx _ (by omega)]; exact b2
  · rw [nx _ (by omega)]; exact b3
  · rw [nx _ (by omega)]; exact b4
  · rw [n3, n1, if_pos rfl, b5]
  · rw [nx _ (by omega)]; exact b6
  · rw [nx _ (by omega)]; exact b7
  · rw [px _ _ _ (by omega) (by omega)]; exact p1
  · rw [px _ _ _ (by omega) (by omega)]; exact p2
  · rw [px _ _ _ (by omega) (by omega)]; exact p3
  · rw [px _ _ _ (by omega) (by omega)]; exact p4
  · rw [ix _ _ _ (by omega)]; exact a1
  · rw [ix _ _ _ (by omega)]; exact a2
  · rw [ix _ _ _ (by omega)]; exact a3
  · rw [ix _ _ _ (by omega)]; exact a4
  · rw [ix _ _ _ (by omega)]; exact h5 x hx
  · by_cases e : x = j
    · subst e
      refine ⟨by rw [e3, mP_sP_s], ?_, ?_, ?_⟩
      · rw [e3, mI_sP, e2, mI_sI_n _ _ _ _ _ (by omega), mI_sI_n _ _ _ _ _ (by omega), mI_sI_s]
      · rw [e3, mI_sP, e2, mI_sI_n _ _ _ _ _ (by omega), mI_sI_s]
      · rw [e3, mI_sP, e2, mI_sI_s]
    · obtain ⟨c1, c2, c3, c4⟩ := h6 x (by omega)
      exact ⟨(px _ _ _ (by omega) (by omega)).trans c1, (ix _ _ _ (by omega)).trans c2, (ix _ _ _ (by omega)).trans c3, (ix _ _ _ (by omega)).trans c4⟩
theorem V1_R {μ0 μ : jM} (h : V1 μ0 μ 10 5) : xR S0 μ := by
  obtain ⟨⟨g1, ⟨g2, g3, g4, g5, g6, g7⟩, g8, g9, g10, g11⟩, ⟨b1, b2, b3, b4, b5, b6, b7⟩, h3, ⟨a1, a2, a3, a4⟩, h5, h6, h7⟩ := h
  refine ⟨⟨⟨b1, b2, b3, b4, g1 0 (by omega), g1 1 (by omega), g1 2 (by omega), g1 3 (by omega), g1 4 (by omega), g1 5 (by omega)⟩, ⟨b5, g2, g3, g4, g5, g6, g7⟩, h3, g8, fun i hi => (h6 i hi).1, fun i hi => (g10 i hi).1, fun i hi => (g10 i hi).2, fun i j hi hj => g11 i j hi hj, fun i hi => ?_, fun i hi => ?_⟩, ⟨b6, b7, a1, (g9 0 1).2.2.1⟩, ⟨a2, a3, a4⟩, fun j hj => h5 j hj, fun j hj => (h6 j hj).2, fun i hi => absurd hi (Nat.not_lt_zero i), fun i hi => absurd hi (Nat.not_lt_zero i), ⟨fun a ha => ⟨?_, ?_⟩, fun c a hc => absurd hc (Nat.not_lt_zero c)⟩, fun a ha => Or.inl (g9 a 4).2.2.2⟩
  · rw [b6] at hi
    exact absurd hi (Nat.not_lt_zero i)
  · rw [b7] at hi
    exact absurd hi (Nat.not_lt_zero i)
  · rw [S0_nxt]
    exact (g9 0 a).1
  · rw [S0_lst]
    exact (g9 0 a).2.1

set_option maxHeartbeats 1000000 in
set_option maxRecDepth 20000 in
theorem c_X5_init {l : Launch}  : jMetN l yX5_init (.code yX5_init cX5_init 2 none) 8 180 164 1495 (fun avs μ => avs = [aR 0 0] ∧ V0 μ μ 0) (fun avs μ r μ' => r = none ∧ xR S0 μ' ∧ xF μ μ') := by
  refine jMetI_of (by decide) rfl ?_
  intro avs μ J C hav hpre
  obtain ⟨rfl, h⟩ := hpre
  refine ⟨Nat.le_of_ble_eq_true rfl, ?_⟩
  show J 0 [some (aR 0 0), none] [] μ 0 0
  refine mj_aload_n (pc' := 1) C dX5_init_0 rfl rfl ?_
  refine mj_objInit (pc' := 4) C dX5_init_1 rfl km_X5_3 ki_obj kc_obj (by decide) (by decide) ?_
  refine mj_aload_n (pc' := 5) C dX5_init_4 rfl rfl ?_
  refine mj_bipush (pc' := 7) (v := 10) C dX5_init_5 rfl rfl ?_
  refine mj_newa (kd := 1) (pc' := 9) C dX5_init_7 rfl rfl rfl (by decide) (by decide) ⟨by decide, by decide, fun _ h9 => by cases h9⟩ (by decide) rfl ka_int (by decide) (by decide) (by decide) ?_
  refine mj_putRF (pc' := 12) C dX5_init_9 rfl (ci := 5) (f := 0) rfl (by decide) (by decide) rfl rfl (fun _ _ => rfl) (by decide) kf_X5_9 (fun _ => rfl) ⟨rfl, fun _ => rfl⟩ (by rw [mN_nw, if_neg (by decide), h.1]; decide) ?_
  refine jgen (J := J) (P := fun μ1 => V0 μ μ1 1) (V0_step h (by decide) rfl) ?_
  clear h
  intro μ1 h
  refine mj_aload_n (pc' := 13) C dX5_init_12 rfl rfl ?_
  refine mj_iconst (pc' := 14) (v := 5) C dX5_init_13 rfl rfl ?_
  refine mj_newr (ci := 2) (kd := 2) (pc' := 17) C dX5_init_14 rfl rfl (by decide) (by decide) (fun _ h9 => h9.1) (by decide) rfl kl_X5_13 (by decide) (by decide) (by decide) ?_
  refine mj_putRF (pc' := 20) C dX5_init_17 rfl (ci := 5) (f := 1) rfl (by decide) (by decide) rfl rfl (fun _ _ => rfl) (by decide) kf_X5_15 (fun _ => rfl) ⟨rfl, fun _ => rfl⟩ (by rw [mN_nw, if_neg (by decide), h.1]; decide) ?_
  refine jgen (J := J) (P := fun μ1 => V0 μ μ1 2) (V0_step h (by decide) rfl) ?_
  clear h
  intro μ2 h
  refine mj_aload_n (pc' := 21) C dX5_init_20 rfl rfl ?_
  refine mj_bipush (pc' := 23) (v := 40) C dX5_init_21 rfl rfl ?_
  refine mj_newr (ci := 4) (kd := 3) (pc' := 26) C dX5_init_23 rfl rfl (by decide) (by decide) (fun _ h9 => h9.2.1) (by decide) rfl kl_X5_19 (by decide) (by decide) (by decide) ?_
  refine mj_putRF (pc' := 29) C dX5_init_26 rfl (ci := 5) (f := 2) rfl (by decide) (by decide) rfl rfl (fun _ _ => rfl) (by decide) kf_X5_21 (fun _ => rfl) ⟨rfl, fun _ => rfl⟩ (by rw [mN_nw, if_neg (by decide), h.1]; decide) ?_
  refine jgen (J := J) (P := fun μ1 => V0 μ μ1 3) (V0_step h (by decide) rfl) ?_
  clear h
  intro μ3 h
  refine mj_aload_n (pc' := 30) C dX5_init_29 rfl rfl ?_
  refine mj_new (ci := 3) (kd := 4) (pc' := 33) C dX5_init_30 rfl rfl (by decide) (by decide) kl_X5_25 kt_X3 kn_X3 (by decide) (by decide) ?_
  rw [h.2.2.1 4 (by decide) (by decide)]
  refine mj_dup (pc' := 34) C dX5_init_33 rfl rfl ?_
  refine mj_callI_0 (pc' := 37) C (c_X3_init) dX5_init_34 rfl km_X5_27 ki_yX3_init kn_X3 kc_yX3_init rfl ⟨by decide, by decide, by decide +kernel⟩ ⟨by decide, by decide⟩ (Nat.le_of_ble_eq_true rfl) ⟨by decide, by decide⟩ ⟨rfl, V0_N0 h⟩ (fun r μ34 hq34 hm34 => ?_)
  obtain ⟨rfl, hB34, hF34⟩ := hq34
  dsimp only [Option.toList, List.nil_append, List.cons_append]
  refine mj_putRF (pc' := 40) C dX5_init_37 rfl (ci := 5) (f := 3) rfl (by decide) (by decide) rfl rfl (fun _ _ => rfl) (by decide) kf_X5_28 (fun _ => rfl) ⟨rfl, fun _ => rfl⟩ (by show 0 < mN μ34 0; rw [(hF34 0 (Or.inl (by decide))).1, mN_nw, if_neg (by decide), h.1]; decide) ?_
  refine mj_aload_n (pc' := 41) C dX5_init_40 rfl rfl ?_
  refine mj_sipush (pc' := 44) (v := 1000) C dX5_init_41 rfl rfl ?_
  refine mj_putI (pc' := 47) C dX5_init_44 rfl (ci := 5) (f := 6) rfl (by decide) (by decide) rfl (fun _ _ => rfl) (by decide) kf_X5_32 rfl rfl (by show 0 < mN μ34 0; rw [(hF34 0 (Or.inl (by decide))).1, mN_nw, if_neg (by decide), h.1]; decide) ?_
  refine mj_aload_n (pc' := 48) C dX5_init_47 rfl rfl ?_
  refine mj_sipush (pc' := 51) (v := 1000) C dX5_init_48 rfl rfl ?_
  refine mj_putI (pc' := 54) C dX5_init_51 rfl (ci := 5) (f := 7) rfl (by decide) (by decide) rfl (fun _ _ => rfl) (by decide) kf_X5_36 rfl rfl (by show 0 < mN μ34 0; rw [(hF34 0 (Or.inl (by decide))).1, mN_nw, if_neg (by decide), h.1]; decide) ?_
  refine jgen (J := J) (P := fun μ1 => V1 μ μ1 0 0) (V1_of h hB34 hF34) ?_
  clear h hB34 hF34 hm34
  intro μ5 h
  refine mj_iconst (pc' := 55) (v := 0) C dX5_init_54 rfl rfl ?_
  refine mj_istore_n_1 (pc' := 56) C dX5_init_55 rfl (by decide) rfl ?_
  have lo1 : ∀ (d : Nat) (i : Nat) (μ1 : jM), i + d = 10 → V1 μ μ1 i 0 → J 56 [some (aR 0 0), some (aI (nI i))] [] μ1 159 1480 := by
    intro d
    induction d with
    | zero =>
      intro i μ1 hd h1
      obtain rfl : i = 10 := by omega
      refine mj_iload_n (pc' := 57) C dX5_init_56 rfl rfl ?_
      refine mj_bipush (pc' := 59) (v := 10) C dX5_init_57 rfl rfl ?_
      refine mj_icmp_ge (tgt := 75) (pc' := 62) C dX5_init_59 (by decide) rfl (fun _ => ?_) (fun h9 => absurd (by decide) h9)
      refine mj_iconst (pc' := 76) (v := 0) C dX5_init_75 rfl rfl ?_
      refine mj_istore_n_1 (pc' := 77) C dX5_init_76 rfl (by decide) rfl ?_
      have lo2 : ∀ (d : Nat) (i : Nat) (μ1 : jM), i + d = 5 → V1 μ μ1 10 i → J 77 [some (aR 0 0), some (aI (nI i))] [] μ1 (159 + i) (1480 + 3 * i) := by
        intro d
        induction d with
        | zero =>
          intro i μ1 hd h1
          obtain rfl : i = 5 := by omega
          refine mj_iload_n (pc' := 78) C dX5_init_77 rfl rfl ?_
          refine mj_iconst (pc' := 79) (v := 5) C dX5_init_78 rfl rfl ?_
          refine mj_icmp_ge (tgt := 101) (pc' := 82) C dX5_init_79 (by decide) rfl (fun _ => ?_) (fun h9 => absurd (by decide) h9)
          refine mj_vret C dX5_init_101 (by decide) (by first | decide | (have e0 : jNf 0 = 5 := rfl; have e2 : jNf 2 = 3 := rfl; have e3 : jNf 3 = 6 := rfl; show _ ≤ (164 : Nat); omega) | (have e0 : jNf 0 = 5 := rfl; have e2 : jNf 2 = 3 := rfl; have e3 : jNf 3 = 6 := rfl; show _ ≤ (1495 : Nat); omega)) (by first | decide | (have e0 : jNf 0 = 5 := rfl; have e2 : jNf 2 = 3 := rfl; have e3 : jNf 3 = 6 := rfl; show _ ≤ (164 : Nat); omega) | (have e0 : jNf 0 = 5 := rfl; have e2 : jNf 2 = 3 := rfl; have e3 : jNf 3 = 6 := rfl; show _ ≤ (1495 : Nat); omega)) ?_
          exact ⟨rfl, V1_R h1, h1.2.2.2.2.2.2⟩
        | succ d ih =>
          intro i μ1 hd h1
          have hlt : i < 5 := by omega
          refine mj_iload_n (pc' := 78) C dX5_init_77 rfl rfl ?_
          refine mj_iconst (pc' := 79) (v := 5) C dX5_init_78 rfl rfl ?_
          refine mj_icmp_ge (tgt := 101) (pc' := 82) C dX5_init_79 (by decide) rfl (fun h9 => absurd h9 (nI_ge (b := 5) hlt (by decide))) (fun _ => ?_)
          refine mj_aload_n (pc' := 83) C dX5_init_82 rfl rfl ?_
          refine mj_getR (pc' := 86) C dX5_init_83 rfl (ci := 5) (f := 1) rfl (by decide) (by decide) (fun _ => rfl) (by decide) kf_X5_15 (Nat.lt_of_lt_of_eq Nat.zero_lt_one h1.2.1.1.symm) h1.2.2.1.2.1 ?_
          refine mj_iload_n (pc' := 87) C dX5_init_86 rfl rfl ?_
          refine mj_new (ci := 2) (kd := 10) (pc' := 90) C dX5_init_87 rfl rfl (by decide) (by decide) kl_X5_13 kt_X2 kn_X2 (by first | decide | (have e0 : jNf 0 = 5 := rfl; have e2 : jNf 2 = 3 := rfl; have e3 : jNf 3 = 6 := rfl; show _ ≤ (164 : Nat); omega) | (have e0 : jNf 0 = 5 := rfl; have e2 : jNf 2 = 3 := rfl; have e3 : jNf 3 = 6 := rfl; show _ ≤ (1495 : Nat); omega)) (by first | decide | (have e0 : jNf 0 = 5 := rfl; have e2 : jNf 2 = 3 := rfl; have e3 : jNf 3 = 6 := rfl; show _ ≤ (164 : Nat); omega) | (have e0 : jNf 0 = 5 := rfl; have e2 : jNf 2 = 3 := rfl; have e3 : jNf 3 = 6 := rfl; show _ ≤ (1495 : Nat); omega)) ?_
          rw [h1.2.1.2.2.2.2.1]
          refine mj_dup (pc' := 91) C dX5_init_90 rfl rfl ?_
          refine mj_callI_0 (pc' := 94) C (c_X2_init i) dX5_init_91 rfl km_X5_39 ki_yX2_init kn_X2 kc_yX2_init rfl ⟨by decide, by decide, by decide +kernel⟩ ⟨by decide, by decide⟩ (Nat.le_of_ble_eq_true rfl) ⟨by first | decide | (have e0 : jNf 0 = 5 := rfl; have e2 : jNf 2 = 3 := rfl; have e3 : jNf 3 = 6 := rfl; show _ ≤ (164 : Nat); omega) | (have e0 : jNf 0 = 5 := rfl; have e2 : jNf 2 = 3 := rfl; have e3 : jNf 3 = 6 := rfl; show _ ≤ (1495 : Nat); omega), by first | decide | (have e0 : jNf 0 = 5 := rfl; have e2 : jNf 2 = 3 := rfl; have e3 : jNf 3 = 6 := rfl; show _ ≤ (164 : Nat); omega) | (have e0 : jNf 0 = 5 := rfl; have e2 : jNf 2 = 3 := rfl; have e3 : jNf 3 = 6 := rfl; show _ ≤ (1495 : Nat); omega)⟩ ⟨rfl, (by show i < mN (nw μ1 10) 10; rw [mN_nw, if_pos rfl, h1.2.1.2.2.2.2.1]; omega)⟩ (fun r μ91 hq91 hm91 => ?_)
          obtain ⟨rfl, rfl⟩ := hq91
          dsimp only [Option.toList, List.nil_append, List.cons_append]
          refine mj_aast (ci := 2) (pc' := 95) C dX5_init_94 rfl rfl (by decide) rfl (by decide) (by decide) (by decide) (by decide) (by show 0 < mN (nw μ1 10) 2; rw [mN_nw, if_neg (by decide), h1.2.1.2.2.1]; decide) (by show i < mN (nw μ1 10) 10; rw [mN_nw, if_pos rfl, h1.2.1.2.2.2.2.1]; omega) rfl (by omega) ?_
          refine mj_iinc_1 (pc' := 98) (w := 1) C dX5_init_95 rfl rfl (by decide) rfl ?_
          refine mj_goto (pc' := 77) C dX5_init_98 (by decide) ?_
          rw [nI_1]
          refine jkn (J := J) (k' := 159 + (i + 1)) (n' := 1480 + 3 * (i + 1)) (by omega) (by have e0 : jNf 2 = 3 := rfl; omega) ?_
          exact ih (i + 1) _ (by omega) (V1_j h1)
      refine jkn (J := J) (k' := 159 + 0) (n' := 1480 + 3 * 0) rfl rfl ?_
      exact lo2 5 0 _ (by omega) h1
    | succ d ih =>
      intro i μ1 hd h1
      have hlt : i < 10 := by omega
      refine mj_iload_n (pc' := 57) C dX5_init_56 rfl rfl ?_
      refine mj_bipush (pc' := 59) (v := 10) C dX5_init_57 rfl rfl ?_
      refine mj_icmp_ge (tgt := 75) (pc' := 62) C dX5_init_59 (by decide) rfl (fun h9 => absurd h9 (nI_ge (b := 10) hlt (by decide))) (fun _ => ?_)
      refine mj_aload_n (pc' := 63) C dX5_init_62 rfl rfl ?_
      refine mj_getR (pc' := 66) C dX5_init_63 rfl (ci := 5) (f := 0) rfl (by decide) (by decide) (fun _ => rfl) (by decide) kf_X5_9 (Nat.lt_of_lt_of_eq Nat.zero_lt_one h1.2.1.1.symm) h1.2.2.1.1 ?_
      refine mj_iload_n (pc' := 67) C dX5_init_66 rfl rfl ?_
      refine mj_iconst (pc' := 68) (v := (-1)) C dX5_init_67 rfl rfl ?_
      refine mj_iast (pc' := 69) C dX5_init_68 rfl rfl (by decide) (by decide) (Nat.lt_of_lt_of_eq Nat.zero_lt_one h1.2.1.2.1.symm) rfl (by omega) ?_
      refine mj_iinc_1 (pc' := 72) (w := 1) C dX5_init_69 rfl rfl (by decide) rfl ?_
      refine mj_goto (pc' := 56) C dX5_init_72 (by decide) ?_
      rw [nI_1]
      exact ih (i + 1) _ (by omega) (V1_i h1)
  refine jkn (J := J) (k' := 159) (n' := 1480) rfl rfl ?_
  exact lo1 10 0 _ (by omega) h
