/-! MAKERS: NETWORK -/
/-- what a new table of ways is: μ' behind μ, the table j -/
def X0P (j : Nat) (μ μ' : jM) : Prop :=
  (∀ x, x < 14 ∨ 18 < x → mN μ' x = mN μ x) ∧ (mN μ' 14 = mN μ 14 + 1 ∧ mN μ' 15 = mN μ 15 + 1 ∧ mN μ' 16 = mN μ 16 + 1 ∧ mN μ' 17 = mN μ 17 + 1 ∧ mN μ' 18 = mN μ 18 + 10) ∧
  (∀ x y z, x < 14 ∨ 18 < x → mI μ' x y z = mI μ x y z ∧ mG μ' x y z = mG μ x y z ∧ (¬ (x = 11 ∧ y = j ∧ z < 4) → mP μ' x y z = mP μ x y z)) ∧
  (mP μ' 11 j 0 = some (14, mN μ 14) ∧ mP μ' 11 j 1 = some (15, mN μ 15) ∧ mP μ' 11 j 2 = some (16, mN μ 16) ∧ mP μ' 11 j 3 = some (17, mN μ 17)) ∧
  (∀ z, z < 10 → mP μ' 17 (mN μ 17) z = some (18, mN μ 18 + z)) ∧ ∀ y z, y < mN μ 17 → mP μ' 17 y z = mP μ 17 y z
def mk2 (μ : jM) (j : Nat) : jM := sP (nwm μ 17 18 10) 11 j 3 (some (17, mN μ 17))
theorem mN_mk2 (μ : jM) (j x : Nat) : mN (mk2 μ j) x = if x = 18 then mN μ 18 + 10 else if x = 17 then mN μ 17 + 1 else mN μ x := by
  show mN (nwm μ 17 18 10) x = _
  exact mN_nwm μ 17 18 10 x (by decide)
theorem mI_mk2 (μ : jM) (j x y z : Nat) : mI (mk2 μ j) x y z = if x = 18 ∧ mN μ 18 ≤ y then 0 else if x = 17 ∧ mN μ 17 ≤ y then 0 else mI μ x y z := rfl
theorem mG_mk2 (μ : jM) (j x y z : Nat) : mG (mk2 μ j) x y z = if x = 18 ∧ mN μ 18 ≤ y then 0 else if x = 17 ∧ mN μ 17 ≤ y then 0 else mG μ x y z := rfl
theorem mP_mk2 (μ : jM) (j x y z : Nat) : mP (mk2 μ j) x y z = if x = 11 ∧ y = j ∧ z = 3 then some (17, mN μ 17) else if x = 17 ∧ y = mN μ 17 ∧ z < 10 then some (18, mN μ 18 + z) else if x = 18 ∧ mN μ 18 ≤ y then none else if x = 17 ∧ mN μ 17 ≤ y then none else mP μ x y z := rfl
theorem X0P_of {j : Nat} (μ : jM) : X0P j μ (mk2 (mk1 (mk1 (mk1 μ 14 11 j 0) 15 11 j 1) 16 11 j 2) j) := by
  obtain ⟨μ1, e1⟩ : ∃ μ1, μ1 = mk1 μ 14 11 j 0 := ⟨_, rfl⟩
  obtain ⟨μ2, e2⟩ : ∃ μ2, μ2 = mk1 μ1 15 11 j 1 := ⟨_, rfl⟩
  obtain ⟨μ3, e3⟩ : ∃ μ3, μ3 = mk1 μ2 16 11 j 2 := ⟨_, rfl⟩
  obtain ⟨μ4, e4⟩ : ∃ μ4, μ4 = mk2 μ3 j := ⟨_, rfl⟩
  rw [← e1, ← e2, ← e3, ← e4]
  have n1 : ∀ x, mN μ1 x = if x = 14 then mN μ 14 + 1 else mN μ x := fun x => by rw [e1, mN_mk1]
  have n2 : ∀ x, mN μ2 x = if x = 15 then mN μ1 15 + 1 else mN μ1 x := fun x => by rw [e2, mN_mk1]
  have n3 : ∀ x, mN μ3 x = if x = 16 then mN μ2 16 + 1 else mN μ2 x := fun x => by rw [e3, mN_mk1]
  have n4 : ∀ x, mN μ4 x = if x = 18 then mN μ3 18 + 10 else if x = 17 then mN μ3 17 + 1 else mN μ3 x := fun x => by rw [e4, mN_mk2]
  have k15 : mN μ1 15 = mN μ 15 := by rw [n1, if_neg (by decide)]
  have k16 : mN μ2 16 = mN μ 16 := by rw [n2, if_neg (by decide), n1, if_neg (by decide)]
  have k17 : mN μ3 17 = mN μ 17 := by rw [n3, if_neg (by decide), n2, if_neg (by decide), n1, if_neg (by decide)]
  have k18 : mN μ3 18 = mN μ 18 := by rw [n3, if_neg (by decide), n2, if_neg (by decide), n1, if_neg (by decide)]
  have p1 : ∀ x y z, mP μ1 x y z = if x = 11 ∧ y = j ∧ z = 0 then some (14, mN μ 14) else if x = 14 ∧ mN μ 14 ≤ y then none else mP μ x y z := fun x y z => by rw [e1, mP_mk1]
  have p2 : ∀ x y z, mP μ2 x y z = if x = 11 ∧ y = j ∧ z = 1 then some (15, mN μ1 15) else if x = 15 ∧ mN μ1 15 ≤ y then none else mP μ1 x y z := fun x y z => by rw [e2, mP_mk1]
  have p3 : ∀ x y z, mP μ3 x y z = if x = 11 ∧ y = j ∧ z = 2 then some (16, mN μ2 16) else if x = 16 ∧ mN μ2 16 ≤ y then none else mP μ2 x y z := fun x y z => by rw [e3, mP_mk1]
  have p4 : ∀ x y z, mP μ4 x y z = if x = 11 ∧ y = j ∧ z = 3 then some (17, mN μ3 17) else if x = 17 ∧ y = mN μ3 17 ∧ z < 10 then some (18, mN μ3 18 + z) else if x = 18 ∧ mN μ3 18 ≤ y then none else if x = 17 ∧ mN μ3 17 ≤ y then none else mP μ3 x y z := fun x y z => by rw [e4, mP_mk2]
  refine ⟨fun x hx => ?_, ⟨?_, ?_, ?_, ?_, ?_⟩, fun x y z hx => ⟨?_, ?_, fun hq => ?_⟩, ⟨?_, ?_, ?_, ?_⟩, fun z hz => ?_, fun y z hy => ?_⟩
  · rw [n4, if_neg (by omega), if_neg (by omega), n3, if_neg (by omega), n2, if_neg (by omega), n1, if_neg (by omega)]
  · rw [n4, if_neg (by decide), if_neg (by decide), n3, if_neg (by decide), n2, if_neg (by decide), n1, if_pos rfl]
  · rw [n4, if_neg (by decide), if_neg (by decide), n3, if_neg (by decide), n2, if_pos rfl, k15]
  · rw [n4, if_neg (by decide), if_neg (by decide), n3, if_pos rfl, k16]
  · rw [n4, if_neg (by decide), if_pos rfl, k17]
  · rw [n4, if_pos rfl, k18]
  · rw [e4, mI_mk2, if_neg (by omega), if_neg (by omega), e3, mI_mk1, if_neg (by omega), e2, mI_mk1, if_neg (by omega), e1, mI_mk1, if_neg (by omega)]
  · rw [e4, mG_mk2, if_neg (by omega), if_neg (by omega), e3, mG_mk1, if_neg (by omega), e2, mG_mk1, if_neg (by omega), e1, mG_mk1, if_neg (by omega)]
  · rw [p4, if_neg (by omega), if_neg (by omega), if_neg (by omega), if_neg (by omega), p3, if_neg (by omega), if_neg (by omega), p2, if_neg (by omega), if_neg (by omega), p1, if_neg (by omega), if_neg (by omega)]
  · rw [p4, if_neg (by omega), if_neg (by omega), if_neg (by omega), if_neg (by omega), p3, if_neg (by omega), if_neg (by omega), p2, if_neg (by omega), if_neg (by omega), p1, if_pos ⟨rfl, rfl, rfl⟩]
  · rw [p4, if_neg (by omega), if_neg (by omega), if_neg (by omega), if_neg (by omega), p3, if_neg (by omega), if_neg (by omega), p2, if_pos ⟨rfl, rfl, rfl⟩, k15]
  · rw [p4, if_neg (by omega), if_neg (by omega), if_neg (by omega), if_neg (by omega), p3, if_pos ⟨rfl, rfl, rfl⟩, k16]
  · rw [p4, if_pos ⟨rfl, rfl, rfl⟩, k17]
  · rw [p4, if_neg (by omega), if_pos ⟨rfl, k17.symm, hz⟩, k18]
  · rw [p4, if_neg (by omega), if_neg (by omega), if_neg (by omega), if_neg (by omega), p3, if_neg (by omega), if_neg (by omega), p2, if_neg (by omega), if_neg (by omega), p1, if_neg (by omega), if_neg (by omega)]
/-- not the network's -/
def nK (kd : Nat) : Prop := kd < 4 ∨ kd = 10 ∨ kd = 12 ∨ kd = 13 ∨ 19 ≤ kd
/-- the network's rows, the first f of them -/
def N0 (μ0 μ : jM) (f : Nat) : Prop := mN μ 4 = 1 ∧ (∀ g, g < 5 → mN μ (5 + g) = if g < f then 1 else 0) ∧ (∀ x, x = 11 ∨ (14 ≤ x ∧ x ≤ 18) → mN μ x = 0) ∧ (∀ g, g < f → mP μ 4 0 (if g = 0 then 0 else g + 1) = some (5 + g, 0)) ∧ (∀ y z, mP μ 6 y z = none ∧ mP μ 7 y z = none ∧ mI μ 4 y z = 0 ∧ mI μ 11 y z = 0) ∧ ∀ kd, nK kd → eqK μ0 μ kd
theorem N0_step {μ0 μ : jM} {f k z9 : Nat} (h : N0 μ0 μ f) (hf : f < 5) (hk : 5 + f = k) (hz : (if f = 0 then 0 else f + 1) = z9) : N0 μ0 (sP (nw μ k) 4 0 z9 (some (k, mN μ k))) (f + 1) := by
  subst hk
  subst hz
  obtain ⟨h1, h2, h3, h4, h5, h6⟩ := h
  show N0 μ0 (mk1 μ (5 + f) 4 0 (if f = 0 then 0 else f + 1)) (f + 1)
  have e0 : mN μ (5 + f) = 0 := by rw [h2 f hf, if_neg (Nat.lt_irrefl f)]
  refine ⟨?_, fun g hg => ?_, fun x hx => ?_, fun g hg => ?_, fun y z => ?_, fun kd hk => ?_⟩
  · rw [mN_mk1, if_neg (by omega), h1]
  · rw [mN_mk1]
    by_cases e : g = f
    · subst e
      rw [if_pos rfl, e0, if_pos (by omega)]
    · rw [if_neg (by omega), h2 g hg]
      by_cases q : g < f
      · rw [if_pos q, if_pos (by omega)]
      · rw [if_neg q, if_neg (by omega)]
  · rw [mN_mk1, if_neg (by omega), h3 x hx]
  · rw [mP_mk1]
    by_cases e : g = f
    · subst e
      rw [if_pos ⟨rfl, rfl, rfl⟩, e0]
    · have e9 : ¬ (if g = 0 then 0 else g + 1) = (if f = 0 then 0 else f + 1) := by split <;> split <;> omega
      rw [if_neg (fun q => e9 q.2.2), if_neg (by omega), h4 g (by omega)]
  · obtain ⟨b1, b2, b3, b4⟩ := h5 y z
    refine ⟨?_, ?_, ?_, ?_⟩
    · rw [mP_mk1, if_neg (by omega)]
      split
      · rfl
      · exact b1
    · rw [mP_mk1, if_neg (by omega)]
      split
      · rfl
      · exact b2
    · rw [mI_mk1, if_neg (by omega)]
      exact b3
    · rw [mI_mk1, if_neg (by omega)]
      exact b4
  · unfold nK at hk
    exact (h6 kd hk).tr (eqK_mk1 (by omega) (by omega))
/-- the network with i tables -/
def NB (μ : jM) (i : Nat) : Prop := (∀ g, g < 6 → mN μ (4 + g) = 1) ∧ (mN μ 11 = i ∧ mN μ 14 = i ∧ mN μ 15 = i ∧ mN μ 16 = i ∧ mN μ 17 = i ∧ mN μ 18 = 10 * i) ∧ (mP μ 4 0 0 = some (5, 0) ∧ mP μ 4 0 2 = some (6, 0) ∧ mP μ 4 0 3 = some (7, 0) ∧ mP μ 4 0 4 = some (8, 0) ∧ mP μ 4 0 5 = some (9, 0)) ∧ (∀ y z, mP μ 6 y z = none ∧ mP μ 7 y z = none ∧ mI μ 4 y z = 0 ∧ mI μ 11 y z = 0) ∧
  (∀ j, j < i → mP μ 8 0 j = some (11, j) ∧ mP μ 11 j 0 = some (14, j) ∧ mP μ 11 j 1 = some (15, j) ∧ mP μ 11 j 2 = some (16, j) ∧ mP μ 11 j 3 = some (17, j)) ∧ ∀ j z, j < i → z < 10 → mP μ 17 j z = some (18, 10 * j + z)
def NF (μ0 μ : jM) : Prop := ∀ kd, nK kd → eqK μ0 μ kd
theorem NB_of {μ0 μ : jM} (h : N0 μ0 μ 5) : NB μ 0 ∧ NF μ0 μ := by
  obtain ⟨h1, h2, h3, h4, h5, h6⟩ := h
  refine ⟨⟨fun g hg => ?_, ⟨h3 _ (by omega), h3 _ (by omega), h3 _ (by omega), h3 _ (by omega), h3 _ (by omega), h3 _ (by omega)⟩, ⟨h4 0 (by omega), h4 1 (by omega), h4 2 (by omega), h4 3 (by omega), h4 4 (by omega)⟩, h5, fun j hj => absurd hj (Nat.not_lt_zero j), fun j z hj => absurd hj (Nat.not_lt_zero j)⟩, h6⟩
  by_cases e : g = 0
  · subst e
    exact h1
  · have h9 := h2 (g - 1) (by omega)
    rw [if_pos (by omega), show 5 + (g - 1) = 4 + g by omega] at h9
    exact h9
theorem NB_step {μ0 μ μ2 : jM} {i : Nat} (h : NB μ i) (hF : NF μ0 μ) (hX : X0P (mN μ 11) (nw μ 11) μ2) : NB (sP μ2 8 0 i (some (11, mN μ 11))) (i + 1) ∧ NF μ0 (sP μ2 8 0 i (some (11, mN μ 11))) := by
  obtain ⟨h1, ⟨a1, a2, a3, a4, a5, a6⟩, ⟨p1, p2, p3, p4, p5⟩, h4, h5, h6⟩ := h
  obtain ⟨x1, ⟨b1, b2, b3, b4, b5⟩, x3, ⟨c1, c2, c3, c4⟩, x5, x6⟩ := hX
  have n1 : ∀ x, x ≠ 11 → mN (nw μ 11) x = mN μ x := fun x hx => by rw [mN_nw, if_neg hx]
  rw [n1 _ (by decide)] at b1 b2 b3 b4 b5 c1 c2 c3 c4 x5
  rw [n1 _ (by decide)] at x5
  rw [a1] at x3 c1 c2 c3 c4 ⊢
  have hn : ∀ x, x ≠ 11 → x < 14 ∨ 18 < x → mN μ2 x = mN μ x := fun x q hx => (x1 x hx).trans (n1 x q)
  have hI : ∀ x y z, x < 14 ∨ 18 < x → x ≠ 11 → mI μ2 x y z = mI μ x y z := fun x y z hx q => (x3 x y z hx).1.trans (by rw [mI_nw, if_neg (by omega)])
  have hG : ∀ x y z, x < 14 ∨ 18 < x → x ≠ 11 → mG μ2 x y z = mG μ x y z := fun x y z hx q => (x3 x y z hx).2.1.trans (by rw [mG_nw, if_neg (by omega)])
  have hP : ∀ x y z, x < 14 ∨ 18 < x → x ≠ 11 → mP μ2 x y z = mP μ x y z := fun x y z hx q => ((x3 x y z hx).2.2 (by omega)).trans (by rw [mP_nw, if_neg (by omega)])
  have hS : ∀ x y z, x ≠ 8 → mP (sP μ2 8 0 i (some (11, i))) x y z = mP μ2 x y z := fun x y z q => mP_sP_n _ _ _ _ _ (by omega)
  have hN' : ∀ x, mN (sP μ2 8 0 i (some (11, i))) x = mN μ2 x := fun x => rfl
  have hI' : ∀ x y z, mI (sP μ2 8 0 i (some (11, i))) x y z = mI μ2 x y z := fun x y z => rfl
  refine ⟨⟨fun g hg => ?_, ⟨?_, ?_, ?_, ?_, ?_, ?_⟩, ⟨?_, ?_, ?_, ?_, ?_⟩, fun y z => ⟨?_, ?_, ?_, ?_⟩, fun j hj => ?_, fun j z hj hz => ?_⟩, fun kd hk => ?_⟩
  · rw [hN', hn _ (by omega) (by omega)]
    exact h1 g hg
  · rw [hN', x1 11 (by omega), mN_nw, if_pos rfl, a1]
  · rw [hN', b1, a2]
  · rw [hN', b2, a3]
  · rw [hN', b3, a4]
  · rw [hN', b4, a5]
  · rw [hN', b5, a6]; omega
  · rw [hS _ _ _ (by decide), hP _ _ _ (by omega) (by decide)]; exact p1
  · rw [hS _ _ _ (by decide), hP _ _ _ (by omega) (by decide)]; exact p2
  · rw [hS _ _ _ (by decide), hP _ _ _ (by omega) (by decide)]; exact p3
  · rw [hS _ _ _ (by decide), hP _ _ _ (by omega) (by decide)]; exact p4
  · rw [hS _ _ _ (by decide), hP _ _ _ (by omega) (by decide)]; exact p5
  · rw [hS _ _ _ (by decide), hP _ _ _ (by omega) (by decide)]; exact (h4 y z).1
  · rw [hS _ _ _ (by decide), hP _ _ _ (by omega) (by decide)]; exact (h4 y z).2.1
  · rw [hI', hI _ _ _ (by omega) (by decide)]; exact (h4 y z).2.2.1
  · rw [hI', (x3 11 y z (by omega)).1, mI_nw]
    split
    · rfl
    · exact (h4 y z).2.2.2
  · by_cases e : j = i
    · subst e
      refine ⟨by rw [mP_sP_s], ?_, ?_, ?_, ?_⟩
      · rw [hS _ _ _ (by decide), c1, a2]
      · rw [hS _ _ _ (by decide), c2, a3]
      · rw [hS _ _ _ (by decide), c3, a4]
      · rw [hS _ _ _ (by decide), c4, a5]
    · have hji : j < i := by omega
      obtain ⟨g0, g1, g2, g3, g4⟩ := h5 j hji
      have o11 : ∀ z, mP (sP μ2 8 0 i (some (11, i))) 11 j z = mP μ 11 j z := fun z => by rw [hS _ _ _ (by decide), (x3 11 j z (by omega)).2.2 (by omega), mP_nw, if_neg (by omega)]
      refine ⟨?_, (o11 0).trans g1, (o11 1).trans g2, (o11 2).trans g3, (o11 3).trans g4⟩
      rw [mP_sP_n _ _ _ _ _ (by omega), hP _ _ _ (by omega) (by decide)]
      exact g0
  · rw [hS _ _ _ (by decide)]
    have e17 : mN (nw μ 11) 17 = i := by rw [n1 _ (by decide), a5]
    by_cases e : j = i
    · subst e
      rw [a5] at x5
      rw [x5 z hz, a6]
    · rw [x6 j z (by rw [e17]; omega), mP_nw, if_neg (by omega)]
      exact h6 j z (by omega) hz
  · have hk' := hk
    unfold nK at hk'
    refine (hF kd hk).tr ⟨?_, fun y z => ⟨?_, ?_, ?_⟩⟩
    · rw [hN']
      exact hn kd (by omega) (by omega)
    · exact hI kd y z (by omega) (by omega)
    · rw [hS _ _ _ (by omega)]
      exact hP kd y z (by omega) (by omega)
    · exact hG kd y z (by omega) (by omega)
theorem NB.l4 {μ : jM} {i : Nat} (h : NB μ i) : 0 < mN μ 4 := by rw [h.1 0 (by omega)]; decide
theorem NB.l8 {μ : jM} {i : Nat} (h : NB μ i) : 0 < mN μ 8 := by rw [h.1 4 (by omega)]; decide

set_option maxHeartbeats 1000000 in
set_option maxRecDepth 20000 in
theorem c_X3_init {l : Launch}  : jMetN l yX3_init (.code yX3_init cX3_init 2 none) 7 140 155 1419 (fun avs μ => avs = [aR 4 0] ∧ N0 μ μ 0) (fun avs μ r μ' => r = none ∧ NB μ' 10 ∧ NF μ μ') := by
  refine jMetI_of (by decide) rfl ?_
  intro avs μ J C hav hpre
  obtain ⟨rfl, h⟩ := hpre
  refine ⟨Nat.le_of_ble_eq_true rfl, ?_⟩
  show J 0 [some (aR 4 0), none] [] μ 0 0
  refine mj_aload_n (pc' := 1) C dX3_init_0 rfl rfl ?_
  refine mj_objInit (pc' := 4) C dX3_init_1 rfl km_X3_3 ki_obj kc_obj (by decide) (by decide) ?_
  refine mj_aload_n (pc' := 5) C dX3_init_4 rfl rfl ?_
  refine mj_bipush (pc' := 7) (v := 30) C dX3_init_5 rfl rfl ?_
  refine mj_newr (ci := 1) (kd := 5) (pc' := 10) C dX3_init_7 rfl rfl (by decide) (by decide) (fun _ h9 => h9.2.2.1) (by decide) rfl kl_X3_9 (by decide) (by decide) (by decide) ?_
  refine mj_putRF (pc' := 13) C dX3_init_10 rfl (ci := 3) (f := 0) rfl (by decide) (by decide) rfl rfl (fun _ _ => rfl) (by decide) kf_X3_11 (fun _ => rfl) ⟨rfl, fun _ => rfl⟩ (by rw [mN_nw, if_neg (by decide), h.1]; decide) ?_
  refine jgen (J := J) (P := fun μ1 => N0 μ μ1 1) (N0_step h (by decide) rfl rfl) ?_
  clear h
  intro μ1 h
  refine mj_aload_n (pc' := 14) C dX3_init_13 rfl rfl ?_
  refine mj_bipush (pc' := 16) (v := 10) C dX3_init_14 rfl rfl ?_
  refine mj_newr (ci := 1) (kd := 6) (pc' := 19) C dX3_init_16 rfl rfl (by decide) (by decide) (fun _ h9 => h9.2.2.1) (by decide) rfl kl_X3_9 (by decide) (by decide) (by decide) ?_
  refine mj_putRF (pc' := 22) C dX3_init_19 rfl (ci := 3) (f := 2) rfl (by decide) (by decide) rfl rfl (fun _ _ => rfl) (by decide) kf_X3_17 (fun _ => rfl) ⟨rfl, fun _ => rfl⟩ (by rw [mN_nw, if_neg (by decide), h.1]; decide) ?_
  refine jgen (J := J) (P := fun μ1 => N0 μ μ1 2) (N0_step h (by decide) rfl rfl) ?_
  clear h
  intro μ2 h
  refine mj_aload_n (pc' := 23) C dX3_init_22 rfl rfl ?_
  refine mj_bipush (pc' := 25) (v := 10) C dX3_init_23 rfl rfl ?_
  refine mj_newr (ci := 1) (kd := 7) (pc' := 28) C dX3_init_25 rfl rfl (by decide) (by decide) (fun _ h9 => h9.2.2.1) (by decide) rfl kl_X3_9 (by decide) (by decide) (by decide) ?_
  refine mj_putRF (pc' := 31) C dX3_init_28 rfl (ci := 3) (f := 3) rfl (by decide) (by decide) rfl rfl (fun _ _ => rfl) (by decide) kf_X3_20 (fun _ => rfl) ⟨rfl, fun _ => rfl⟩ (by rw [mN_nw, if_neg (by decide), h.1]; decide) ?_
  refine jgen (J := J) (P := fun μ1 => N0 μ μ1 3) (N0_step h (by decide) rfl rfl) ?_
  clear h
  intro μ3 h
  refine mj_aload_n (pc' := 32) C dX3_init_31 rfl rfl ?_
  refine mj_bipush (pc' := 34) (v := 10) C dX3_init_32 rfl rfl ?_
  refine mj_newr (ci := 0) (kd := 8) (pc' := 37) C dX3_init_34 rfl rfl (by decide) (by decide) (fun _ h9 => h9.2.2.2.1) (by decide) rfl kl_X3_23 (by decide) (by decide) (by decide) ?_
  refine mj_putRF (pc' := 40) C dX3_init_37 rfl (ci := 3) (f := 4) rfl (by decide) (by decide) rfl rfl (fun _ _ => rfl) (by decide) kf_X3_25 (fun _ => rfl) ⟨rfl, fun _ => rfl⟩ (by rw [mN_nw, if_neg (by decide), h.1]; decide) ?_
  refine jgen (J := J) (P := fun μ1 => N0 μ μ1 4) (N0_step h (by decide) rfl rfl) ?_
  clear h
  intro μ4 h
  refine mj_aload_n (pc' := 41) C dX3_init_40 rfl rfl ?_
  refine mj_bipush (pc' := 43) (v := 9) C dX3_init_41 rfl rfl ?_
  refine mj_newa (kd := 9) (pc' := 45) C dX3_init_43 rfl rfl rfl (by decide) (by decide) ⟨by decide, by decide, fun _ h9 => by cases h9⟩ (by decide) rfl ka_int (by decide) (by decide) (by decide) ?_
  refine mj_putRF (pc' := 48) C dX3_init_45 rfl (ci := 3) (f := 5) rfl (by decide) (by decide) rfl rfl (fun _ _ => rfl) (by decide) kf_X3_29 (fun _ => rfl) ⟨rfl, fun _ => rfl⟩ (by rw [mN_nw, if_neg (by decide), h.1]; decide) ?_
  refine jgen (J := J) (P := fun μ1 => NB μ1 0 ∧ NF μ μ1) (NB_of (N0_step h (by decide) rfl rfl)) ?_
  clear h
  intro μ5 h
  refine mj_iconst (pc' := 49) (v := 0) C dX3_init_48 rfl rfl ?_
  refine mj_istore_n_1 (pc' := 50) C dX3_init_49 rfl (by decide) rfl ?_
  have lo1 : ∀ (d : Nat) (i : Nat) (μ1 : jM), i + d = 10 → NB μ1 i ∧ NF μ μ1 → J 50 [some (aR 4 0), some (aI (nI i))] [] μ1 (5 + 15 * i) (69 + 135 * i) := by
    intro d
    induction d with
    | zero =>
      intro i μ1 hd h1
      obtain rfl : i = 10 := by omega
      refine mj_iload_n (pc' := 51) C dX3_init_50 rfl rfl ?_
      refine mj_bipush (pc' := 53) (v := 10) C dX3_init_51 rfl rfl ?_
      refine mj_icmp_ge (tgt := 75) (pc' := 56) C dX3_init_53 (by decide) rfl (fun _ => ?_) (fun h9 => absurd (by decide) h9)
      refine mj_vret C dX3_init_75 (by decide) (by first | decide | (have e0 : jNf 0 = 5 := rfl; have e2 : jNf 2 = 3 := rfl; have e3 : jNf 3 = 6 := rfl; show _ ≤ (155 : Nat); omega) | (have e0 : jNf 0 = 5 := rfl; have e2 : jNf 2 = 3 := rfl; have e3 : jNf 3 = 6 := rfl; show _ ≤ (1419 : Nat); omega)) (by first | decide | (have e0 : jNf 0 = 5 := rfl; have e2 : jNf 2 = 3 := rfl; have e3 : jNf 3 = 6 := rfl; show _ ≤ (155 : Nat); omega) | (have e0 : jNf 0 = 5 := rfl; have e2 : jNf 2 = 3 := rfl; have e3 : jNf 3 = 6 := rfl; show _ ≤ (1419 : Nat); omega)) ?_
      exact ⟨rfl, h1⟩
    | succ d ih =>
      intro i μ1 hd h1
      have hlt : i < 10 := by omega
      refine mj_iload_n (pc' := 51) C dX3_init_50 rfl rfl ?_
      refine mj_bipush (pc' := 53) (v := 10) C dX3_init_51 rfl rfl ?_
      refine mj_icmp_ge (tgt := 75) (pc' := 56) C dX3_init_53 (by decide) rfl (fun h9 => absurd h9 (nI_ge (b := 10) hlt (by decide))) (fun _ => ?_)
      refine mj_aload_n (pc' := 57) C dX3_init_56 rfl rfl ?_
      refine mj_getR (pc' := 60) C dX3_init_57 rfl (ci := 3) (f := 4) rfl (by decide) (by decide) (fun _ => rfl) (by decide) kf_X3_25 h1.1.l4 h1.1.2.2.1.2.2.2.1 ?_
      refine mj_iload_n (pc' := 61) C dX3_init_60 rfl rfl ?_
      refine mj_new (ci := 0) (kd := 11) (pc' := 64) C dX3_init_61 rfl rfl (by decide) (by decide) kl_X3_23 kt_X0 kn_X0 (by first | decide | (have e0 : jNf 0 = 5 := rfl; have e2 : jNf 2 = 3 := rfl; have e3 : jNf 3 = 6 := rfl; show _ ≤ (155 : Nat); omega) | (have e0 : jNf 0 = 5 := rfl; have e2 : jNf 2 = 3 := rfl; have e3 : jNf 3 = 6 := rfl; show _ ≤ (1419 : Nat); omega)) (by first | decide | (have e0 : jNf 0 = 5 := rfl; have e2 : jNf 2 = 3 := rfl; have e3 : jNf 3 = 6 := rfl; show _ ≤ (155 : Nat); omega) | (have e0 : jNf 0 = 5 := rfl; have e2 : jNf 2 = 3 := rfl; have e3 : jNf 3 = 6 := rfl; show _ ≤ (1419 : Nat); omega)) ?_
      refine mj_dup (pc' := 65) C dX3_init_64 rfl rfl ?_
      refine mj_callI_0 (pc' := 68) C (c_X0_init (mN μ1 11)) dX3_init_65 rfl km_X3_33 ki_yX0_init kn_X0 kc_yX0_init rfl ⟨by decide, by decide, by decide +kernel⟩ ⟨by decide, by decide⟩ (Nat.le_of_ble_eq_true rfl) ⟨by first | decide | (have e0 : jNf 0 = 5 := rfl; have e2 : jNf 2 = 3 := rfl; have e3 : jNf 3 = 6 := rfl; show _ ≤ (155 : Nat); omega) | (have e0 : jNf 0 = 5 := rfl; have e2 : jNf 2 = 3 := rfl; have e3 : jNf 3 = 6 := rfl; show _ ≤ (1419 : Nat); omega), by first | decide | (have e0 : jNf 0 = 5 := rfl; have e2 : jNf 2 = 3 := rfl; have e3 : jNf 3 = 6 := rfl; show _ ≤ (155 : Nat); omega) | (have e0 : jNf 0 = 5 := rfl; have e2 : jNf 2 = 3 := rfl; have e3 : jNf 3 = 6 := rfl; show _ ≤ (1419 : Nat); omega)⟩ ⟨rfl, (show mN μ1 11 < mN (nw μ1 11) 11 by rw [mN_nw, if_pos rfl]; omega)⟩ (fun r μ65 hq65 hm65 => ?_)
      obtain ⟨rfl, e65⟩ := hq65
      have hX65 : X0P (mN μ1 11) (nw μ1 11) μ65 := by rw [e65]; exact X0P_of _
      clear e65
      dsimp only [Option.toList, List.nil_append, List.cons_append]
      refine mj_aast (ci := 0) (pc' := 69) C dX3_init_68 rfl rfl (by decide) rfl (by decide) (by decide) (by decide) (by decide) (Nat.lt_of_lt_of_eq Nat.zero_lt_one ((hX65.1 8 (by omega)).trans (by rw [mN_nw, if_neg (by decide), h1.1.1 4 (by omega)])).symm) (by rw [hX65.1 11 (by omega), mN_nw, if_pos rfl]; omega) rfl (by omega) ?_
      refine mj_iinc_1 (pc' := 72) (w := 1) C dX3_init_69 rfl rfl (by decide) rfl ?_
      refine mj_goto (pc' := 50) C dX3_init_72 (by decide) ?_
      rw [nI_1]
      refine jkn (J := J) (k' := 5 + 15 * (i + 1)) (n' := 69 + 135 * (i + 1)) (by omega) (by have e0 : jNf 0 = 5 := rfl; omega) ?_
      exact ih (i + 1) _ (by omega) (NB_step h1.1 h1.2 hX65)
  refine jkn (J := J) (k' := 5 + 15 * 0) (n' := 69 + 135 * 0) rfl rfl ?_
  exact lo1 10 0 _ (by omega) h
