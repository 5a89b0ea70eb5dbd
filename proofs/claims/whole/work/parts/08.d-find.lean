/-! THE REFERENCE: ITS TABLES, AND WHAT BECOMES OF A QUALITY -/
def fQ (kd y z : Nat) : Prop := gQ kd y z ∨ (kd = 20 ∧ y = 0 ∧ z = 34)
theorem oG.f2 {μ μ' : jM} (h : oG fQ μ μ') : mF μ μ' := fun kd hk => ⟨by rw [h.1.1], fun y z => ⟨h.2 kd y z (by unfold fQ gQ; omega), by rw [h.1.2.1], by rw [h.1.2.2]⟩⟩
theorem mC.to2 {S : jS} {μ μ' : jM} (h : mC S μ) (hF : oG fQ μ μ') : mC S μ' := by
  refine ⟨by rw [hF.1.1, hF.1.2.1]; exact h.1, by rw [hF.2 _ _ _ (by unfold fQ gQ; omega), hF.2 _ _ _ (by unfold fQ gQ; omega), hF.2 _ _ _ (by unfold fQ gQ; omega), hF.2 _ _ _ (by unfold fQ gQ; omega), hF.2 _ _ _ (by unfold fQ gQ; omega)]; exact h.2.1, fun a i ha hi9 => by rw [hF.2 _ _ _ (by unfold fQ gQ; omega)]; exact h.2.2 a i ha hi9⟩
theorem best_cmb (S : jS) (a : Nat) (m : Int32) : (cmb S none 10 a [a] 1000 0 [] (fun _ => none, m)).1 = best S a := by
  rw [cmb_none]
  rfl
theorem mR.tab {S : jS} {μ : jM} (h : mR S μ) (h1 : mI μ 20 0 34 = 1) {a : Nat} (ha : a < 10) : mTab μ a (best S a) := by
  rcases h.found with q | q
  · rw [h1] at q; cases q
  · exact q.2 a ha

set_option maxRecDepth 20000 in
theorem c_X6_along {l : Launch} (hst : l.stackTraces = false) (S : jS) (a b : Nat) (q : Int32) : jMet l yX6_along cX6_along 5 (some FieldType.int) 7 140 0 0 (fun avs μ => avs = [aR 20 0, aI (nI (10 * a + b)), aI q] ∧ mC S μ ∧ sW S ∧ (a < 10 ∧ b < 10) ∧ mTab μ a (best S a)) (fun avs μ r μ' => r = some (aI (alg S (bw (best S a b)) q)) ∧ μ' = μ) (fun avs μ E μ' => False) := by
  refine jMet_of hst (by decide) ?_
  intro avs μ J C hav hpre
  obtain ⟨rfl, hR, hW, ⟨ha, hb⟩, hT⟩ := hpre
  refine ⟨Nat.le_of_ble_eq_true rfl, ?_⟩
  show J 0 [some (aR 20 0), some (aI (nI (10 * a + b))), some (aI q), none, none] [] μ 0 0
  have hW0 := hW.1.1
  have hW1 := hW.1.2
  have hl9 := bw_le hW a b
  refine mj_iload_n (pc' := 1) C dX6_along_0 rfl rfl ?_
  refine mj_istore_n_3 (pc' := 2) C dX6_along_1 rfl (by decide) rfl ?_
  refine mj_iconst (pc' := 3) (v := 0) C dX6_along_2 rfl rfl ?_
  refine mj_istore_4 (pc' := 5) C dX6_along_3 rfl (by decide) rfl ?_
  have loop : ∀ (d : Nat) (i : Nat), i + d = (bw (best S a b)).length → J 5 [some (aR 20 0), some (aI (nI (10 * a + b))), some (aI q), some (aI (alg S ((bw (best S a b)).take i) q)), some (aI (nI i))] [] μ 0 0 := by
    intro d
    induction d with
    | zero =>
      intro i hd
      obtain rfl : i = (bw (best S a b)).length := by omega
      refine mj_iload (pc' := 7) C dX6_along_5 rfl rfl ?_
      refine mj_aload_n (pc' := 8) C dX6_along_7 rfl rfl ?_
      refine mj_getR (pc' := 11) C dX6_along_8 rfl (ci := 6) (f := 21) rfl (by decide) (by decide) (fun _ => rfl) (by decide) kf_X6_74 hR.B.l0 (hR.B.p 21 (by decide) rfl) ?_
      refine mj_iload_n (pc' := 12) C dX6_along_11 rfl rfl ?_
      refine mj_ialdV (pc' := 13) C dX6_along_12 rfl rfl (by decide) (by decide) (hR.B.l 21 (by decide) rfl) rfl (by omega) (hT b hb).2.2.1 ?_
      refine mj_icmp_ge (tgt := 44) (pc' := 16) C dX6_along_13 (by decide) rfl (fun _ => ?_) (fun h9 => absurd (Int32.le_refl _) h9)
      refine mj_iload_n (pc' := 45) C dX6_along_44 rfl rfl ?_
      refine mj_iret C dX6_along_45 (by decide) (by decide) (by decide) ?_
      exact ⟨by rw [List.take_length], rfl⟩
    | succ d ih =>
      intro i hd
      have hlt : i < (bw (best S a b)).length := by omega
      have hk := bw_lt hW hlt
      refine mj_iload (pc' := 7) C dX6_along_5 rfl rfl ?_
      refine mj_aload_n (pc' := 8) C dX6_along_7 rfl rfl ?_
      refine mj_getR (pc' := 11) C dX6_along_8 rfl (ci := 6) (f := 21) rfl (by decide) (by decide) (fun _ => rfl) (by decide) kf_X6_74 hR.B.l0 (hR.B.p 21 (by decide) rfl) ?_
      refine mj_iload_n (pc' := 12) C dX6_along_11 rfl rfl ?_
      refine mj_ialdV (pc' := 13) C dX6_along_12 rfl rfl (by decide) (by decide) (hR.B.l 21 (by decide) rfl) rfl (by omega) (hT b hb).2.2.1 ?_
      refine mj_icmp_ge (tgt := 44) (pc' := 16) C dX6_along_13 (by decide) rfl (fun h9 => absurd h9 (nI_ge hlt (by omega))) (fun _ => ?_)
      refine mj_iload_n (pc' := 17) C dX6_along_16 rfl rfl ?_
      refine mj_aload_n (pc' := 18) C dX6_along_17 rfl rfl ?_
      refine mj_getR (pc' := 21) C dX6_along_18 rfl (ci := 6) (f := 3) rfl (by decide) (by decide) (fun _ => rfl) (by decide) kf_X6_19 hR.B.l0 (hR.B.p 3 (by decide) rfl) ?_
      refine mj_aload_n (pc' := 22) C dX6_along_21 rfl rfl ?_
      refine mj_getR (pc' := 25) C dX6_along_22 rfl (ci := 6) (f := 22) rfl (by decide) (by decide) (fun _ => rfl) (by decide) kf_X6_77 hR.B.l0 (hR.B.p 22 (by decide) rfl) ?_
      refine mj_bipush (pc' := 27) (v := 9) C dX6_along_25 rfl rfl ?_
      refine mj_iload_n (pc' := 28) C dX6_along_27 rfl rfl ?_
      refine mj_imul (pc' := 29) C dX6_along_28 rfl ?_
      refine mj_iload (pc' := 31) C dX6_along_29 rfl rfl ?_
      refine mj_iadd (pc' := 32) C dX6_along_31 rfl ?_
      refine mj_ialdV (pc' := 33) C dX6_along_32 rfl rfl (by decide) (by decide) (hR.B.l 22 (by decide) rfl) (by show nI 9 * nI _ + nI _ = _; rw [pk_mul, nI_add]) (by omega) ((hT b hb).2.2.2.2 i hlt) ?_
      refine mj_ialdV (pc' := 34) C dX6_along_33 rfl rfl (by decide) (by decide) (hR.B.l 3 (by decide) rfl) rfl (by omega) (hR.v 3 (by decide) rfl (by unfold sl; simp <;> first | assumption | omega)) ?_
      refine mj_callSN_2 (pc' := 37) C (c_X6_behind hst (alg S ((bw (best S a b)).take i) q) (sf S 3 ((bw (best S a b)).getD i 0))) dX6_along_34 rfl km_X6_129 ks_yX6_behind kn_X6 kc_yX6_behind ⟨by decide, by decide, by decide +kernel⟩ ⟨by decide, by decide⟩ (Nat.le_of_ble_eq_true rfl) ⟨by decide, by decide⟩ rfl (fun r34 μ34 hq34 hm34 => ?_) (fun _ _ h9 => h9)
      obtain ⟨rfl, hq9⟩ := hq34
      have hq9 := hq9.symm
      subst hq9
      dsimp only [Option.toList, List.nil_append, List.cons_append]
      refine mj_istore_n_3 (pc' := 38) C dX6_along_37 rfl (by decide) rfl ?_
      refine mj_iinc_4 (pc' := 41) (w := 1) C dX6_along_38 rfl rfl (by decide) rfl ?_
      refine mj_goto (pc' := 5) C dX6_along_41 (by decide) ?_
      rw [show alg S ((bw (best S a b)).take i) q * (1000 - sf S 3 ((bw (best S a b)).getD i 0)) / 1000 = alg S ((bw (best S a b)).take (i + 1)) q from (alg_s S hlt q).symm, nI_1]
      exact ih (i + 1) (by omega)
  exact loop _ 0 (Nat.zero_add _)

set_option maxRecDepth 20000 in
theorem c_X6_find {l : Launch} (hst : l.stackTraces = false) (S : jS) : jMet l yX6_find cX6_find 3 none 9 220 0 0 (fun avs μ => avs = [aR 20 0] ∧ mR S μ ∧ sW S) (fun avs μ r μ' => r = none ∧ mR S μ' ∧ oG fQ μ μ' ∧ mI μ' 20 0 34 = 1) (fun avs μ E μ' => False) := by
  refine jMet_of hst (by decide) ?_
  intro avs μ J C hav hpre
  obtain ⟨rfl, hR, hW⟩ := hpre
  refine ⟨Nat.le_of_ble_eq_true rfl, ?_⟩
  show J 0 [some (aR 20 0), none, none] [] μ 0 0
  have hC := hR.C
  have fin : ∀ (μ1 μ2 : jM), oG (fun kd y z => 40 ≤ kd ∧ kd ≤ 42) μ μ1 → oG gQ μ1 μ2 → (∀ j, j < 10 → mI μ2 49 0 j = 0) → (∀ a, a < 10 → mTab μ2 a (best S a)) → (none : Option jV) = none ∧ mR S (sI μ2 20 0 34 1) ∧ oG fQ μ (sI μ2 20 0 34 1) ∧ mI (sI μ2 20 0 34 1) 20 0 34 = 1 := by
    intro μ1 μ2 hO hG hon2 htF
    have hO2 : oG fQ μ (sI μ2 20 0 34 1) := oG_sI (Or.inr ⟨rfl, rfl, rfl⟩) ((hO.up (fun _ _ _ q => Or.inl (by unfold gQ; omega))).tr (hG.up (fun _ _ _ q => Or.inl q)))
    refine ⟨rfl, mR.mk (hC.to2 hO2) (Or.inr ⟨mI_sI_s _ _ _ _ _, fun a ha => mTab_same (htF a ha) (fun kd z hq => mI_sI_n _ _ _ _ _ (by unfold tQ at hq; omega))⟩) (fun j hj => (mI_sI_n _ _ _ _ _ (by omega)).trans (hon2 j hj)), hO2, mI_sI_s _ _ _ _ _⟩
  refine mj_aload_n (pc' := 1) C dX6_find_0 rfl rfl ?_
  refine mj_getV (pc' := 4) C dX6_find_1 rfl (ci := 6) (f := 34) rfl (by decide) (by decide) (fun _ => rfl) (by decide) kf_X6_132 hR.B.l0 rfl ?_
  refine mj_if_ne (tgt := 72) (pc' := 7) C dX6_find_4 (by decide) rfl (fun h4 => ?_) (fun h4 => ?_)
  · have h1 := (hR.found.resolve_left h4).1
    refine mj_vret C dX6_find_72 (by decide) (by decide) (by decide) ?_
    exact ⟨rfl, hR, oG.rf, h1⟩
  · refine mj_iconst (pc' := 8) (v := 0) C dX6_find_7 rfl rfl ?_
    refine mj_istore_n_1 (pc' := 9) C dX6_find_8 rfl (by decide) rfl ?_
    have loop1 : ∀ (d : Nat) (i : Nat) (μ1 : jM), i + d = 100 → oG (fun kd y z => 40 ≤ kd ∧ kd ≤ 42) μ μ1 → (∀ z, z < i → mI μ1 40 0 z = -1 ∧ mI μ1 41 0 z = -1 ∧ mI μ1 42 0 z = 0) → J 9 [some (aR 20 0), some (aI (nI i)), none] [] μ1 0 0 := by
      intro d
      induction d with
      | zero =>
        intro i μ1 hd hO hz
        have hC := hC.to (hO.up (fun _ _ _ q => by unfold gQ; omega))
        obtain rfl : i = 100 := by omega
        have hN : ∀ a, a < 10 → mTab μ1 a (fun _ => none) := fun a ha b hb => ⟨(hz _ (by omega)).1, (hz _ (by omega)).2.1, (hz _ (by omega)).2.2, Nat.zero_le _, fun k hk => absurd hk (Nat.not_lt_zero k)⟩
        have hon1 : ∀ j, j < 10 → mI μ1 49 0 j = 0 := fun j hj => (hO.2 49 0 j (by omega)).trans (hR.on hj)
        refine mj_iload_n (pc' := 10) C dX6_find_9 rfl rfl ?_
        refine mj_bipush (pc' := 12) (v := 100) C dX6_find_10 rfl rfl ?_
        refine mj_icmp_ge (tgt := 42) (pc' := 15) C dX6_find_12 (by decide) rfl (fun _ => ?_) (fun h9 => absurd (by decide) h9)
        refine mj_iconst (pc' := 43) (v := 0) C dX6_find_42 rfl rfl ?_
        refine mj_istore_n_1 (pc' := 44) C dX6_find_43 rfl (by decide) rfl ?_
        refine mj_iconst (pc' := 45) (v := 0) C dX6_find_44 rfl rfl ?_
        refine mj_istore_n_2 (pc' := 46) C dX6_find_45 rfl (by decide) rfl ?_
        have loop2 : ∀ (d : Nat) (f : Nat) (x1 : Int32) (μ2 : jM), f + d = 10 → oG gQ μ1 μ2 → (∀ j, j < 10 → mI μ2 49 0 j = 0) → (∀ a, a < f → mTab μ2 a (best S a)) → (∀ a, f ≤ a → a < 10 → mTab μ2 a (fun _ => none)) → J 46 [some (aR 20 0), some (aI x1), some (aI (nI f))] [] μ2 0 0 := by
          intro d
          induction d with
          | zero =>
            intro f x1 μ2 hd hG hon2 htF htN
            have hC := hC.to hG
            obtain rfl : f = 10 := by omega
            refine mj_iload_n (pc' := 47) C dX6_find_46 rfl rfl ?_
            refine mj_bipush (pc' := 49) (v := 10) C dX6_find_47 rfl rfl ?_
            refine mj_icmp_ge (tgt := 67) (pc' := 52) C dX6_find_49 (by decide) rfl (fun _ => ?_) (fun h9 => absurd (by decide) h9)
            refine mj_aload_n (pc' := 68) C dX6_find_67 rfl rfl ?_
            refine mj_iconst (pc' := 69) (v := 1) C dX6_find_68 rfl rfl ?_
            refine mj_putI (pc' := 72) C dX6_find_69 rfl (ci := 6) (f := 34) rfl (by decide) (by decide) rfl (fun _ _ => rfl) (by decide) kf_X6_132 rfl rfl hC.B.l0 ?_
            refine mj_vret C dX6_find_72 (by decide) (by decide) (by decide) ?_
            exact fin _ _ hO hG hon2 htF
          | succ d ih =>
            intro f x1 μ2 hd hG hon2 htF htN
            have hC := hC.to hG
            have hlt : f < 10 := by omega
            refine mj_iload_n (pc' := 47) C dX6_find_46 rfl rfl ?_
            refine mj_bipush (pc' := 49) (v := 10) C dX6_find_47 rfl rfl ?_
            refine mj_icmp_ge (tgt := 67) (pc' := 52) C dX6_find_49 (by decide) rfl (fun h9 => absurd h9 (nI_ge (b := 10) hlt (by decide))) (fun _ => ?_)
            refine mj_iload_n (pc' := 53) C dX6_find_52 rfl rfl ?_
            refine mj_aload_n (pc' := 54) C dX6_find_53 rfl rfl ?_
            refine mj_iload_n (pc' := 55) C dX6_find_54 rfl rfl ?_
            refine mj_iconst (pc' := 56) (v := (-1)) C dX6_find_55 rfl rfl ?_
            refine mj_callVN_2 (ci := 6) (pc' := 59) C (c_X6_goAll hst S none (fun _ => none) f (-1)) dX6_find_56 rfl km_X6_136 ki_yX6_goAll kz_yX6_goAll kn_X6 kc_yX6_goAll rfl (by decide) (by decide) ⟨rfl, by decide, by decide, by decide +kernel⟩ ⟨by decide, by decide⟩ (Nat.le_of_ble_eq_true rfl) ⟨by decide, by decide⟩ ⟨rfl, hC, hW, hlt, Or.inl ⟨rfl, rfl⟩, hon2, fun _ => htN f (Nat.le_refl _) hlt⟩ (fun r56 μ56 hq56 hm56 => ?_) (fun _ _ h9 => h9)
            obtain ⟨rfl, hO56, hz56, hT56⟩ := hq56
            dsimp only [Option.toList, List.nil_append, List.cons_append]
            refine mj_iadd (pc' := 60) C dX6_find_59 rfl ?_
            refine mj_istore_n_1 (pc' := 61) C dX6_find_60 rfl (by decide) rfl ?_
            refine mj_iinc_2 (pc' := 64) (w := 1) C dX6_find_61 rfl rfl (by decide) rfl ?_
            refine mj_goto (pc' := 46) C dX6_find_64 (by decide) ?_
            rw [nI_1]
            refine ih (f + 1) _ _ (by omega) (hG.tr (hO56.up (fun _ _ _ q => zQ_g q))) hz56 (fun a ha => ?_) (fun a h1 h2 => ?_)
            · by_cases e : a = f
              · subst e
                have h := hT56 rfl
                rw [best_cmb] at h
                exact h
              · exact mTab_same (htF a (by omega)) (fun kd z hq => hO56.2 kd 0 z (by unfold tQ at hq; unfold zQ tQ; omega))
            · exact mTab_same (htN a (by omega) h2) (fun kd z hq => hO56.2 kd 0 z (by unfold tQ at hq; unfold zQ tQ; omega))
        exact loop2 10 0 _ _ rfl oG.rf hon1 (fun a h => absurd h (Nat.not_lt_zero a)) (fun a _ h => hN a h)
      | succ d ih =>
        intro i μ1 hd hO hz
        have hC := hC.to (hO.up (fun _ _ _ q => by unfold gQ; omega))
        have hlt : i < 100 := by omega
        refine mj_iload_n (pc' := 10) C dX6_find_9 rfl rfl ?_
        refine mj_bipush (pc' := 12) (v := 100) C dX6_find_10 rfl rfl ?_
        refine mj_icmp_ge (tgt := 42) (pc' := 15) C dX6_find_12 (by decide) rfl (fun h9 => absurd h9 (nI_ge (b := 100) hlt (by decide))) (fun _ => ?_)
        refine mj_aload_n (pc' := 16) C dX6_find_15 rfl rfl ?_
        refine mj_getR (pc' := 19) C dX6_find_16 rfl (ci := 6) (f := 19) rfl (by decide) (by decide) (fun _ => rfl) (by decide) kf_X6_68 hC.B.l0 (hC.B.p 19 (by decide) rfl) ?_
        refine mj_iload_n (pc' := 20) C dX6_find_19 rfl rfl ?_
        refine mj_iconst (pc' := 21) (v := (-1)) C dX6_find_20 rfl rfl ?_
        refine mj_iast (pc' := 22) C dX6_find_21 rfl rfl (by decide) (by decide) (hC.B.l 19 (by decide) rfl) rfl (by first | assumption | omega) ?_
        refine mj_aload_n (pc' := 23) C dX6_find_22 rfl rfl ?_
        refine mj_getR (pc' := 26) C dX6_find_23 rfl (ci := 6) (f := 20) rfl (by decide) (by decide) (fun _ => rfl) (by decide) kf_X6_71 hC.B.l0 (hC.B.p 20 (by decide) rfl) ?_
        refine mj_iload_n (pc' := 27) C dX6_find_26 rfl rfl ?_
        refine mj_iconst (pc' := 28) (v := (-1)) C dX6_find_27 rfl rfl ?_
        refine mj_iast (pc' := 29) C dX6_find_28 rfl rfl (by decide) (by decide) (hC.B.l 20 (by decide) rfl) rfl (by first | assumption | omega) ?_
        refine mj_aload_n (pc' := 30) C dX6_find_29 rfl rfl ?_
        refine mj_getR (pc' := 33) C dX6_find_30 rfl (ci := 6) (f := 21) rfl (by decide) (by decide) (fun _ => rfl) (by decide) kf_X6_74 hC.B.l0 (hC.B.p 21 (by decide) rfl) ?_
        refine mj_iload_n (pc' := 34) C dX6_find_33 rfl rfl ?_
        refine mj_iconst (pc' := 35) (v := 0) C dX6_find_34 rfl rfl ?_
        refine mj_iast (pc' := 36) C dX6_find_35 rfl rfl (by decide) (by decide) (hC.B.l 21 (by decide) rfl) rfl (by first | assumption | omega) ?_
        refine mj_iinc_1 (pc' := 39) (w := 1) C dX6_find_36 rfl rfl (by decide) rfl ?_
        refine mj_goto (pc' := 9) C dX6_find_39 (by decide) ?_
        rw [nI_1]
        refine ih (i + 1) _ (by omega) (oG_sI (by omega) (oG_sI (by omega) (oG_sI (by omega) hO))) (fun z h => ?_)
        by_cases e : z = i
        · subst e
          simp [mI_sI]
        · obtain ⟨z1, z2, z3⟩ := hz z (by omega)
          simp [mI_sI, e, z1, z2, z3]
    exact loop1 100 0 _ rfl oG.rf (fun z h => absurd h (Nat.not_lt_zero z))
