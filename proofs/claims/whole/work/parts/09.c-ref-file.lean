/-! THE REFERENCE: FILE -/
def fQ2 (n kd y z : Nat) : Prop := (30 ≤ kd ∧ kd ≤ 37 ∧ z = n) ∨ (kd = 20 ∧ y = 0 ∧ (z = 30 ∨ z = 35))
theorem mR_addF {S S' : jS} {μ μ' : jM} (h : mR S μ) (hO : oG (fQ2 (sn S 0)) μ μ') (hc : mI μ' 20 0 30 = nI (sn S 0 + 1)) (hv : ∀ a, 9 ≤ a → a ≤ 16 → mI μ' (21 + a) 0 (sn S 0) = sf S' a (sn S 0))
    (hs : sn S' 0 = sn S 0 + 1 ∧ sn S' 1 = sn S 1) (hf : ∀ b x, ¬ (9 ≤ b ∧ b ≤ 16 ∧ x = sn S 0) → sf S' b x = sf S b x) : mR S' μ' := by
  have hi : ∀ kd y z, ¬ fQ2 (sn S 0) kd y z → mI μ' kd y z = mI μ kd y z := hO.2
  have hcK : cK S S' := ⟨hs.2, fun a c h1 h2 => hf a c (by omega)⟩
  refine ⟨by rw [hO.1.1, hO.1.2.1]; exact h.B, ⟨by rw [hi _ _ _ (by unfold fQ2; omega), hs.2]; exact h.nc, by rw [hc, hs.1], by rw [hi _ _ _ (by unfold fQ2; omega), hf _ _ (by omega)]; exact h.bud, by rw [hi _ _ _ (by unfold fQ2; omega), hf _ _ (by omega)]; exact h.rest, by rw [hi _ _ _ (by unfold fQ2; omega), hf _ _ (by omega)]; exact h.now⟩, fun a i ha hi9 => ?_, ?_, fun j hj => by rw [hi _ _ _ (by unfold fQ2; omega)]; exact h.on hj⟩
  · by_cases q : 9 ≤ a ∧ a ≤ 16 ∧ i = sn S 0
    · obtain ⟨q1, q2, rfl⟩ := q
      exact hv a q1 q2
    · rw [hi (21 + a) 0 i (by unfold fQ2; omega), hf a i q]
      refine h.v a ha rfl ?_
      unfold sl at hi9 ⊢
      rw [hs.1, hs.2] at hi9
      by_cases e0 : a = 0
      · rw [if_pos e0] at hi9 ⊢; exact hi9
      · rw [if_neg e0] at hi9 ⊢
        by_cases e5 : a = 5
        · rw [if_pos e5] at hi9 ⊢; exact hi9
        · rw [if_neg e5] at hi9 ⊢
          by_cases e4 : a ≤ 5
          · rw [if_pos e4] at hi9 ⊢; exact hi9
          · rw [if_neg e4] at hi9 ⊢
            by_cases e8 : a ≤ 8
            · rw [if_pos e8] at hi9 ⊢; exact hi9
            · rw [if_neg e8] at hi9 ⊢; omega
  · rw [hi _ _ _ (by unfold fQ2; omega), best_cK hcK]
    exact h.found.imp id (fun q => ⟨q.1, fun a ha => mTab_same (q.2 a ha) (fun kd z hq => hi kd 0 z (by unfold tQ at hq; unfold fQ2; omega))⟩)

set_option maxRecDepth 20000 in
theorem c_X6_file {l : Launch} (hst : l.stackTraces = false) (S : jS) (f sz x : Int32) : jMet l yX6_file cX6_file 4 (some FieldType.int) 8 180 0 0 (fun avs μ => avs = [aR 20 0, aI f, aI sz, aI x] ∧ mR S μ ∧ sW S) (fun avs μ r μ' => mret (o_file S f sz x) kA r μ μ') (fun avs μ E μ' => False) := by
  refine jMet_of hst (by decide) ?_
  intro avs μ J C hav hpre
  obtain ⟨rfl, hR, hW⟩ := hpre
  refine ⟨Nat.le_of_ble_eq_true rfl, ?_⟩
  show J 0 [some (aR 20 0), some (aI f), some (aI sz), some (aI x)] [] μ 0 0
  have hW0 := hW.1.1
  have hW1 := hW.1.2
  have hR0 := hR
  refine mj_iload_n (pc' := 1) C dX6_file_0 rfl rfl ?_
  refine mj_callSN_1 (pc' := 4) C (c_X6_isNoFormat hst f) dX6_file_1 rfl km_X6_146 ks_yX6_isNoFormat kn_X6 kc_yX6_isNoFormat ⟨by decide, by decide, by decide +kernel⟩ ⟨by decide, by decide⟩ (Nat.le_of_ble_eq_true rfl) ⟨by decide, by decide⟩ rfl (fun r1 μ1 hq1 hm1 => ?_) (fun _ _ h9 => h9)
  obtain ⟨rfl, hq9⟩ := hq1
  have hq9 := hq9.symm
  subst hq9
  dsimp only [Option.toList, List.nil_append, List.cons_append]
  refine mj_if_ne (tgt := 16) (pc' := 7) C dX6_file_4 (by decide) rfl (fun h4 => ?_) (fun h4 => ?_)
  · have ho : o_file S f sz x = (1, 0, S) := by unfold o_file; rw [if_pos (Or.inl (b1_n h4))]
    refine mj_aload_n (pc' := 17) C dX6_file_16 rfl rfl ?_
    refine mj_iconst (pc' := 18) (v := 1) C dX6_file_17 rfl rfl ?_
    refine mj_callVN_1 (ci := 6) (pc' := 21) C (c_X6_fails hst S 1) dX6_file_18 rfl km_X6_150 ki_yX6_fails kz_yX6_fails kn_X6 kc_yX6_fails rfl (by decide) (by decide) ⟨rfl, by decide, by decide, by decide +kernel⟩ ⟨by decide, by decide⟩ (Nat.le_of_ble_eq_true rfl) ⟨by decide, by decide⟩ ⟨rfl, hR⟩ (fun r18 μ18 hq18 hm18 => ?_) (fun _ _ h9 => h9)
    obtain ⟨rfl, hq9⟩ := hq18
    have hq9 := hq9.symm
    subst hq9
    dsimp only [Option.toList, List.nil_append, List.cons_append]
    refine mj_iret C dX6_file_21 (by decide) (by decide) (by decide) ?_
    exact mfail ho rfl (by decide) rfl rfl (mR_x hR (Or.inl ⟨rfl, rfl⟩)) mF.rf
  · have hb1 := b1_0.mp h4
    obtain ⟨i, hi, rfl, ei⟩ := bad_of hb1 (by decide)
    refine mj_iload_n (pc' := 8) C dX6_file_7 rfl rfl ?_
    refine mj_iconst (pc' := 9) (v := 0) C dX6_file_8 rfl rfl ?_
    refine mj_iconst (pc' := 10) (v := 4) C dX6_file_9 rfl rfl ?_
    refine mj_callSN_3 (pc' := 13) C (c_X6_in hst x 0 4) dX6_file_10 rfl km_X6_108 ks_yX6_in kn_X6 kc_yX6_in ⟨by decide, by decide, by decide +kernel⟩ ⟨by decide, by decide⟩ (Nat.le_of_ble_eq_true rfl) ⟨by decide, by decide⟩ rfl (fun r10 μ10 hq10 hm10 => ?_) (fun _ _ h9 => h9)
    obtain ⟨rfl, hq9⟩ := hq10
    have hq9 := hq9.symm
    subst hq9
    dsimp only [Option.toList, List.nil_append, List.cons_append]
    refine mj_if_ne (tgt := 22) (pc' := 16) C dX6_file_13 (by decide) rfl (fun h13 => ?_) (fun h13 => ?_)
    · have hb2 : ¬ bad x 5 := (bad_in (n := 4) (by decide)).mp (b1_n h13)
      obtain ⟨j, hj, rfl, ej⟩ := bad_of hb2 (by decide)
      refine mj_iload_n (pc' := 23) C dX6_file_22 rfl rfl ?_
      refine mj_iconst (pc' := 24) (v := 1) C dX6_file_23 rfl rfl ?_
      refine mj_bipush (pc' := 26) (v := 100) C dX6_file_24 rfl rfl ?_
      refine mj_callSN_3 (pc' := 29) C (c_X6_in hst sz 1 100) dX6_file_26 rfl km_X6_108 ks_yX6_in kn_X6 kc_yX6_in ⟨by decide, by decide, by decide +kernel⟩ ⟨by decide, by decide⟩ (Nat.le_of_ble_eq_true rfl) ⟨by decide, by decide⟩ rfl (fun r26 μ26 hq26 hm26 => ?_) (fun _ _ h9 => h9)
      obtain ⟨rfl, hq9⟩ := hq26
      have hq9 := hq9.symm
      subst hq9
      dsimp only [Option.toList, List.nil_append, List.cons_append]
      refine mj_if_ne (tgt := 38) (pc' := 32) C dX6_file_29 (by decide) rfl (fun h29 => ?_) (fun h29 => ?_)
      · have hsz := inn (b1_n h29)
        refine mj_aload_n (pc' := 39) C dX6_file_38 rfl rfl ?_
        refine mj_getV (pc' := 42) C dX6_file_39 rfl (ci := 6) (f := 30) rfl (by decide) (by decide) (fun _ => rfl) (by decide) kf_X6_112 hR.B.l0 hR.nf ?_
        refine mj_bipush (pc' := 44) (v := 40) C dX6_file_42 rfl rfl ?_
        refine mj_icmp_eq (tgt := 55) (pc' := 47) C dX6_file_44 (by decide) rfl (fun h44 => ?_) (fun h44 => ?_)
        · have ho : o_file S (nI i) sz (nI j) = (3, 0, S) := by unfold o_file; rw [if_neg (fun h => h.elim hb1 hb2), if_neg hsz, if_pos (Or.inl ((nI_eq (b := 40) (by omega) (by decide)).mp h44))]
          refine mj_aload_n (pc' := 56) C dX6_file_55 rfl rfl ?_
          refine mj_iconst (pc' := 57) (v := 3) C dX6_file_56 rfl rfl ?_
          refine mj_callVN_1 (ci := 6) (pc' := 60) C (c_X6_fails hst S 3) dX6_file_57 rfl km_X6_150 ki_yX6_fails kz_yX6_fails kn_X6 kc_yX6_fails rfl (by decide) (by decide) ⟨rfl, by decide, by decide, by decide +kernel⟩ ⟨by decide, by decide⟩ (Nat.le_of_ble_eq_true rfl) ⟨by decide, by decide⟩ ⟨rfl, hR⟩ (fun r57 μ57 hq57 hm57 => ?_) (fun _ _ h9 => h9)
          obtain ⟨rfl, hq9⟩ := hq57
          have hq9 := hq9.symm
          subst hq9
          dsimp only [Option.toList, List.nil_append, List.cons_append]
          refine mj_iret C dX6_file_60 (by decide) (by decide) (by decide) ?_
          exact mfail ho rfl (by decide) rfl rfl (mR_x hR (Or.inl ⟨rfl, rfl⟩)) mF.rf
        · have hn40 : sn S 0 < 40 := by
            have q : ¬ sn S 0 = 40 := fun q => h44 (by rw [q]; rfl)
            omega
          refine mj_aload_n (pc' := 48) C dX6_file_47 rfl rfl ?_
          refine mj_iload_n (pc' := 49) C dX6_file_48 rfl rfl ?_
          refine mj_callVN_1 (ci := 6) (pc' := 52) C (c_X6_canBeRead hst S i) dX6_file_49 rfl km_X6_154 ki_yX6_canBeRead kz_yX6_canBeRead kn_X6 kc_yX6_canBeRead rfl (by decide) (by decide) ⟨rfl, by decide, by decide, by decide +kernel⟩ ⟨by decide, by decide⟩ (Nat.le_of_ble_eq_true rfl) ⟨by decide, by decide⟩ ⟨rfl, hR, hi⟩ (fun r49 μ49 hq49 hm49 => ?_) (fun _ _ h9 => h9)
          obtain ⟨rfl, hq9⟩ := hq49
          have hq9 := hq9.symm
          subst hq9
          dsimp only [Option.toList, List.nil_append, List.cons_append]
          refine mj_if_ne (tgt := 61) (pc' := 55) C dX6_file_52 (by decide) rfl (fun h52 => ?_) (fun h52 => ?_)
          · have hcr := b1_n h52
            refine mj_aload_n (pc' := 62) C dX6_file_61 rfl rfl ?_
            refine mj_iconst (pc' := 63) (v := 0) C dX6_file_62 rfl rfl ?_
            refine mj_putI (pc' := 66) C dX6_file_63 rfl (ci := 6) (f := 35) rfl (by decide) (by decide) rfl (fun _ _ => rfl) (by decide) kf_X6_105 rfl rfl hR.B.l0 ?_
            have hR := mR_x (kd := 20) (i := 0) (z := 35) (v := 0) hR (Or.inl ⟨rfl, rfl⟩)
            have o1 : oG (fQ2 (sn S 0)) μ (sI μ 20 0 35 0) := oG_sI (Or.inr ⟨rfl, rfl, Or.inr rfl⟩) oG.rf
            have z1 : mI (sI μ 20 0 35 0) 20 0 35 = nI 0 := z35
            generalize sI μ 20 0 35 0 = μ1 at hR o1 z1 ⊢
            refine mj_aload_n (pc' := 67) C dX6_file_66 rfl rfl ?_
            refine mj_getR (pc' := 70) C dX6_file_67 rfl (ci := 6) (f := 9) rfl (by decide) (by decide) (fun _ => rfl) (by decide) kf_X6_38 hR.B.l0 (hR.B.p 9 (by decide) rfl) ?_
            refine mj_aload_n (pc' := 71) C dX6_file_70 rfl rfl ?_
            refine mj_getV (pc' := 74) C dX6_file_71 rfl (ci := 6) (f := 30) rfl (by decide) (by decide) (fun _ => rfl) (by decide) kf_X6_112 hR.B.l0 hR.nf ?_
            refine mj_iload_n (pc' := 75) C dX6_file_74 rfl rfl ?_
            refine mj_iast (pc' := 76) C dX6_file_75 rfl rfl (by decide) (by decide) (hR.B.l 9 (by decide) rfl) rfl (by omega) ?_
            have hR := mR_w (v := nI i) hR 30 rfl (by omega) (Nat.le_refl (sl S 9))
            refine mj_aload_n (pc' := 77) C dX6_file_76 rfl rfl ?_
            refine mj_getR (pc' := 80) C dX6_file_77 rfl (ci := 6) (f := 10) rfl (by decide) (by decide) (fun _ => rfl) (by decide) kf_X6_41 hR.B.l0 (hR.B.p 10 (by decide) rfl) ?_
            refine mj_aload_n (pc' := 81) C dX6_file_80 rfl rfl ?_
            refine mj_getV (pc' := 84) C dX6_file_81 rfl (ci := 6) (f := 30) rfl (by decide) (by decide) (fun _ => rfl) (by decide) kf_X6_112 hR.B.l0 hR.nf ?_
            refine mj_iload_n (pc' := 85) C dX6_file_84 rfl rfl ?_
            refine mj_iast (pc' := 86) C dX6_file_85 rfl rfl (by decide) (by decide) (hR.B.l 10 (by decide) rfl) rfl (by omega) ?_
            have hR := mR_w (v := sz) hR 31 rfl (by omega) (Nat.le_refl (sl S 10))
            have e1 : sl S 9 = sn S 0 := rfl
            have e2 : sl S 10 = sn S 0 := rfl
            rw [e1, e2] at hR
            have o2 : oG (fQ2 (sn S 0)) μ1 (sI (sI μ1 30 0 (sn S 0) (nI i)) 31 0 (sn S 0) sz) := oG_sI (Or.inl ⟨by omega, by omega, rfl⟩) (oG_sI (Or.inl ⟨by omega, by omega, rfl⟩) oG.rf)
            have x30 : mI (sI (sI μ1 30 0 (sn S 0) (nI i)) 31 0 (sn S 0) sz) 30 0 (sn S 0) = (nI i) := by rw [mI_sI_n _ _ _ _ _ (by omega), mI_sI_s]
            have x31 : mI (sI (sI μ1 30 0 (sn S 0) (nI i)) 31 0 (sn S 0) sz) 31 0 (sn S 0) = sz := mI_sI_s _ _ _ _ _
            have g : ∀ kd z, kd ≠ 30 → kd ≠ 31 → mI (sI (sI μ1 30 0 (sn S 0) (nI i)) 31 0 (sn S 0) sz) kd 0 z = mI μ1 kd 0 z := fun kd z h1 h2 => by rw [mI_sI_n _ _ _ _ _ (by omega), mI_sI_n _ _ _ _ _ (by omega)]
            have z1 := (g 20 35 (by omega) (by omega)).trans z1
            clear g
            generalize (sI (sI μ1 30 0 (sn S 0) (nI i)) 31 0 (sn S 0) sz) = μ2 at hR o2 x30 x31 z1 ⊢
            refine mj_aload_n (pc' := 87) C dX6_file_86 rfl rfl ?_
            refine mj_getR (pc' := 90) C dX6_file_87 rfl (ci := 6) (f := 11) rfl (by decide) (by decide) (fun _ => rfl) (by decide) kf_X6_44 hR.B.l0 (hR.B.p 11 (by decide) rfl) ?_
            refine mj_aload_n (pc' := 91) C dX6_file_90 rfl rfl ?_
            refine mj_getV (pc' := 94) C dX6_file_91 rfl (ci := 6) (f := 30) rfl (by decide) (by decide) (fun _ => rfl) (by decide) kf_X6_112 hR.B.l0 hR.nf ?_
            refine mj_iload_n (pc' := 95) C dX6_file_94 rfl rfl ?_
            refine mj_iast (pc' := 96) C dX6_file_95 rfl rfl (by decide) (by decide) (hR.B.l 11 (by decide) rfl) rfl (by omega) ?_
            have hR := mR_w (v := nI j) hR 32 rfl (by omega) (Nat.le_refl (sl S 11))
            refine mj_aload_n (pc' := 97) C dX6_file_96 rfl rfl ?_
            refine mj_getR (pc' := 100) C dX6_file_97 rfl (ci := 6) (f := 12) rfl (by decide) (by decide) (fun _ => rfl) (by decide) kf_X6_47 hR.B.l0 (hR.B.p 12 (by decide) rfl) ?_
            refine mj_aload_n (pc' := 101) C dX6_file_100 rfl rfl ?_
            refine mj_getV (pc' := 104) C dX6_file_101 rfl (ci := 6) (f := 30) rfl (by decide) (by decide) (fun _ => rfl) (by decide) kf_X6_112 hR.B.l0 hR.nf ?_
            refine mj_sipush (pc' := 107) (v := 1000) C dX6_file_104 rfl rfl ?_
            refine mj_iast (pc' := 108) C dX6_file_107 rfl rfl (by decide) (by decide) (hR.B.l 12 (by decide) rfl) rfl (by omega) ?_
            have hR := mR_w (v := 1000) hR 33 rfl (by omega) (Nat.le_refl (sl S 12))
            have e1 : sl S 11 = sn S 0 := rfl
            have e2 : sl S 12 = sn S 0 := rfl
            rw [e1, e2] at hR
            have o3 : oG (fQ2 (sn S 0)) μ2 (sI (sI μ2 32 0 (sn S 0) (nI j)) 33 0 (sn S 0) 1000) := oG_sI (Or.inl ⟨by omega, by omega, rfl⟩) (oG_sI (Or.inl ⟨by omega, by omega, rfl⟩) oG.rf)
            have x32 : mI (sI (sI μ2 32 0 (sn S 0) (nI j)) 33 0 (sn S 0) 1000) 32 0 (sn S 0) = (nI j) := by rw [mI_sI_n _ _ _ _ _ (by omega), mI_sI_s]
            have x33 : mI (sI (sI μ2 32 0 (sn S 0) (nI j)) 33 0 (sn S 0) 1000) 33 0 (sn S 0) = 1000 := mI_sI_s _ _ _ _ _
            have g : ∀ kd z, kd ≠ 32 → kd ≠ 33 → mI (sI (sI μ2 32 0 (sn S 0) (nI j)) 33 0 (sn S 0) 1000) kd 0 z = mI μ2 kd 0 z := fun kd z h1 h2 => by rw [mI_sI_n _ _ _ _ _ (by omega), mI_sI_n _ _ _ _ _ (by omega)]
            have z1 := (g 20 35 (by omega) (by omega)).trans z1
            have x30 := (g 30 _ (by omega) (by omega)).trans x30
            have x31 := (g 31 _ (by omega) (by omega)).trans x31
            clear g
            generalize (sI (sI μ2 32 0 (sn S 0) (nI j)) 33 0 (sn S 0) 1000) = μ3 at hR o3 x30 x31 x32 x33 z1 ⊢
            refine mj_aload_n (pc' := 109) C dX6_file_108 rfl rfl ?_
            refine mj_getR (pc' := 112) C dX6_file_109 rfl (ci := 6) (f := 13) rfl (by decide) (by decide) (fun _ => rfl) (by decide) kf_X6_50 hR.B.l0 (hR.B.p 13 (by decide) rfl) ?_
            refine mj_aload_n (pc' := 113) C dX6_file_112 rfl rfl ?_
            refine mj_getV (pc' := 116) C dX6_file_113 rfl (ci := 6) (f := 30) rfl (by decide) (by decide) (fun _ => rfl) (by decide) kf_X6_112 hR.B.l0 hR.nf ?_
            refine mj_aload_n (pc' := 117) C dX6_file_116 rfl rfl ?_
            refine mj_getV (pc' := 120) C dX6_file_117 rfl (ci := 6) (f := 33) rfl (by decide) (by decide) (fun _ => rfl) (by decide) kf_X6_115 hR.B.l0 hR.now ?_
            refine mj_aload_n (pc' := 121) C dX6_file_120 rfl rfl ?_
            refine mj_getR (pc' := 124) C dX6_file_121 rfl (ci := 6) (f := 6) rfl (by decide) (by decide) (fun _ => rfl) (by decide) kf_X6_29 hR.B.l0 (hR.B.p 6 (by decide) rfl) ?_
            refine mj_iload_n (pc' := 125) C dX6_file_124 rfl rfl ?_
            refine mj_ialdV (pc' := 126) C dX6_file_125 rfl rfl (by decide) (by decide) (hR.B.l 6 (by decide) rfl) rfl (by first | assumption | omega) (hR.v 6 (by decide) rfl (by unfold sl; simp <;> first | assumption | omega)) ?_
            refine mj_iadd (pc' := 127) C dX6_file_126 rfl ?_
            refine mj_iast (pc' := 128) C dX6_file_127 rfl rfl (by decide) (by decide) (hR.B.l 13 (by decide) rfl) rfl (by omega) ?_
            have hR := mR_w (v := (sf S 17 2 + sf S 6 j)) hR 34 rfl (by omega) (Nat.le_refl (sl S 13))
            refine mj_aload_n (pc' := 129) C dX6_file_128 rfl rfl ?_
            refine mj_getR (pc' := 132) C dX6_file_129 rfl (ci := 6) (f := 14) rfl (by decide) (by decide) (fun _ => rfl) (by decide) kf_X6_53 hR.B.l0 (hR.B.p 14 (by decide) rfl) ?_
            refine mj_aload_n (pc' := 133) C dX6_file_132 rfl rfl ?_
            refine mj_getV (pc' := 136) C dX6_file_133 rfl (ci := 6) (f := 30) rfl (by decide) (by decide) (fun _ => rfl) (by decide) kf_X6_112 hR.B.l0 hR.nf ?_
            refine mj_aload_n (pc' := 137) C dX6_file_136 rfl rfl ?_
            refine mj_getV (pc' := 140) C dX6_file_137 rfl (ci := 6) (f := 33) rfl (by decide) (by decide) (fun _ => rfl) (by decide) kf_X6_115 hR.B.l0 hR.now ?_
            refine mj_iast (pc' := 141) C dX6_file_140 rfl rfl (by decide) (by decide) (hR.B.l 14 (by decide) rfl) rfl (by omega) ?_
            have hR := mR_w (v := (sf S 17 2)) hR 35 rfl (by omega) (Nat.le_refl (sl S 14))
            have e1 : sl S 13 = sn S 0 := rfl
            have e2 : sl S 14 = sn S 0 := rfl
            rw [e1, e2] at hR
            have o4 : oG (fQ2 (sn S 0)) μ3 (sI (sI μ3 34 0 (sn S 0) (sf S 17 2 + sf S 6 j)) 35 0 (sn S 0) (sf S 17 2)) := oG_sI (Or.inl ⟨by omega, by omega, rfl⟩) (oG_sI (Or.inl ⟨by omega, by omega, rfl⟩) oG.rf)
            have x34 : mI (sI (sI μ3 34 0 (sn S 0) (sf S 17 2 + sf S 6 j)) 35 0 (sn S 0) (sf S 17 2)) 34 0 (sn S 0) = (sf S 17 2 + sf S 6 j) := by rw [mI_sI_n _ _ _ _ _ (by omega), mI_sI_s]
            have x35 : mI (sI (sI μ3 34 0 (sn S 0) (sf S 17 2 + sf S 6 j)) 35 0 (sn S 0) (sf S 17 2)) 35 0 (sn S 0) = (sf S 17 2) := mI_sI_s _ _ _ _ _
            have g : ∀ kd z, kd ≠ 34 → kd ≠ 35 → mI (sI (sI μ3 34 0 (sn S 0) (sf S 17 2 + sf S 6 j)) 35 0 (sn S 0) (sf S 17 2)) kd 0 z = mI μ3 kd 0 z := fun kd z h1 h2 => by rw [mI_sI_n _ _ _ _ _ (by omega), mI_sI_n _ _ _ _ _ (by omega)]
            have z1 := (g 20 35 (by omega) (by omega)).trans z1
            have x30 := (g 30 _ (by omega) (by omega)).trans x30
            have x31 := (g 31 _ (by omega) (by omega)).trans x31
            have x32 := (g 32 _ (by omega) (by omega)).trans x32
            have x33 := (g 33 _ (by omega) (by omega)).trans x33
            clear g
            generalize (sI (sI μ3 34 0 (sn S 0) (sf S 17 2 + sf S 6 j)) 35 0 (sn S 0) (sf S 17 2)) = μ4 at hR o4 x30 x31 x32 x33 x34 x35 z1 ⊢
            refine mj_aload_n (pc' := 142) C dX6_file_141 rfl rfl ?_
            refine mj_getR (pc' := 145) C dX6_file_142 rfl (ci := 6) (f := 15) rfl (by decide) (by decide) (fun _ => rfl) (by decide) kf_X6_56 hR.B.l0 (hR.B.p 15 (by decide) rfl) ?_
            refine mj_aload_n (pc' := 146) C dX6_file_145 rfl rfl ?_
            refine mj_getV (pc' := 149) C dX6_file_146 rfl (ci := 6) (f := 30) rfl (by decide) (by decide) (fun _ => rfl) (by decide) kf_X6_112 hR.B.l0 hR.nf ?_
            refine mj_iconst (pc' := 150) (v := 0) C dX6_file_149 rfl rfl ?_
            refine mj_iast (pc' := 151) C dX6_file_150 rfl rfl (by decide) (by decide) (hR.B.l 15 (by decide) rfl) rfl (by omega) ?_
            have hR := mR_w (v := 0) hR 36 rfl (by omega) (Nat.le_refl (sl S 15))
            refine mj_aload_n (pc' := 152) C dX6_file_151 rfl rfl ?_
            refine mj_getR (pc' := 155) C dX6_file_152 rfl (ci := 6) (f := 16) rfl (by decide) (by decide) (fun _ => rfl) (by decide) kf_X6_59 hR.B.l0 (hR.B.p 16 (by decide) rfl) ?_
            refine mj_aload_n (pc' := 156) C dX6_file_155 rfl rfl ?_
            refine mj_getV (pc' := 159) C dX6_file_156 rfl (ci := 6) (f := 30) rfl (by decide) (by decide) (fun _ => rfl) (by decide) kf_X6_112 hR.B.l0 hR.nf ?_
            refine mj_iconst (pc' := 160) (v := 0) C dX6_file_159 rfl rfl ?_
            refine mj_zast (pc' := 161) C dX6_file_160 rfl rfl (by decide) (by decide) rfl (hR.B.l 16 (by decide) rfl) rfl (by omega) ?_
            have hR := mR_w (v := 0) hR 37 rfl (by omega) (Nat.le_refl (sl S 16))
            have e1 : sl S 15 = sn S 0 := rfl
            have e2 : sl S 16 = sn S 0 := rfl
            rw [e1, e2] at hR
            have o5 : oG (fQ2 (sn S 0)) μ4 (sI (sI μ4 36 0 (sn S 0) 0) 37 0 (sn S 0) 0) := oG_sI (Or.inl ⟨by omega, by omega, rfl⟩) (oG_sI (Or.inl ⟨by omega, by omega, rfl⟩) oG.rf)
            have x36 : mI (sI (sI μ4 36 0 (sn S 0) 0) 37 0 (sn S 0) 0) 36 0 (sn S 0) = 0 := by rw [mI_sI_n _ _ _ _ _ (by omega), mI_sI_s]
            have x37 : mI (sI (sI μ4 36 0 (sn S 0) 0) 37 0 (sn S 0) 0) 37 0 (sn S 0) = 0 := mI_sI_s _ _ _ _ _
            have g : ∀ kd z, kd ≠ 36 → kd ≠ 37 → mI (sI (sI μ4 36 0 (sn S 0) 0) 37 0 (sn S 0) 0) kd 0 z = mI μ4 kd 0 z := fun kd z h1 h2 => by rw [mI_sI_n _ _ _ _ _ (by omega), mI_sI_n _ _ _ _ _ (by omega)]
            have z1 := (g 20 35 (by omega) (by omega)).trans z1
            have x30 := (g 30 _ (by omega) (by omega)).trans x30
            have x31 := (g 31 _ (by omega) (by omega)).trans x31
            have x32 := (g 32 _ (by omega) (by omega)).trans x32
            have x33 := (g 33 _ (by omega) (by omega)).trans x33
            have x34 := (g 34 _ (by omega) (by omega)).trans x34
            have x35 := (g 35 _ (by omega) (by omega)).trans x35
            clear g
            generalize (sI (sI μ4 36 0 (sn S 0) 0) 37 0 (sn S 0) 0) = μ5 at hR o5 x30 x31 x32 x33 x34 x35 x36 x37 z1 ⊢
            refine mj_aload_n (pc' := 162) C dX6_file_161 rfl rfl ?_
            refine mj_dup (pc' := 163) C dX6_file_162 rfl rfl ?_
            refine mj_getV (pc' := 166) C dX6_file_163 rfl (ci := 6) (f := 30) rfl (by decide) (by decide) (fun _ => rfl) (by decide) kf_X6_112 hR.B.l0 hR.nf ?_
            refine mj_iconst (pc' := 167) (v := 1) C dX6_file_166 rfl rfl ?_
            refine mj_iadd (pc' := 168) C dX6_file_167 rfl ?_
            rw [nI_1]
            refine mj_putI (pc' := 171) C dX6_file_168 rfl (ci := 6) (f := 30) rfl (by decide) (by decide) rfl (fun _ _ => rfl) (by decide) kf_X6_112 rfl rfl hR.B.l0 ?_
            refine mj_aload_n (pc' := 172) C dX6_file_171 rfl rfl ?_
            refine mj_getV (pc' := 175) C dX6_file_172 rfl (ci := 6) (f := 30) rfl (by decide) (by decide) (fun _ => rfl) (by decide) kf_X6_112 (by rw [mN_sI]; exact hR.B.l0) (mI_sI_s _ _ _ _ _) ?_
            refine mj_iconst (pc' := 176) (v := 1) C dX6_file_175 rfl rfl ?_
            refine mj_isub (pc' := 177) C dX6_file_176 rfl ?_
            rw [nI_pred]
            refine mj_iret C dX6_file_177 (by decide) (by decide) (by decide) ?_
            have o6 : oG (fQ2 (sn S 0)) μ5 (sI μ5 20 0 30 (nI (sn S 0 + 1))) := oG_sI (Or.inr ⟨rfl, rfl, Or.inl rfl⟩) oG.rf
            have oA := ((((o1.tr o2).tr o3).tr o4).tr o5).tr o6
            have g6 : ∀ kd z, kd ≠ 20 → mI (sI μ5 20 0 30 (nI (sn S 0 + 1))) kd 0 z = mI μ5 kd 0 z := fun kd z h => mI_sI_n _ _ _ _ _ (by omega)
            refine mret_of (o := o_file S (nI i) sz (nI j)) (S' := sa (su (su (su (su (su (su (su (su S 9 (sn S 0) (nI i)) 10 (sn S 0) sz) 11 (sn S 0) (nI j)) 12 (sn S 0) 1000) 13 (sn S 0) (sf S 17 2 + sf S 6 j)) 14 (sn S 0) (sf S 17 2)) 15 (sn S 0) 0) 16 (sn S 0) 0) 0) (by unfold o_file; rw [if_neg (fun h => h.elim hb1 hb2), if_neg hsz, ei, ej, if_neg (fun h => h.elim (fun q => by omega) (fun h => h hcr))]) ((mI_sI_n _ _ _ _ _ (by omega)).trans z1) (mR_addF hR0 oA (mI_sI_s _ _ _ _ _) (fun a h1 h2 => ?_) ⟨?_, ?_⟩ (fun b x h => ?_)) (oA.mf (fun kd y z q => by unfold fQ2 at q; omega))
            · rw [g6 _ _ (by omega)]
              have e : a = 9 ∨ a = 10 ∨ a = 11 ∨ a = 12 ∨ a = 13 ∨ a = 14 ∨ a = 15 ∨ a = 16 := by omega
              rcases e with rfl | rfl | rfl | rfl | rfl | rfl | rfl | rfl
              · refine x30.trans ?_; simp [sf_sa, sf_su]
              · refine x31.trans ?_; simp [sf_sa, sf_su]
              · refine x32.trans ?_; simp [sf_sa, sf_su]
              · refine x33.trans ?_; simp [sf_sa, sf_su]
              · refine x34.trans ?_; simp [sf_sa, sf_su]
              · refine x35.trans ?_; simp [sf_sa, sf_su]
              · refine x36.trans ?_; simp [sf_sa, sf_su]
              · refine x37.trans ?_; simp [sf_sa, sf_su]
            · simp [sn_sa, sn_su]
            · simp [sn_sa, sn_su]
            · rw [sf_sa, sf_su, if_neg (by omega), sf_su, if_neg (by omega), sf_su, if_neg (by omega), sf_su, if_neg (by omega), sf_su, if_neg (by omega), sf_su, if_neg (by omega), sf_su, if_neg (by omega), sf_su, if_neg (by omega)]
          · have ho : o_file S (nI i) sz (nI j) = (3, 0, S) := by unfold o_file; rw [if_neg (fun h => h.elim hb1 hb2), if_neg hsz, ei, if_pos (Or.inr (b1_0.mp h52))]
            refine mj_aload_n (pc' := 56) C dX6_file_55 rfl rfl ?_
            refine mj_iconst (pc' := 57) (v := 3) C dX6_file_56 rfl rfl ?_
            refine mj_callVN_1 (ci := 6) (pc' := 60) C (c_X6_fails hst S 3) dX6_file_57 rfl km_X6_150 ki_yX6_fails kz_yX6_fails kn_X6 kc_yX6_fails rfl (by decide) (by decide) ⟨rfl, by decide, by decide, by decide +kernel⟩ ⟨by decide, by decide⟩ (Nat.le_of_ble_eq_true rfl) ⟨by decide, by decide⟩ ⟨rfl, hR⟩ (fun r57 μ57 hq57 hm57 => ?_) (fun _ _ h9 => h9)
            obtain ⟨rfl, hq9⟩ := hq57
            have hq9 := hq9.symm
            subst hq9
            dsimp only [Option.toList, List.nil_append, List.cons_append]
            refine mj_iret C dX6_file_60 (by decide) (by decide) (by decide) ?_
            exact mfail ho rfl (by decide) rfl rfl (mR_x hR (Or.inl ⟨rfl, rfl⟩)) mF.rf
      · have ho : o_file S (nI i) sz (nI j) = (2, 0, S) := by unfold o_file; rw [if_neg (fun h => h.elim hb1 hb2), if_pos (nin (b1_0.mp h29))]
        refine mj_aload_n (pc' := 33) C dX6_file_32 rfl rfl ?_
        refine mj_iconst (pc' := 34) (v := 2) C dX6_file_33 rfl rfl ?_
        refine mj_callVN_1 (ci := 6) (pc' := 37) C (c_X6_fails hst S 2) dX6_file_34 rfl km_X6_150 ki_yX6_fails kz_yX6_fails kn_X6 kc_yX6_fails rfl (by decide) (by decide) ⟨rfl, by decide, by decide, by decide +kernel⟩ ⟨by decide, by decide⟩ (Nat.le_of_ble_eq_true rfl) ⟨by decide, by decide⟩ ⟨rfl, hR⟩ (fun r34 μ34 hq34 hm34 => ?_) (fun _ _ h9 => h9)
        obtain ⟨rfl, hq9⟩ := hq34
        have hq9 := hq9.symm
        subst hq9
        dsimp only [Option.toList, List.nil_append, List.cons_append]
        refine mj_iret C dX6_file_37 (by decide) (by decide) (by decide) ?_
        exact mfail ho rfl (by decide) rfl rfl (mR_x hR (Or.inl ⟨rfl, rfl⟩)) mF.rf
    · have ho : o_file S (nI i) sz x = (1, 0, S) := by unfold o_file; rw [if_pos (Or.inr (Decidable.not_not.mp (fun h => b1_0.mp h13 ((bad_in (n := 4) (by decide)).mpr h))))]
      refine mj_aload_n (pc' := 17) C dX6_file_16 rfl rfl ?_
      refine mj_iconst (pc' := 18) (v := 1) C dX6_file_17 rfl rfl ?_
      refine mj_callVN_1 (ci := 6) (pc' := 21) C (c_X6_fails hst S 1) dX6_file_18 rfl km_X6_150 ki_yX6_fails kz_yX6_fails kn_X6 kc_yX6_fails rfl (by decide) (by decide) ⟨rfl, by decide, by decide, by decide +kernel⟩ ⟨by decide, by decide⟩ (Nat.le_of_ble_eq_true rfl) ⟨by decide, by decide⟩ ⟨rfl, hR⟩ (fun r18 μ18 hq18 hm18 => ?_) (fun _ _ h9 => h9)
      obtain ⟨rfl, hq9⟩ := hq18
      have hq9 := hq9.symm
      subst hq9
      dsimp only [Option.toList, List.nil_append, List.cons_append]
      refine mj_iret C dX6_file_21 (by decide) (by decide) (by decide) ?_
      exact mfail ho rfl (by decide) rfl rfl (mR_x hR (Or.inl ⟨rfl, rfl⟩)) mF.rf
