set_option maxRecDepth 20000 in
theorem c_X5_converter {l : Launch} (hst : l.stackTraces = false) (S : jS) (a b lo co : Int32) : jMet l yX5_converter cX5_converter 5 (some FieldType.int) 9 220 6 60 (fun avs μ => avs = [aR 0 0, aI a, aI b, aI lo, aI co] ∧ xR S μ ∧ sW S) (fun avs μ r μ' => (o_converter S a b lo co).1 = 0 ∧ r = some (aI (o_converter S a b lo co).2.1) ∧ xR (o_converter S a b lo co).2.2 μ' ∧ xF μ μ') (fun avs μ E μ' => (o_converter S a b lo co).1 ≠ 0 ∧ E = exn (o_converter S a b lo co).1 ∧ xR S μ' ∧ xF μ μ') := by
  refine jMet_of hst (by decide) ?_
  intro avs μ J C hav hpre
  obtain ⟨rfl, hR, hW⟩ := hpre
  refine ⟨Nat.le_of_ble_eq_true rfl, ?_⟩
  show J 0 [some (aR 0 0), some (aI a), some (aI b), some (aI lo), some (aI co)] [] μ 0 0
  have hW0 := hW.1.1
  have hW1 := hW.1.2
  refine mj_iload_n (pc' := 1) C dX5_converter_0 rfl rfl ?_
  refine mj_callSX_1 (pc' := 4) C (c_X5_requireFormat hst a) dX5_converter_1 rfl km_X5_40 ks_yX5_requireFormat kn_X5 kc_yX5_requireFormat ⟨by decide, by decide, by decide +kernel⟩ ⟨by decide, by decide⟩ (Nat.le_of_ble_eq_true rfl) ⟨by decide, by decide⟩ rfl (fun r1 μ1 hq1 hm1 => ?_) (fun E μ9 h9 => ?_) (by decide) (by decide)
  · obtain ⟨hb1, rfl, hq9⟩ := hq1
    have hq9 := hq9.symm
    subst hq9
    dsimp only [Option.toList, List.nil_append, List.cons_append]
    obtain ⟨i, hi, rfl, ei⟩ := bad_of hb1 (by decide)
    refine mj_iload_n (pc' := 5) C dX5_converter_4 rfl rfl ?_
    refine mj_callSX_1 (pc' := 8) C (c_X5_requireFormat hst b) dX5_converter_5 rfl km_X5_40 ks_yX5_requireFormat kn_X5 kc_yX5_requireFormat ⟨by decide, by decide, by decide +kernel⟩ ⟨by decide, by decide⟩ (Nat.le_of_ble_eq_true rfl) ⟨by decide, by decide⟩ rfl (fun r5 μ5 hq5 hm5 => ?_) (fun E μ9 h9 => ?_) (by decide) (by decide)
    · obtain ⟨hb5, rfl, hq9⟩ := hq5
      have hq9 := hq9.symm
      subst hq9
      dsimp only [Option.toList, List.nil_append, List.cons_append]
      obtain ⟨j, hj, rfl, ej⟩ := bad_of hb5 (by decide)
      refine mj_iload_n (pc' := 9) C dX5_converter_8 rfl rfl ?_
      refine mj_iconst (pc' := 10) (v := 0) C dX5_converter_9 rfl rfl ?_
      refine mj_sipush (pc' := 13) (v := 500) C dX5_converter_10 rfl rfl ?_
      refine mj_callSX_3 (pc' := 16) C (c_X5_requireRange hst lo 0 500) dX5_converter_13 rfl km_X5_47 ks_yX5_requireRange kn_X5 kc_yX5_requireRange ⟨by decide, by decide, by decide +kernel⟩ ⟨by decide, by decide⟩ (Nat.le_of_ble_eq_true rfl) ⟨by decide, by decide⟩ rfl (fun r13 μ13 hq13 hm13 => ?_) (fun E μ9 h9 => ?_) (by decide) (by decide)
      · obtain ⟨hb13, rfl, hq9⟩ := hq13
        have hq9 := hq9.symm
        subst hq9
        dsimp only [Option.toList, List.nil_append, List.cons_append]
        refine mj_iload (pc' := 18) C dX5_converter_16 rfl rfl ?_
        refine mj_iconst (pc' := 19) (v := 0) C dX5_converter_18 rfl rfl ?_
        refine mj_bipush (pc' := 21) (v := 100) C dX5_converter_19 rfl rfl ?_
        refine mj_callSX_3 (pc' := 24) C (c_X5_requireRange hst co 0 100) dX5_converter_21 rfl km_X5_47 ks_yX5_requireRange kn_X5 kc_yX5_requireRange ⟨by decide, by decide, by decide +kernel⟩ ⟨by decide, by decide⟩ (Nat.le_of_ble_eq_true rfl) ⟨by decide, by decide⟩ rfl (fun r21 μ21 hq21 hm21 => ?_) (fun E μ9 h9 => ?_) (by decide) (by decide)
        · obtain ⟨hb21, rfl, hq9⟩ := hq21
          have hq9 := hq9.symm
          subst hq9
          dsimp only [Option.toList, List.nil_append, List.cons_append]
          refine mj_iload_n (pc' := 25) C dX5_converter_24 rfl rfl ?_
          refine mj_iload_n (pc' := 26) C dX5_converter_25 rfl rfl ?_
          refine mj_icmp_ne (tgt := 39) (pc' := 29) C dX5_converter_26 (by decide) rfl (fun h26 => ?_) (fun h26 => ?_)
          · refine mj_aload_n (pc' := 40) C dX5_converter_39 rfl rfl ?_
            refine mj_getR (pc' := 43) C dX5_converter_40 rfl (ci := 5) (f := 3) rfl (by decide) (by decide) (fun _ => rfl) (by decide) kf_X5_28 hR.B.l0 hR.B.p03 ?_
            refine mj_getV (pc' := 46) C dX5_converter_43 rfl (ci := 3) (f := 1) rfl (by decide) (by decide) (fun _ => rfl) (by decide) kf_X5_61 hR.B.l4 hR.nc ?_
            refine mj_bipush (pc' := 48) (v := 30) C dX5_converter_46 rfl rfl ?_
            refine mj_icmp_lt (tgt := 61) (pc' := 51) C dX5_converter_48 (by decide) rfl (fun h48 => ?_) (fun h48 => ?_)
            · have hn30 : sn S 1 < 30 := (nI_ltI (by omega) (by decide)).mp h48
              refine mj_aload_n (pc' := 62) C dX5_converter_61 rfl rfl ?_
              refine mj_getR (pc' := 65) C dX5_converter_62 rfl (ci := 5) (f := 3) rfl (by decide) (by decide) (fun _ => rfl) (by decide) kf_X5_28 hR.B.l0 hR.B.p03 ?_
              refine mj_new (ci := 1) (kd := 13) (pc' := 68) C dX5_converter_65 rfl rfl (by decide) (by decide) kl_X5_69 kt_X1 kn_X1 (by decide) (by decide) ?_
              rw [hR.n13]
              have hl13 : sn S 1 < mN (nw μ 13) 13 := by rw [mN_nw, if_pos rfl, hR.n13]; exact Nat.lt_succ_self _
              refine mj_dup (pc' := 69) C dX5_converter_68 rfl rfl ?_
              refine mj_aload_n (pc' := 70) C dX5_converter_69 rfl rfl ?_
              refine mj_getR (pc' := 73) C dX5_converter_70 rfl (ci := 5) (f := 3) rfl (by decide) (by decide) (fun _ => rfl) (by decide) kf_X5_28 hR.B.l0 hR.B.p03 ?_
              refine mj_getV (pc' := 76) C dX5_converter_73 rfl (ci := 3) (f := 1) rfl (by decide) (by decide) (fun _ => rfl) (by decide) kf_X5_61 hR.B.l4 hR.nc ?_
              refine mj_iload_n (pc' := 77) C dX5_converter_76 rfl rfl ?_
              refine mj_iload_n (pc' := 78) C dX5_converter_77 rfl rfl ?_
              refine mj_iload_n (pc' := 79) C dX5_converter_78 rfl rfl ?_
              refine mj_iload (pc' := 81) C dX5_converter_79 rfl rfl ?_
              refine mj_callI_5 (pc' := 84) C (c_X1_init (sn S 1) (nI (sn S 1)) (nI i) (nI j) lo co) dX5_converter_81 rfl km_X5_71 ki_yX1_init kn_X1 kc_yX1_init rfl ⟨by decide, by decide, by decide +kernel⟩ ⟨by decide, by decide⟩ (Nat.le_of_ble_eq_true rfl) ⟨by decide, by decide⟩ ⟨rfl, hl13⟩ (fun r μ81 hq81 hm81 => ?_)
              obtain ⟨rfl, e81⟩ := hq81
              have hn5 : mI (nw μ 13) 13 (sn S 1) 5 = 0 := by rw [mI_nw, if_pos ⟨rfl, by rw [hR.n13]; exact Nat.le_refl _⟩]
              have hvv := cN_v (nr := nI (sn S 1)) (f := nI i) (t := nI j) (lo := lo) (co := co) hn5
              rw [← e81] at hvv
              have cI : ∀ kd y z, ¬ (kd = 13 ∧ sn S 1 ≤ y) → mI μ81 kd y z = mI μ kd y z := fun kd y z h1 => by rw [e81, cN_I (fun q => h1 ⟨q.1, by rw [q.2]; exact Nat.le_refl _⟩), mI_nw, if_neg (fun q => h1 ⟨q.1, by have := q.2; rw [hR.n13] at this; exact this⟩)]
              have cP : ∀ kd y z, ¬ (kd = 13 ∧ sn S 1 ≤ y) → mP μ81 kd y z = mP μ kd y z := fun kd y z h1 => by rw [e81]; exact (show mP (nw μ 13) kd y z = _ by rw [mP_nw, if_neg (fun q => h1 ⟨q.1, by have := q.2; rw [hR.n13] at this; exact this⟩)])
              have cN : ∀ kd, mN μ81 kd = mN (nw μ 13) kd := fun kd => by rw [e81]; rfl
              have c6 : mP μ81 13 (sn S 1) 6 = none := by rw [e81]; exact (show mP (nw μ 13) 13 (sn S 1) 6 = none by rw [mP_nw, if_pos ⟨rfl, by rw [hR.n13]; exact Nat.le_refl _⟩])
              have hF81 : xF μ μ81 := by rw [e81]; exact xF_sI (by decide) (xF_sI (by decide) (xF_sI (by decide) (xF_sI (by decide) (xF_sI (by decide) (xF_nw (by decide) xF.rf)))))
              have hl13 : sn S 1 < mN μ81 13 := by rw [cN]; exact hl13
              have hBB : xBB μ81 := by
                obtain ⟨⟨k0, k4, k5, k6, k7, k8⟩, k11, r3, r0, r2, r3b, r4, r8⟩ := hR.BB
                have ne : ∀ kd, kd ≠ 13 → mN μ81 kd = mN μ kd := fun kd h => by rw [cN, mN_nw, if_neg h]
                refine ⟨⟨by rw [ne 0 (by decide)]; exact k0, by rw [ne 4 (by decide)]; exact k4, by rw [ne 5 (by decide)]; exact k5, by rw [ne 6 (by decide)]; exact k6, by rw [ne 7 (by decide)]; exact k7, by rw [ne 8 (by decide)]; exact k8⟩, fun i hi => by rw [ne 11 (by decide)]; exact k11 i hi, by rw [cP _ _ _ (by omega)]; exact r3, by rw [cP _ _ _ (by omega)]; exact r0, by rw [cP _ _ _ (by omega)]; exact r2, by rw [cP _ _ _ (by omega)]; exact r3b, by rw [cP _ _ _ (by omega)]; exact r4, fun i hi => by rw [cP _ _ _ (by omega)]; exact r8 i hi⟩
              obtain ⟨v0, v1, v2, v3, v4, v5⟩ := hvv
              clear e81
              refine mj_callVN_1 (ci := 3) (pc' := 87) C (c_X3_add hst (lst S i) i (sn S 1)) dX5_converter_84 rfl km_X5_74 ki_yX3_add kz_yX3_add kn_X3 kc_yX3_add rfl (by decide) (by decide) ⟨rfl, by decide, by decide, by decide +kernel⟩ ⟨by decide, by decide⟩ (Nat.le_of_ble_eq_true rfl) ⟨by decide, by decide⟩ ⟨rfl, hBB, ⟨hn30, hi⟩, hl13, (fun z hz => Nat.lt_trans (lst_s hz).1 hl13), v1, v0, ((cP 7 0 i (by omega)).trans (hR.high hi)), ((cI 4 0 1 (by omega)).trans hR.nc)⟩ (fun r84 μ84 hq84 hm84 => ?_) (fun _ _ h9 => h9)
              obtain ⟨rfl, hO84, hz84⟩ := hq84
              dsimp only [Option.toList, List.nil_append, List.cons_append]
              refine mj_iret C dX5_converter_87 (by decide) (by decide) (by decide) ?_
              refine ret_of (o := o_converter S (nI i) (nI j) lo co) (S' := sa (su (su (su (su (su S 1 (sn S 1) (nI i)) 2 (sn S 1) (nI j)) 3 (sn S 1) lo) 4 (sn S 1) co) 5 (sn S 1) 0) 1) (by unfold o_converter; rw [if_neg (fun h => h.elim hb1 hb5), if_neg (fun h => h.elim (inn hb13) (fun h => h.elim (inn hb21) h26)), if_neg (by omega)]) ?_ ?_
              · have eI : ∀ kd y z, kd ≠ 11 → mI μ84 kd y z = mI (aM μ81 (lst S i) i (sn S 1)) kd y z := fun kd y z h => hO84.2 kd y z h
                have eP : ∀ kd y z, mP μ84 kd y z = mP (aM μ81 (lst S i) i (sn S 1)) kd y z := fun kd y z => by rw [hO84.1.2.1]
                have eN : ∀ kd, mN μ84 kd = mN (nw μ 13) kd := fun kd => by rw [hO84.1.1, aM_N, cN]
                have e9 : ∀ z, mI μ84 13 (sn S 1) z = mI μ81 13 (sn S 1) z := fun z => by rw [eI 13 _ _ (by decide), aM_I, if_neg (by omega)]
                refine xR_addC (a := i) hR hi (fun kd y z h1 h2 h3 => ?_) hz84 (fun kd y z h1 h2 h3 h4 => ?_) (fun kd h => ?_) ?_ ?_ ?_ ?_ (fun h => ?_) (fun k h => ?_) ?_ ⟨?_, ?_⟩ (fun b x h => ?_) ?_ ?_
                · rw [eI kd y z h1, aM_I, if_neg h3, cI _ _ _ h2]
                · rw [eP, aM_P, if_neg h3, if_neg h2]
                  cases hl : lst S i with
                  | none => dsimp only; rw [if_neg (fun q => h4 ⟨q.1, q.2.1, q.2.2, hl⟩), cP _ _ _ (fun q => h1 ⟨q.1, Or.inl q.2⟩)]
                  | some k => dsimp only; rw [if_neg (fun q => h1 ⟨q.1, Or.inr ⟨q.2.2, by rw [hl, q.2.1]⟩⟩), cP _ _ _ (fun q => h1 ⟨q.1, Or.inl q.2⟩)]
                · rw [eN, mN_nw, if_neg h]
                · rw [eN, mN_nw, if_pos rfl, hR.n13]
                · rw [eI 4 0 1 (by decide), aM_I, if_pos ⟨rfl, rfl, rfl⟩, nI_1]
                · rw [eP, aM_P, if_neg (by omega), if_pos ⟨rfl, rfl, rfl⟩]
                · rw [eP, aM_P, if_pos ⟨rfl, rfl, rfl⟩]
                · rw [eP, aM_P, if_neg (by omega), if_neg (by omega), h]; exact if_pos ⟨rfl, rfl, rfl⟩
                · rw [eP, aM_P, if_neg (by omega), if_neg (by omega), h]; exact if_pos ⟨rfl, rfl, rfl⟩
                · rw [eP, aM_P, if_neg (by omega), if_neg (by omega)]
                  cases hl : lst S i with
                  | none => dsimp only; rw [if_neg (by omega), c6]
                  | some k => dsimp only; rw [if_neg (fun q => by have := (lst_s hl).1; omega), c6]
                · simp [sn_sa, sn_su]
                · simp [sn_sa, sn_su]
                · rw [sf_sa, sf_su, if_neg (by omega), sf_su, if_neg (by omega), sf_su, if_neg (by omega), sf_su, if_neg (by omega), sf_su, if_neg (by omega)]
                · simp [sf_sa, sf_su]
                · rw [e9, e9, e9, e9, e9, e9, v0, v1, v2, v3, v4, v5]; simp [sf_sa, sf_su]
              · have h2 : xF μ (aM μ81 (lst S i) i (sn S 1)) := by
                  cases lst S i with
                  | none => exact xF_sI (by decide) (xF_sP (by decide) (xF_sP (by decide) (xF_sP (by decide) hF81)))
                  | some k => exact xF_sI (by decide) (xF_sP (by decide) (xF_sP (by decide) (xF_sP (by decide) hF81)))
                exact h2.tr (fun kd hk => ⟨by rw [hO84.1.1], fun y z => ⟨hO84.2 kd y z (by omega), by rw [hO84.1.2.1], by rw [hO84.1.2.2]⟩⟩)
            · have hn30 : sn S 1 = 30 := by
                have h : ¬ sn S 1 < 30 := (fun q => h48 ((nI_ltI (b := 30) (by omega) (by decide)).mpr q))
                omega
              refine mj_throw C (text := "there are no more converters than 30") (names := ["java/lang/RuntimeException", "java/lang/Exception"]) dX5_converter_51 dX5_converter_54 dX5_converter_55 dX5_converter_57 dX5_converter_60 rfl rfl kl_X5_64 kn_ISE thrw_3 thrk_3 (by decide) (by decide) (by decide) (by decide) (by decide) (by decide) (by decide) ?_
              exact thr_of (o := o_converter S (nI i) (nI j) lo co) (c := 3) (by unfold o_converter; rw [if_neg (fun h => h.elim hb1 hb5), if_neg (fun h => h.elim (inn hb13) (fun h => h.elim (inn hb21) h26)), if_pos hn30]) (by decide) hR xF.rf
          · refine mj_throw C (text := "a converter leads to another format") (names := ["java/lang/RuntimeException", "java/lang/Exception"]) dX5_converter_29 dX5_converter_32 dX5_converter_33 dX5_converter_35 dX5_converter_38 rfl rfl kl_X5_54 kn_IAE thrw_2 thrk_2 (by decide) (by decide) (by decide) (by decide) (by decide) (by decide) (by decide) ?_
            exact thr_of (o := o_converter S (nI i) (nI j) lo co) (c := 2) (by unfold o_converter; rw [if_neg (fun h => h.elim hb1 hb5), if_pos (Or.inr (Or.inr h26))]) (by decide) hR xF.rf
        · obtain ⟨hb, rfl, rfl⟩ := h9
          exact thr_of (o := o_converter S (nI i) (nI j) lo co) (by unfold o_converter; rw [if_neg (fun h => h.elim hb1 hb5), if_pos (Or.inr (Or.inl hb))]) (by decide) hR xF.rf
      · obtain ⟨hb, rfl, rfl⟩ := h9
        exact thr_of (o := o_converter S (nI i) (nI j) lo co) (by unfold o_converter; rw [if_neg (fun h => h.elim hb1 hb5), if_pos (Or.inl hb)]) (by decide) hR xF.rf
    · obtain ⟨hb, rfl, rfl⟩ := h9
      exact thr_of (o := o_converter S (nI i) b lo co) (by unfold o_converter; rw [if_pos (Or.inr hb)]) (by decide) hR xF.rf
  · obtain ⟨hb, rfl, rfl⟩ := h9
    exact thr_of (o := o_converter S a b lo co) (by unfold o_converter; rw [if_pos (Or.inl hb)]) (by decide) hR xF.rf
