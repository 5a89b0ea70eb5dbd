/-! METHODS OF THE FACE THAT SEARCH NOTHING -/
set_option maxRecDepth 20000 in
theorem c_X5_setLast {l : Launch} (hst : l.stackTraces = false) (S : jS) (f u : Int32) : jMet l yX5_setLast cX5_setLast 4 (some FieldType.int) 8 180 3 18 (fun avs μ => avs = [aR 0 0, aI f, aI u] ∧ xR S μ ∧ sW S) (fun avs μ r μ' => (o_setLast S f u).1 = 0 ∧ r = some (aI (o_setLast S f u).2.1) ∧ xR (o_setLast S f u).2.2 μ' ∧ xF μ μ') (fun avs μ E μ' => (o_setLast S f u).1 ≠ 0 ∧ E = exn (o_setLast S f u).1 ∧ xR S μ' ∧ xF μ μ') := by
  refine jMet_of hst (by decide) ?_
  intro avs μ J C hav hpre
  obtain ⟨rfl, hR, hW⟩ := hpre
  refine ⟨Nat.le_of_ble_eq_true rfl, ?_⟩
  show J 0 [some (aR 0 0), some (aI f), some (aI u), none] [] μ 0 0
  refine mj_iload_n (pc' := 1) C dX5_setLast_0 rfl rfl ?_
  refine mj_callSX_1 (pc' := 4) C (c_X5_requireFormat hst f) dX5_setLast_1 rfl km_X5_40 ks_yX5_requireFormat kn_X5 kc_yX5_requireFormat ⟨by decide, by decide, by decide +kernel⟩ ⟨by decide, by decide⟩ (by decide) ⟨by decide, by decide⟩ rfl (fun r1 μ1 hq1 hm1 => ?_) (fun E μ9 h9 => ?_) (by decide) (by decide)
  · obtain ⟨hb1, rfl, rfl⟩ := hq1
    dsimp only [Option.toList, List.nil_append, List.cons_append]
    obtain ⟨j, hj, rfl, ej⟩ := bad_of hb1 (by decide)
    refine mj_iload_n (pc' := 5) C dX5_setLast_4 rfl rfl ?_
    refine mj_iconst (pc' := 6) (v := (-1)) C dX5_setLast_5 rfl rfl ?_
    refine mj_icmp_eq (tgt := 20) (pc' := 9) C dX5_setLast_6 (by decide) rfl (fun h6 => ?_) (fun h6 => ?_)
    · have hnr : ¬ (u ≠ -1 ∧ (u < sf S 17 2 ∨ 1000 < u)) := fun h => h.1 h6
      refine mj_aload_n (pc' := 21) C dX5_setLast_20 rfl rfl ?_
      refine mj_iload_n (pc' := 22) C dX5_setLast_21 rfl rfl ?_
      refine mj_callVX_1 (ci := 5) (pc' := 25) C (c_X5_requireReadable hst S j) dX5_setLast_22 rfl km_X5_51 ki_yX5_requireReadable kz_yX5_requireReadable kn_X5 kc_yX5_requireReadable rfl (by decide) (by decide) ⟨rfl, by decide, by decide, by decide +kernel⟩ ⟨by decide, by decide⟩ (by decide) ⟨by decide, by decide⟩ ⟨rfl, hR, hj⟩ (fun r22 μ22 hq22 hm22 => ?_) (fun E μ9 h9 => ?_) (by decide) (by decide)
      · obtain ⟨hr22, rfl, rfl⟩ := hq22
        dsimp only [Option.toList, List.nil_append, List.cons_append]
        refine mj_aload_n (pc' := 26) C dX5_setLast_25 rfl rfl ?_
        refine mj_getR (pc' := 29) C dX5_setLast_26 rfl (ci := 5) (f := 0) rfl (by decide) (by decide) (fun _ => rfl) (by decide) kf_X5_9 hR.B.l0 hR.B.p00 ?_
        refine mj_iload_n (pc' := 30) C dX5_setLast_29 rfl rfl ?_
        refine mj_ialdV (pc' := 31) C dX5_setLast_30 rfl rfl (by decide) (by decide) hR.B.l1 rfl (by first | assumption | omega) (hR.last (by first | assumption | omega)) ?_
        refine mj_istore_n_3 (pc' := 32) C dX5_setLast_31 rfl (by decide) rfl ?_
        refine mj_aload_n (pc' := 33) C dX5_setLast_32 rfl rfl ?_
        refine mj_getR (pc' := 36) C dX5_setLast_33 rfl (ci := 5) (f := 0) rfl (by decide) (by decide) (fun _ => rfl) (by decide) kf_X5_9 hR.B.l0 hR.B.p00 ?_
        refine mj_iload_n (pc' := 37) C dX5_setLast_36 rfl rfl ?_
        refine mj_iload_n (pc' := 38) C dX5_setLast_37 rfl rfl ?_
        refine mj_iast (pc' := 39) C dX5_setLast_38 rfl rfl (by decide) (by decide) hR.B.l1 rfl (by first | assumption | omega) ?_
        refine mj_iload_n (pc' := 40) C dX5_setLast_39 rfl rfl ?_
        refine mj_iret C dX5_setLast_40 (by decide) (by decide) (by decide) ?_
        exact ret_of (o := o_setLast S (nI j) u) (by unfold o_setLast; rw [if_neg hb1, if_neg hnr, ej, if_neg (fun h => h hr22)]) (xR_last hR hj) (xF_sI (by decide) xF.rf)
      · obtain ⟨hb, rfl, rfl⟩ := h9
        exact thr_of (o := o_setLast S (nI j) u) (by unfold o_setLast; rw [if_neg hb1, if_neg hnr, ej, if_pos hb]) (by decide) hR xF.rf
    · refine mj_iload_n (pc' := 10) C dX5_setLast_9 rfl rfl ?_
      refine mj_aload_n (pc' := 11) C dX5_setLast_10 rfl rfl ?_
      refine mj_getV (pc' := 14) C dX5_setLast_11 rfl (ci := 5) (f := 5) rfl (by decide) (by decide) (fun _ => rfl) (by decide) kf_X5_44 hR.B.l0 hR.now ?_
      refine mj_sipush (pc' := 17) (v := 1000) C dX5_setLast_14 rfl rfl ?_
      refine mj_callSX_3 (pc' := 20) C (c_X5_requireRange hst u (sf S 17 2) 1000) dX5_setLast_17 rfl km_X5_47 ks_yX5_requireRange kn_X5 kc_yX5_requireRange ⟨by decide, by decide, by decide +kernel⟩ ⟨by decide, by decide⟩ (by decide) ⟨by decide, by decide⟩ rfl (fun r17 μ17 hq17 hm17 => ?_) (fun E μ9 h9 => ?_) (by decide) (by decide)
      · obtain ⟨hb17, rfl, rfl⟩ := hq17
        dsimp only [Option.toList, List.nil_append, List.cons_append]
        have hnr : ¬ (u ≠ -1 ∧ (u < sf S 17 2 ∨ 1000 < u)) := fun h => h.2.elim (fun q => absurd q (Int32.not_lt.mpr hb17.1)) (fun q => absurd q (Int32.not_lt.mpr hb17.2))
        refine mj_aload_n (pc' := 21) C dX5_setLast_20 rfl rfl ?_
        refine mj_iload_n (pc' := 22) C dX5_setLast_21 rfl rfl ?_
        refine mj_callVX_1 (ci := 5) (pc' := 25) C (c_X5_requireReadable hst S j) dX5_setLast_22 rfl km_X5_51 ki_yX5_requireReadable kz_yX5_requireReadable kn_X5 kc_yX5_requireReadable rfl (by decide) (by decide) ⟨rfl, by decide, by decide, by decide +kernel⟩ ⟨by decide, by decide⟩ (by decide) ⟨by decide, by decide⟩ ⟨rfl, hR, hj⟩ (fun r22 μ22 hq22 hm22 => ?_) (fun E μ9 h9 => ?_) (by decide) (by decide)
        · obtain ⟨hr22, rfl, rfl⟩ := hq22
          dsimp only [Option.toList, List.nil_append, List.cons_append]
          refine mj_aload_n (pc' := 26) C dX5_setLast_25 rfl rfl ?_
          refine mj_getR (pc' := 29) C dX5_setLast_26 rfl (ci := 5) (f := 0) rfl (by decide) (by decide) (fun _ => rfl) (by decide) kf_X5_9 hR.B.l0 hR.B.p00 ?_
          refine mj_iload_n (pc' := 30) C dX5_setLast_29 rfl rfl ?_
          refine mj_ialdV (pc' := 31) C dX5_setLast_30 rfl rfl (by decide) (by decide) hR.B.l1 rfl (by first | assumption | omega) (hR.last (by first | assumption | omega)) ?_
          refine mj_istore_n_3 (pc' := 32) C dX5_setLast_31 rfl (by decide) rfl ?_
          refine mj_aload_n (pc' := 33) C dX5_setLast_32 rfl rfl ?_
          refine mj_getR (pc' := 36) C dX5_setLast_33 rfl (ci := 5) (f := 0) rfl (by decide) (by decide) (fun _ => rfl) (by decide) kf_X5_9 hR.B.l0 hR.B.p00 ?_
          refine mj_iload_n (pc' := 37) C dX5_setLast_36 rfl rfl ?_
          refine mj_iload_n (pc' := 38) C dX5_setLast_37 rfl rfl ?_
          refine mj_iast (pc' := 39) C dX5_setLast_38 rfl rfl (by decide) (by decide) hR.B.l1 rfl (by first | assumption | omega) ?_
          refine mj_iload_n (pc' := 40) C dX5_setLast_39 rfl rfl ?_
          refine mj_iret C dX5_setLast_40 (by decide) (by decide) (by decide) ?_
          exact ret_of (o := o_setLast S (nI j) u) (by unfold o_setLast; rw [if_neg hb1, if_neg hnr, ej, if_neg (fun h => h hr22)]) (xR_last hR hj) (xF_sI (by decide) xF.rf)
        · obtain ⟨hb, rfl, rfl⟩ := h9
          exact thr_of (o := o_setLast S (nI j) u) (by unfold o_setLast; rw [if_neg hb1, if_neg hnr, ej, if_pos hb]) (by decide) hR xF.rf
      · obtain ⟨hb, rfl, rfl⟩ := h9
        exact thr_of (o := o_setLast S (nI j) u) (by unfold o_setLast; rw [if_neg hb1, if_pos ⟨h6, hb⟩]) (by decide) hR xF.rf
  · obtain ⟨hb, rfl, rfl⟩ := h9
    exact thr_of (o := o_setLast S f u) (by unfold o_setLast; rw [if_pos hb]) (by decide) hR xF.rf

set_option maxRecDepth 20000 in
theorem c_X5_law {l : Launch} (hst : l.stackTraces = false) (S : jS) (j y w q : Int32) : jMet l yX5_law cX5_law 6 none 8 180 4 24 (fun avs μ => avs = [aR 0 0, aI j, aI y, aI w, aI q] ∧ xR S μ ∧ sW S) (fun avs μ r μ' => r = none ∧ (o_law S j y w q).1 = 0 ∧ xR (o_law S j y w q).2.2 μ' ∧ xF μ μ') (fun avs μ E μ' => (o_law S j y w q).1 ≠ 0 ∧ E = exn (o_law S j y w q).1 ∧ xR S μ' ∧ xF μ μ') := by
  refine jMet_of hst (by decide) ?_
  intro avs μ J C hav hpre
  obtain ⟨rfl, hR, hW⟩ := hpre
  refine ⟨Nat.le_of_ble_eq_true rfl, ?_⟩
  show J 0 [some (aR 0 0), some (aI j), some (aI y), some (aI w), some (aI q), none] [] μ 0 0
  refine mj_aload_n (pc' := 1) C dX5_law_0 rfl rfl ?_
  refine mj_iload_n (pc' := 2) C dX5_law_1 rfl rfl ?_
  refine mj_callVX_1 (ci := 5) (pc' := 5) C (c_X5_lawAt hst S j) dX5_law_2 rfl km_X5_108 ki_yX5_lawAt kz_yX5_lawAt kn_X5 kc_yX5_lawAt rfl (by decide) (by decide) ⟨rfl, by decide, by decide, by decide +kernel⟩ ⟨by decide, by decide⟩ (by decide) ⟨by decide, by decide⟩ ⟨rfl, hR⟩ (fun r2 μ2 hq2 hm2 => ?_) (fun E μ9 h9 => ?_) (by decide) (by decide)
  · obtain ⟨hb2, rfl, rfl⟩ := hq2
    dsimp only [Option.toList, List.nil_append, List.cons_append]
    obtain ⟨a, ha, rfl, ea⟩ := bad_of hb2 (by decide)
    rw [ea]
    refine mj_astore_5 (pc' := 7) C dX5_law_5 rfl (by decide) rfl ?_
    refine mj_iload_n (pc' := 8) C dX5_law_7 rfl rfl ?_
    refine mj_iconst (pc' := 9) (v := 1) C dX5_law_8 rfl rfl ?_
    refine mj_bipush (pc' := 11) (v := 100) C dX5_law_9 rfl rfl ?_
    refine mj_callSX_3 (pc' := 14) C (c_X5_requireRange hst y 1 100) dX5_law_11 rfl km_X5_47 ks_yX5_requireRange kn_X5 kc_yX5_requireRange ⟨by decide, by decide, by decide +kernel⟩ ⟨by decide, by decide⟩ (by decide) ⟨by decide, by decide⟩ rfl (fun r11 μ11 hq11 hm11 => ?_) (fun E μ9 h9 => ?_) (by decide) (by decide)
    · obtain ⟨hb11, rfl, rfl⟩ := hq11
      dsimp only [Option.toList, List.nil_append, List.cons_append]
      refine mj_iload_n (pc' := 15) C dX5_law_14 rfl rfl ?_
      refine mj_iconst (pc' := 16) (v := 0) C dX5_law_15 rfl rfl ?_
      refine mj_sipush (pc' := 19) (v := 1000) C dX5_law_16 rfl rfl ?_
      refine mj_callSX_3 (pc' := 22) C (c_X5_requireRange hst w 0 1000) dX5_law_19 rfl km_X5_47 ks_yX5_requireRange kn_X5 kc_yX5_requireRange ⟨by decide, by decide, by decide +kernel⟩ ⟨by decide, by decide⟩ (by decide) ⟨by decide, by decide⟩ rfl (fun r19 μ19 hq19 hm19 => ?_) (fun E μ9 h9 => ?_) (by decide) (by decide)
      · obtain ⟨hb19, rfl, rfl⟩ := hq19
        dsimp only [Option.toList, List.nil_append, List.cons_append]
        refine mj_iload (pc' := 24) C dX5_law_22 rfl rfl ?_
        refine mj_iconst (pc' := 25) (v := 1) C dX5_law_24 rfl rfl ?_
        refine mj_bipush (pc' := 27) (v := 50) C dX5_law_25 rfl rfl ?_
        refine mj_callSX_3 (pc' := 30) C (c_X5_requireRange hst q 1 50) dX5_law_27 rfl km_X5_47 ks_yX5_requireRange kn_X5 kc_yX5_requireRange ⟨by decide, by decide, by decide +kernel⟩ ⟨by decide, by decide⟩ (by decide) ⟨by decide, by decide⟩ rfl (fun r27 μ27 hq27 hm27 => ?_) (fun E μ9 h9 => ?_) (by decide) (by decide)
        · obtain ⟨hb27, rfl, rfl⟩ := hq27
          dsimp only [Option.toList, List.nil_append, List.cons_append]
          have hng : ¬ ((y < 1 ∨ 100 < y) ∨ (w < 0 ∨ 1000 < w) ∨ (q < 1 ∨ 50 < q)) := by
            rintro ((h | h) | (h | h) | (h | h))
            · exact absurd h (Int32.not_lt.mpr hb11.1)
            · exact absurd h (Int32.not_lt.mpr hb11.2)
            · exact absurd h (Int32.not_lt.mpr hb19.1)
            · exact absurd h (Int32.not_lt.mpr hb19.2)
            · exact absurd h (Int32.not_lt.mpr hb27.1)
            · exact absurd h (Int32.not_lt.mpr hb27.2)
          refine mj_aload (pc' := 32) C dX5_law_30 rfl rfl ?_
          refine mj_iload_n (pc' := 33) C dX5_law_32 rfl rfl ?_
          refine mj_putI (pc' := 36) C dX5_law_33 rfl (ci := 2) (f := 0) rfl (by decide) (by decide) rfl (fun _ _ => rfl) (by decide) kf_X5_112 rfl rfl (hR.B.l10 (by first | assumption | omega)) ?_
          refine mj_aload (pc' := 38) C dX5_law_36 rfl rfl ?_
          refine mj_iload_n (pc' := 39) C dX5_law_38 rfl rfl ?_
          refine mj_putI (pc' := 42) C dX5_law_39 rfl (ci := 2) (f := 1) rfl (by decide) (by decide) rfl (fun _ _ => rfl) (by decide) kf_X5_115 rfl rfl (hR.B.l10 (by first | assumption | omega)) ?_
          refine mj_aload (pc' := 44) C dX5_law_42 rfl rfl ?_
          refine mj_iload (pc' := 46) C dX5_law_44 rfl rfl ?_
          refine mj_putI (pc' := 49) C dX5_law_46 rfl (ci := 2) (f := 2) rfl (by decide) (by decide) rfl (fun _ _ => rfl) (by decide) kf_X5_118 rfl rfl (hR.B.l10 (by first | assumption | omega)) ?_
          refine mj_vret C dX5_law_49 (by decide) (by decide) (by decide) ?_
          exact ⟨rfl, retv_of (o := o_law S (nI a) y w q) (v := 0) (by unfold o_law; rw [if_neg hb2, if_neg hng, ea]) (xR_law (xR_law (xR_law hR ha (Or.inl ⟨rfl, rfl⟩)) ha (Or.inr (Or.inl ⟨rfl, rfl⟩))) ha (Or.inr (Or.inr ⟨rfl, rfl⟩))) (xF_sI (by decide) (xF_sI (by decide) (xF_sI (by decide) xF.rf)))⟩
        · obtain ⟨hb, rfl, rfl⟩ := h9
          exact thr_of (o := o_law S (nI a) y w q) (by unfold o_law; rw [if_neg hb2, if_pos (Or.inr (Or.inr hb))]) (by decide) hR xF.rf
      · obtain ⟨hb, rfl, rfl⟩ := h9
        exact thr_of (o := o_law S (nI a) y w q) (by unfold o_law; rw [if_neg hb2, if_pos (Or.inr (Or.inl hb))]) (by decide) hR xF.rf
    · obtain ⟨hb, rfl, rfl⟩ := h9
      exact thr_of (o := o_law S (nI a) y w q) (by unfold o_law; rw [if_neg hb2, if_pos (Or.inl hb)]) (by decide) hR xF.rf
  · obtain ⟨hb, rfl, rfl⟩ := h9
    exact thr_of (o := o_law S j y w q) (by unfold o_law; rw [if_pos hb]) (by decide) hR xF.rf

set_option maxRecDepth 20000 in
theorem c_X5_hold {l : Launch} (hst : l.stackTraces = false) (S : jS) (i v : Int32) : jMet l yX5_hold cX5_hold 5 (some FieldType.boolean) 8 180 2 12 (fun avs μ => avs = [aR 0 0, aI i, aI v] ∧ xR S μ ∧ sW S ∧ (v = 0 ∨ v = 1)) (fun avs μ r μ' => (o_hold S i v).1 = 0 ∧ r = some (aI (o_hold S i v).2.1) ∧ xR (o_hold S i v).2.2 μ' ∧ xF μ μ') (fun avs μ E μ' => (o_hold S i v).1 ≠ 0 ∧ E = exn (o_hold S i v).1 ∧ xR S μ' ∧ xF μ μ') := by
  refine jMet_of hst (by decide) ?_
  intro avs μ J C hav hpre
  obtain ⟨rfl, hR, hW, hv⟩ := hpre
  refine ⟨Nat.le_of_ble_eq_true rfl, ?_⟩
  show J 0 [some (aR 0 0), some (aI i), some (aI v), none, none] [] μ 0 0
  refine mj_aload_n (pc' := 1) C dX5_hold_0 rfl rfl ?_
  refine mj_iload_n (pc' := 2) C dX5_hold_1 rfl rfl ?_
  refine mj_callVX_1 (ci := 5) (pc' := 5) C (c_X5_fileAt hst S i) dX5_hold_2 rfl km_X5_154 ki_yX5_fileAt kz_yX5_fileAt kn_X5 kc_yX5_fileAt rfl (by decide) (by decide) ⟨rfl, by decide, by decide, by decide +kernel⟩ ⟨by decide, by decide⟩ (by decide) ⟨by decide, by decide⟩ ⟨rfl, hR, hW⟩ (fun r2 μ2 hq2 hm2 => ?_) (fun E μ9 h9 => ?_) (by decide) (by decide)
  · obtain ⟨hb2, rfl, rfl⟩ := hq2
    dsimp only [Option.toList, List.nil_append, List.cons_append]
    obtain ⟨a, ha, rfl, ea⟩ := bad_of hb2 (by have := hW.1.1; omega)
    rw [ea]
    refine mj_astore_n_3 (pc' := 6) C dX5_hold_5 rfl (by decide) rfl ?_
    refine mj_aload_n (pc' := 7) C dX5_hold_6 rfl rfl ?_
    refine mj_callSX_1 (pc' := 10) C (c_X5_requireKept hst S a) dX5_hold_7 rfl km_X5_158 ks_yX5_requireKept kn_X5 kc_yX5_requireKept ⟨by decide, by decide, by decide +kernel⟩ ⟨by decide, by decide⟩ (by decide) ⟨by decide, by decide⟩ ⟨rfl, hR, ha⟩ (fun r7 μ7 hq7 hm7 => ?_) (fun E μ9 h9 => ?_) (by decide) (by decide)
    · obtain ⟨hk7, rfl, rfl⟩ := hq7
      dsimp only [Option.toList, List.nil_append, List.cons_append]
      refine mj_aload_n (pc' := 11) C dX5_hold_10 rfl rfl ?_
      refine mj_getV (pc' := 14) C dX5_hold_11 rfl (ci := 4) (f := 7) rfl (by decide) (by decide) (fun _ => rfl) (by decide) kf_X5_162 (hR.l12 (by first | assumption | omega)) (hR.fhl (by first | assumption | omega)) ?_
      refine mj_iload_n (pc' := 15) C dX5_hold_14 rfl rfl ?_
      refine mj_icmp_eq (tgt := 22) (pc' := 18) C dX5_hold_15 (by decide) rfl (fun h15 => ?_) (fun h15 => ?_)
      · have hbv : b1 (sf S 16 a ≠ v) = 0 := b1_f (fun h => h h15)
        refine mj_iconst (pc' := 23) (v := 0) C dX5_hold_22 rfl rfl ?_
        refine mj_istore_4 (pc' := 25) C dX5_hold_23 rfl (by decide) rfl ?_
        refine mj_aload_n (pc' := 26) C dX5_hold_25 rfl rfl ?_
        refine mj_iload_n (pc' := 27) C dX5_hold_26 rfl rfl ?_
        refine mj_putI (pc' := 30) C dX5_hold_27 rfl (ci := 4) (f := 7) rfl (by decide) (by decide) rfl (fun _ _ => rfl) (by decide) kf_X5_162 (by rcases hv with rfl | rfl <;> rfl) (by rcases hv with rfl | rfl <;> rfl) (hR.l12 (by first | assumption | omega)) ?_
        refine mj_iload (pc' := 32) C dX5_hold_30 rfl rfl ?_
        refine mj_zret C rfl dX5_hold_32 (by decide) (by decide) (by decide) ?_
        exact ret_of (o := o_hold S (nI a) v) (by unfold o_hold; rw [if_neg hb2, ea, if_neg (fun h => h hk7), hbv]) (xR_file hR (by omega)) (xF_sI (by decide) xF.rf)
      · have hbv : b1 (sf S 16 a ≠ v) = 1 := b1_t h15
        refine mj_iconst (pc' := 19) (v := 1) C dX5_hold_18 rfl rfl ?_
        refine mj_goto (pc' := 23) C dX5_hold_19 (by decide) ?_
        refine mj_istore_4 (pc' := 25) C dX5_hold_23 rfl (by decide) rfl ?_
        refine mj_aload_n (pc' := 26) C dX5_hold_25 rfl rfl ?_
        refine mj_iload_n (pc' := 27) C dX5_hold_26 rfl rfl ?_
        refine mj_putI (pc' := 30) C dX5_hold_27 rfl (ci := 4) (f := 7) rfl (by decide) (by decide) rfl (fun _ _ => rfl) (by decide) kf_X5_162 (by rcases hv with rfl | rfl <;> rfl) (by rcases hv with rfl | rfl <;> rfl) (hR.l12 (by first | assumption | omega)) ?_
        refine mj_iload (pc' := 32) C dX5_hold_30 rfl rfl ?_
        refine mj_zret C rfl dX5_hold_32 (by decide) (by decide) (by decide) ?_
        exact ret_of (o := o_hold S (nI a) v) (by unfold o_hold; rw [if_neg hb2, ea, if_neg (fun h => h hk7), hbv]) (xR_file hR (by omega)) (xF_sI (by decide) xF.rf)
    · obtain ⟨hb, rfl, rfl⟩ := h9
      exact thr_of (o := o_hold S (nI a) v) (by unfold o_hold; rw [if_neg hb2, ea, if_pos hb]) (by decide) hR xF.rf
  · obtain ⟨hb, rfl, rfl⟩ := h9
    exact thr_of (o := o_hold S i v) (by unfold o_hold; rw [if_pos hb]) (by decide) hR xF.rf

set_option maxRecDepth 20000 in
theorem c_X5_read {l : Launch} (hst : l.stackTraces = false) (S : jS) (i : Int32) : jMet l yX5_read cX5_read 4 (some FieldType.int) 8 180 4 24 (fun avs μ => avs = [aR 0 0, aI i] ∧ xR S μ ∧ sW S) (fun avs μ r μ' => (o_read S i).1 = 0 ∧ r = some (aI (o_read S i).2.1) ∧ xR (o_read S i).2.2 μ' ∧ xF μ μ') (fun avs μ E μ' => (o_read S i).1 ≠ 0 ∧ E = exn (o_read S i).1 ∧ xR S μ' ∧ xF μ μ') := by
  refine jMet_of hst (by decide) ?_
  intro avs μ J C hav hpre
  obtain ⟨rfl, hR, hW⟩ := hpre
  refine ⟨Nat.le_of_ble_eq_true rfl, ?_⟩
  show J 0 [some (aR 0 0), some (aI i), none, none] [] μ 0 0
  refine mj_aload_n (pc' := 1) C dX5_read_0 rfl rfl ?_
  refine mj_iload_n (pc' := 2) C dX5_read_1 rfl rfl ?_
  refine mj_callVX_1 (ci := 5) (pc' := 5) C (c_X5_fileAt hst S i) dX5_read_2 rfl km_X5_154 ki_yX5_fileAt kz_yX5_fileAt kn_X5 kc_yX5_fileAt rfl (by decide) (by decide) ⟨rfl, by decide, by decide, by decide +kernel⟩ ⟨by decide, by decide⟩ (by decide) ⟨by decide, by decide⟩ ⟨rfl, hR, hW⟩ (fun r2 μ2 hq2 hm2 => ?_) (fun E μ9 h9 => ?_) (by decide) (by decide)
  · obtain ⟨hb2, rfl, rfl⟩ := hq2
    dsimp only [Option.toList, List.nil_append, List.cons_append]
    obtain ⟨a, ha, rfl, ea⟩ := bad_of hb2 (by have := hW.1.1; omega)
    rw [ea]
    obtain ⟨u, hu, eu, pu⟩ := hR.flw ha
    obtain ⟨g, hg, eg⟩ := (hW.2.2.1 a ha).1
    have efL : fL S a = u := by unfold fL; rw [eu]; exact ix_nI (by omega)
    have efF : fF S a = g := by unfold fF; rw [eg]; exact ix_nI (by omega)
    refine mj_astore_n_2 (pc' := 6) C dX5_read_5 rfl (by decide) rfl ?_
    refine mj_aload_n (pc' := 7) C dX5_read_6 rfl rfl ?_
    refine mj_callSX_1 (pc' := 10) C (c_X5_requireKept hst S a) dX5_read_7 rfl km_X5_158 ks_yX5_requireKept kn_X5 kc_yX5_requireKept ⟨by decide, by decide, by decide +kernel⟩ ⟨by decide, by decide⟩ (by decide) ⟨by decide, by decide⟩ ⟨rfl, hR, ha⟩ (fun r7 μ7 hq7 hm7 => ?_) (fun E μ9 h9 => ?_) (by decide) (by decide)
    · obtain ⟨hk7, rfl, rfl⟩ := hq7
      dsimp only [Option.toList, List.nil_append, List.cons_append]
      refine mj_aload_n (pc' := 11) C dX5_read_10 rfl rfl ?_
      refine mj_aload_n (pc' := 12) C dX5_read_11 rfl rfl ?_
      refine mj_getV (pc' := 15) C dX5_read_12 rfl (ci := 4) (f := 3) rfl (by decide) (by decide) (fun _ => rfl) (by decide) kf_X5_165 (hR.l12 (by first | assumption | omega)) (hR.ffm (by first | assumption | omega)) ?_
      rw [eg]
      refine mj_callVX_1 (ci := 5) (pc' := 18) C (c_X5_requireReadable hst S g) dX5_read_15 rfl km_X5_51 ki_yX5_requireReadable kz_yX5_requireReadable kn_X5 kc_yX5_requireReadable rfl (by decide) (by decide) ⟨rfl, by decide, by decide, by decide +kernel⟩ ⟨by decide, by decide⟩ (by decide) ⟨by decide, by decide⟩ ⟨rfl, hR, hg⟩ (fun r15 μ15 hq15 hm15 => ?_) (fun E μ9 h9 => ?_) (by decide) (by decide)
      · obtain ⟨hr15, rfl, rfl⟩ := hq15
        dsimp only [Option.toList, List.nil_append, List.cons_append]
        refine mj_aload_n (pc' := 19) C dX5_read_18 rfl rfl ?_
        refine mj_getV (pc' := 22) C dX5_read_19 rfl (ci := 4) (f := 4) rfl (by decide) (by decide) (fun _ => rfl) (by decide) kf_X5_168 (hR.l12 (by first | assumption | omega)) (hR.fq (by first | assumption | omega)) ?_
        refine mj_aload_n (pc' := 23) C dX5_read_22 rfl rfl ?_
        refine mj_getR (pc' := 26) C dX5_read_23 rfl (ci := 4) (f := 1) rfl (by decide) (by decide) (fun _ => rfl) (by decide) kf_X5_170 (hR.l12 (by first | assumption | omega)) pu ?_
        refine mj_getV (pc' := 29) C dX5_read_26 rfl (ci := 2) (f := 1) rfl (by decide) (by decide) (fun _ => rfl) (by decide) kf_X5_115 (hR.B.l10 (by first | assumption | omega)) (hR.ll (by first | assumption | omega)) ?_
        refine mj_icmp_ge (tgt := 42) (pc' := 32) C dX5_read_29 (by decide) rfl (fun h29 => ?_) (fun h29 => ?_)
        · have hno : ¬ (sf S 15 a ≠ 0 ∨ ¬ canR S (fF S a) ∨ sf S 12 a < sf S 7 (fL S a)) := by rw [efF, efL]; rintro (h | h | h); exact h hk7; exact h hr15; exact absurd h (Int32.not_lt.mpr h29)
          refine mj_aload_n (pc' := 43) C dX5_read_42 rfl rfl ?_
          refine mj_getV (pc' := 46) C dX5_read_43 rfl (ci := 5) (f := 5) rfl (by decide) (by decide) (fun _ => rfl) (by decide) kf_X5_44 hR.B.l0 hR.now ?_
          refine mj_aload_n (pc' := 47) C dX5_read_46 rfl rfl ?_
          refine mj_getV (pc' := 50) C dX5_read_47 rfl (ci := 4) (f := 5) rfl (by decide) (by decide) (fun _ => rfl) (by decide) kf_X5_176 (hR.l12 (by first | assumption | omega)) (hR.frd (by first | assumption | omega)) ?_
          refine mj_isub (pc' := 51) C dX5_read_50 rfl ?_
          refine mj_istore_n_3 (pc' := 52) C dX5_read_51 rfl (by decide) rfl ?_
          refine mj_aload_n (pc' := 53) C dX5_read_52 rfl rfl ?_
          refine mj_aload_n (pc' := 54) C dX5_read_53 rfl rfl ?_
          refine mj_getV (pc' := 57) C dX5_read_54 rfl (ci := 5) (f := 5) rfl (by decide) (by decide) (fun _ => rfl) (by decide) kf_X5_44 hR.B.l0 hR.now ?_
          refine mj_putI (pc' := 60) C dX5_read_57 rfl (ci := 4) (f := 5) rfl (by decide) (by decide) rfl (fun _ _ => rfl) (by decide) kf_X5_176 rfl rfl (hR.l12 (by first | assumption | omega)) ?_
          refine mj_iload_n (pc' := 61) C dX5_read_60 rfl rfl ?_
          refine mj_iret C dX5_read_61 (by decide) (by decide) (by decide) ?_
          exact ret_of (o := o_read S (nI a)) (by unfold o_read; rw [if_neg hb2, ea, if_neg hno]) (xR_file hR (by omega)) (xF_sI (by decide) xF.rf)
        · refine mj_throw C (text := "the quality is below the least one of the law") (names := ["java/lang/RuntimeException", "java/lang/Exception"]) dX5_read_32 dX5_read_35 dX5_read_36 dX5_read_38 dX5_read_41 rfl rfl kl_X5_64 kn_ISE thrw_3 thrk_3 (by decide) (by decide) (by decide) (by decide) (by decide) (by decide) (by decide) ?_
          exact thr_of (o := o_read S (nI a)) (by unfold o_read; rw [if_neg hb2, ea, efL, if_pos (Or.inr (Or.inr (Int32.not_le.mp h29)))]) (by decide) hR xF.rf
      · obtain ⟨hb, rfl, rfl⟩ := h9
        exact thr_of (o := o_read S (nI a)) (by unfold o_read; rw [if_neg hb2, ea, efF, if_pos (Or.inr (Or.inl hb))]) (by decide) hR xF.rf
    · obtain ⟨hb, rfl, rfl⟩ := h9
      exact thr_of (o := o_read S (nI a)) (by unfold o_read; rw [if_neg hb2, ea, if_pos (Or.inl hb)]) (by decide) hR xF.rf
  · obtain ⟨hb, rfl, rfl⟩ := h9
    exact thr_of (o := o_read S i) (by unfold o_read; rw [if_pos hb]) (by decide) hR xF.rf

set_option maxRecDepth 20000 in
theorem c_X5_stateOf {l : Launch} (hst : l.stackTraces = false) (S : jS) (i : Int32) : jMet l yX5_stateOf cX5_stateOf 2 (some FieldType.int) 8 180 1 6 (fun avs μ => avs = [aR 0 0, aI i] ∧ xR S μ ∧ sW S) (fun avs μ r μ' => (o_get S 15 i).1 = 0 ∧ r = some (aI (o_get S 15 i).2.1) ∧ xR (o_get S 15 i).2.2 μ' ∧ xF μ μ') (fun avs μ E μ' => (o_get S 15 i).1 ≠ 0 ∧ E = exn (o_get S 15 i).1 ∧ xR S μ' ∧ xF μ μ') := by
  refine jMet_of hst (by decide) ?_
  intro avs μ J C hav hpre
  obtain ⟨rfl, hR, hW⟩ := hpre
  refine ⟨Nat.le_of_ble_eq_true rfl, ?_⟩
  show J 0 [some (aR 0 0), some (aI i)] [] μ 0 0
  refine mj_aload_n (pc' := 1) C dX5_stateOf_0 rfl rfl ?_
  refine mj_iload_n (pc' := 2) C dX5_stateOf_1 rfl rfl ?_
  refine mj_callVX_1 (ci := 5) (pc' := 5) C (c_X5_fileAt hst S i) dX5_stateOf_2 rfl km_X5_154 ki_yX5_fileAt kz_yX5_fileAt kn_X5 kc_yX5_fileAt rfl (by decide) (by decide) ⟨rfl, by decide, by decide, by decide +kernel⟩ ⟨by decide, by decide⟩ (by decide) ⟨by decide, by decide⟩ ⟨rfl, hR, hW⟩ (fun r2 μ2 hq2 hm2 => ?_) (fun E μ9 h9 => ?_) (by decide) (by decide)
  · obtain ⟨hb2, rfl, rfl⟩ := hq2
    dsimp only [Option.toList, List.nil_append, List.cons_append]
    obtain ⟨a, ha, rfl, ea⟩ := bad_of hb2 (by have := hW.1.1; omega)
    rw [ea]
    refine mj_getV (pc' := 8) C dX5_stateOf_5 rfl (ci := 4) (f := 6) rfl (by decide) (by decide) (fun _ => rfl) (by decide) kf_X5_203 (hR.l12 (by first | assumption | omega)) (hR.fst (by first | assumption | omega)) ?_
    refine mj_iret C dX5_stateOf_8 (by decide) (by decide) (by decide) ?_
    exact ret_of (o := o_get S 15 (nI a)) (by unfold o_get; rw [if_neg hb2, ea]) hR xF.rf
  · obtain ⟨hb, rfl, rfl⟩ := h9
    exact thr_of (o := o_get S 15 i) (by unfold o_get; rw [if_pos hb]) (by decide) hR xF.rf

set_option maxRecDepth 20000 in
theorem c_X5_formatOf {l : Launch} (hst : l.stackTraces = false) (S : jS) (i : Int32) : jMet l yX5_formatOf cX5_formatOf 2 (some FieldType.int) 8 180 1 6 (fun avs μ => avs = [aR 0 0, aI i] ∧ xR S μ ∧ sW S) (fun avs μ r μ' => (o_get S 9 i).1 = 0 ∧ r = some (aI (o_get S 9 i).2.1) ∧ xR (o_get S 9 i).2.2 μ' ∧ xF μ μ') (fun avs μ E μ' => (o_get S 9 i).1 ≠ 0 ∧ E = exn (o_get S 9 i).1 ∧ xR S μ' ∧ xF μ μ') := by
  refine jMet_of hst (by decide) ?_
  intro avs μ J C hav hpre
  obtain ⟨rfl, hR, hW⟩ := hpre
  refine ⟨Nat.le_of_ble_eq_true rfl, ?_⟩
  show J 0 [some (aR 0 0), some (aI i)] [] μ 0 0
  refine mj_aload_n (pc' := 1) C dX5_formatOf_0 rfl rfl ?_
  refine mj_iload_n (pc' := 2) C dX5_formatOf_1 rfl rfl ?_
  refine mj_callVX_1 (ci := 5) (pc' := 5) C (c_X5_fileAt hst S i) dX5_formatOf_2 rfl km_X5_154 ki_yX5_fileAt kz_yX5_fileAt kn_X5 kc_yX5_fileAt rfl (by decide) (by decide) ⟨rfl, by decide, by decide, by decide +kernel⟩ ⟨by decide, by decide⟩ (by decide) ⟨by decide, by decide⟩ ⟨rfl, hR, hW⟩ (fun r2 μ2 hq2 hm2 => ?_) (fun E μ9 h9 => ?_) (by decide) (by decide)
  · obtain ⟨hb2, rfl, rfl⟩ := hq2
    dsimp only [Option.toList, List.nil_append, List.cons_append]
    obtain ⟨a, ha, rfl, ea⟩ := bad_of hb2 (by have := hW.1.1; omega)
    rw [ea]
    refine mj_getV (pc' := 8) C dX5_formatOf_5 rfl (ci := 4) (f := 3) rfl (by decide) (by decide) (fun _ => rfl) (by decide) kf_X5_165 (hR.l12 (by first | assumption | omega)) (hR.ffm (by first | assumption | omega)) ?_
    refine mj_iret C dX5_formatOf_8 (by decide) (by decide) (by decide) ?_
    exact ret_of (o := o_get S 9 (nI a)) (by unfold o_get; rw [if_neg hb2, ea]) hR xF.rf
  · obtain ⟨hb, rfl, rfl⟩ := h9
    exact thr_of (o := o_get S 9 i) (by unfold o_get; rw [if_pos hb]) (by decide) hR xF.rf

set_option maxRecDepth 20000 in
theorem c_X5_qualityOf {l : Launch} (hst : l.stackTraces = false) (S : jS) (i : Int32) : jMet l yX5_qualityOf cX5_qualityOf 2 (some FieldType.int) 8 180 1 6 (fun avs μ => avs = [aR 0 0, aI i] ∧ xR S μ ∧ sW S) (fun avs μ r μ' => (o_get S 12 i).1 = 0 ∧ r = some (aI (o_get S 12 i).2.1) ∧ xR (o_get S 12 i).2.2 μ' ∧ xF μ μ') (fun avs μ E μ' => (o_get S 12 i).1 ≠ 0 ∧ E = exn (o_get S 12 i).1 ∧ xR S μ' ∧ xF μ μ') := by
  refine jMet_of hst (by decide) ?_
  intro avs μ J C hav hpre
  obtain ⟨rfl, hR, hW⟩ := hpre
  refine ⟨Nat.le_of_ble_eq_true rfl, ?_⟩
  show J 0 [some (aR 0 0), some (aI i)] [] μ 0 0
  refine mj_aload_n (pc' := 1) C dX5_qualityOf_0 rfl rfl ?_
  refine mj_iload_n (pc' := 2) C dX5_qualityOf_1 rfl rfl ?_
  refine mj_callVX_1 (ci := 5) (pc' := 5) C (c_X5_fileAt hst S i) dX5_qualityOf_2 rfl km_X5_154 ki_yX5_fileAt kz_yX5_fileAt kn_X5 kc_yX5_fileAt rfl (by decide) (by decide) ⟨rfl, by decide, by decide, by decide +kernel⟩ ⟨by decide, by decide⟩ (by decide) ⟨by decide, by decide⟩ ⟨rfl, hR, hW⟩ (fun r2 μ2 hq2 hm2 => ?_) (fun E μ9 h9 => ?_) (by decide) (by decide)
  · obtain ⟨hb2, rfl, rfl⟩ := hq2
    dsimp only [Option.toList, List.nil_append, List.cons_append]
    obtain ⟨a, ha, rfl, ea⟩ := bad_of hb2 (by have := hW.1.1; omega)
    rw [ea]
    refine mj_getV (pc' := 8) C dX5_qualityOf_5 rfl (ci := 4) (f := 4) rfl (by decide) (by decide) (fun _ => rfl) (by decide) kf_X5_168 (hR.l12 (by first | assumption | omega)) (hR.fq (by first | assumption | omega)) ?_
    refine mj_iret C dX5_qualityOf_8 (by decide) (by decide) (by decide) ?_
    exact ret_of (o := o_get S 12 (nI a)) (by unfold o_get; rw [if_neg hb2, ea]) hR xF.rf
  · obtain ⟨hb, rfl, rfl⟩ := h9
    exact thr_of (o := o_get S 12 i) (by unfold o_get; rw [if_pos hb]) (by decide) hR xF.rf

set_option maxRecDepth 20000 in
theorem c_X5_endOf {l : Launch} (hst : l.stackTraces = false) (S : jS) (i : Int32) : jMet l yX5_endOf cX5_endOf 2 (some FieldType.int) 8 180 1 6 (fun avs μ => avs = [aR 0 0, aI i] ∧ xR S μ ∧ sW S) (fun avs μ r μ' => (o_get S 13 i).1 = 0 ∧ r = some (aI (o_get S 13 i).2.1) ∧ xR (o_get S 13 i).2.2 μ' ∧ xF μ μ') (fun avs μ E μ' => (o_get S 13 i).1 ≠ 0 ∧ E = exn (o_get S 13 i).1 ∧ xR S μ' ∧ xF μ μ') := by
  refine jMet_of hst (by decide) ?_
  intro avs μ J C hav hpre
  obtain ⟨rfl, hR, hW⟩ := hpre
  refine ⟨Nat.le_of_ble_eq_true rfl, ?_⟩
  show J 0 [some (aR 0 0), some (aI i)] [] μ 0 0
  refine mj_aload_n (pc' := 1) C dX5_endOf_0 rfl rfl ?_
  refine mj_iload_n (pc' := 2) C dX5_endOf_1 rfl rfl ?_
  refine mj_callVX_1 (ci := 5) (pc' := 5) C (c_X5_fileAt hst S i) dX5_endOf_2 rfl km_X5_154 ki_yX5_fileAt kz_yX5_fileAt kn_X5 kc_yX5_fileAt rfl (by decide) (by decide) ⟨rfl, by decide, by decide, by decide +kernel⟩ ⟨by decide, by decide⟩ (by decide) ⟨by decide, by decide⟩ ⟨rfl, hR, hW⟩ (fun r2 μ2 hq2 hm2 => ?_) (fun E μ9 h9 => ?_) (by decide) (by decide)
  · obtain ⟨hb2, rfl, rfl⟩ := hq2
    dsimp only [Option.toList, List.nil_append, List.cons_append]
    obtain ⟨a, ha, rfl, ea⟩ := bad_of hb2 (by have := hW.1.1; omega)
    rw [ea]
    refine mj_getV (pc' := 8) C dX5_endOf_5 rfl (ci := 4) (f := 2) rfl (by decide) (by decide) (fun _ => rfl) (by decide) kf_X5_210 (hR.l12 (by first | assumption | omega)) (hR.fen (by first | assumption | omega)) ?_
    refine mj_iret C dX5_endOf_8 (by decide) (by decide) (by decide) ?_
    exact ret_of (o := o_get S 13 (nI a)) (by unfold o_get; rw [if_neg hb2, ea]) hR xF.rf
  · obtain ⟨hb, rfl, rfl⟩ := h9
    exact thr_of (o := o_get S 13 i) (by unfold o_get; rw [if_pos hb]) (by decide) hR xF.rf

set_option maxRecDepth 20000 in
theorem c_X5_setBudget {l : Launch} (hst : l.stackTraces = false) (S : jS) (b : Int32) : jMet l yX5_setBudget cX5_setBudget 3 (some FieldType.int) 8 180 1 6 (fun avs μ => avs = [aR 0 0, aI b] ∧ xR S μ ∧ sW S) (fun avs μ r μ' => (o_setBudget S b).1 = 0 ∧ r = some (aI (o_setBudget S b).2.1) ∧ xR (o_setBudget S b).2.2 μ' ∧ xF μ μ') (fun avs μ E μ' => (o_setBudget S b).1 ≠ 0 ∧ E = exn (o_setBudget S b).1 ∧ xR S μ' ∧ xF μ μ') := by
  refine jMet_of hst (by decide) ?_
  intro avs μ J C hav hpre
  obtain ⟨rfl, hR, hW⟩ := hpre
  refine ⟨Nat.le_of_ble_eq_true rfl, ?_⟩
  show J 0 [some (aR 0 0), some (aI b), none] [] μ 0 0
  refine mj_iload_n (pc' := 1) C dX5_setBudget_0 rfl rfl ?_
  refine mj_iconst (pc' := 2) (v := 0) C dX5_setBudget_1 rfl rfl ?_
  refine mj_ldc (pc' := 4) C dX5_setBudget_2 rfl kk_X5_213 ?_
  refine mj_callSX_3 (pc' := 7) C (c_X5_requireRange hst b 0 1000000) dX5_setBudget_4 rfl km_X5_47 ks_yX5_requireRange kn_X5 kc_yX5_requireRange ⟨by decide, by decide, by decide +kernel⟩ ⟨by decide, by decide⟩ (by decide) ⟨by decide, by decide⟩ rfl (fun r4 μ4 hq4 hm4 => ?_) (fun E μ9 h9 => ?_) (by decide) (by decide)
  · obtain ⟨hb4, rfl, rfl⟩ := hq4
    dsimp only [Option.toList, List.nil_append, List.cons_append]
    refine mj_aload_n (pc' := 8) C dX5_setBudget_7 rfl rfl ?_
    refine mj_getV (pc' := 11) C dX5_setBudget_8 rfl (ci := 5) (f := 6) rfl (by decide) (by decide) (fun _ => rfl) (by decide) kf_X5_32 hR.B.l0 hR.bud ?_
    refine mj_istore_n_2 (pc' := 12) C dX5_setBudget_11 rfl (by decide) rfl ?_
    refine mj_aload_n (pc' := 13) C dX5_setBudget_12 rfl rfl ?_
    refine mj_iload_n (pc' := 14) C dX5_setBudget_13 rfl rfl ?_
    refine mj_putI (pc' := 17) C dX5_setBudget_14 rfl (ci := 5) (f := 6) rfl (by decide) (by decide) rfl (fun _ _ => rfl) (by decide) kf_X5_32 rfl rfl hR.B.l0 ?_
    refine mj_iload_n (pc' := 18) C dX5_setBudget_17 rfl rfl ?_
    refine mj_iret C dX5_setBudget_18 (by decide) (by decide) (by decide) ?_
    exact ret_of (o := o_setBudget S b) (by unfold o_setBudget; rw [if_neg (fun h => h.elim (fun q => absurd q (Int32.not_lt.mpr hb4.1)) (fun q => absurd q (Int32.not_lt.mpr hb4.2)))]) (xR_vault hR (by omega)) (xF_sI (by decide) xF.rf)
  · obtain ⟨hb, rfl, rfl⟩ := h9
    exact thr_of (o := o_setBudget S b) (by unfold o_setBudget; rw [if_pos hb]) (by decide) hR xF.rf

set_option maxRecDepth 20000 in
theorem c_X5_left {l : Launch} (hst : l.stackTraces = false) (S : jS) : jMet l yX5_left cX5_left 1 (some FieldType.int) 8 180 0 0 (fun avs μ => avs = [aR 0 0] ∧ xR S μ ∧ sW S) (fun avs μ r μ' => r = some (aI (sf S 17 1)) ∧ μ' = μ) (fun avs μ E μ' => False) := by
  refine jMet_of hst (by decide) ?_
  intro avs μ J C hav hpre
  obtain ⟨rfl, hR, hW⟩ := hpre
  refine ⟨Nat.le_of_ble_eq_true rfl, ?_⟩
  show J 0 [some (aR 0 0)] [] μ 0 0
  refine mj_aload_n (pc' := 1) C dX5_left_0 rfl rfl ?_
  refine mj_getV (pc' := 4) C dX5_left_1 rfl (ci := 5) (f := 7) rfl (by decide) (by decide) (fun _ => rfl) (by decide) kf_X5_36 hR.B.l0 hR.uns ?_
  refine mj_iret C dX5_left_4 (by decide) (by decide) (by decide) ?_
  exact ⟨rfl, rfl⟩

set_option maxRecDepth 20000 in
theorem c_X5_year {l : Launch} (hst : l.stackTraces = false) (S : jS) : jMet l yX5_year cX5_year 1 (some FieldType.int) 8 180 0 0 (fun avs μ => avs = [aR 0 0] ∧ xR S μ ∧ sW S) (fun avs μ r μ' => r = some (aI (sf S 17 2)) ∧ μ' = μ) (fun avs μ E μ' => False) := by
  refine jMet_of hst (by decide) ?_
  intro avs μ J C hav hpre
  obtain ⟨rfl, hR, hW⟩ := hpre
  refine ⟨Nat.le_of_ble_eq_true rfl, ?_⟩
  show J 0 [some (aR 0 0)] [] μ 0 0
  refine mj_aload_n (pc' := 1) C dX5_year_0 rfl rfl ?_
  refine mj_getV (pc' := 4) C dX5_year_1 rfl (ci := 5) (f := 5) rfl (by decide) (by decide) (fun _ => rfl) (by decide) kf_X5_44 hR.B.l0 hR.now ?_
  refine mj_iret C dX5_year_4 (by decide) (by decide) (by decide) ?_
  exact ⟨rfl, rfl⟩

set_option maxRecDepth 20000 in
theorem c_X5_isSafe {l : Launch} (hst : l.stackTraces = false) (S : jS) (i : Int32) : jMet l yX5_isSafe cX5_isSafe 3 (some FieldType.boolean) 8 180 1 6 (fun avs μ => avs = [aR 0 0, aI i] ∧ xR S μ ∧ sW S) (fun avs μ r μ' => (o_isSafe S i).1 = 0 ∧ r = some (aI (o_isSafe S i).2.1) ∧ xR (o_isSafe S i).2.2 μ' ∧ xF μ μ') (fun avs μ E μ' => (o_isSafe S i).1 ≠ 0 ∧ E = exn (o_isSafe S i).1 ∧ xR S μ' ∧ xF μ μ') := by
  refine jMet_of hst (by decide) ?_
  intro avs μ J C hav hpre
  obtain ⟨rfl, hR, hW⟩ := hpre
  refine ⟨Nat.le_of_ble_eq_true rfl, ?_⟩
  show J 0 [some (aR 0 0), some (aI i), none] [] μ 0 0
  refine mj_aload_n (pc' := 1) C dX5_isSafe_0 rfl rfl ?_
  refine mj_iload_n (pc' := 2) C dX5_isSafe_1 rfl rfl ?_
  refine mj_callVX_1 (ci := 5) (pc' := 5) C (c_X5_fileAt hst S i) dX5_isSafe_2 rfl km_X5_154 ki_yX5_fileAt kz_yX5_fileAt kn_X5 kc_yX5_fileAt rfl (by decide) (by decide) ⟨rfl, by decide, by decide, by decide +kernel⟩ ⟨by decide, by decide⟩ (by decide) ⟨by decide, by decide⟩ ⟨rfl, hR, hW⟩ (fun r2 μ2 hq2 hm2 => ?_) (fun E μ9 h9 => ?_) (by decide) (by decide)
  · obtain ⟨hb2, rfl, rfl⟩ := hq2
    dsimp only [Option.toList, List.nil_append, List.cons_append]
    obtain ⟨a, ha, rfl, ea⟩ := bad_of hb2 (by have := hW.1.1; omega)
    rw [ea]
    obtain ⟨g, hg, eg⟩ := (hW.2.2.1 a ha).1
    have efF : fF S a = g := by unfold fF; rw [eg]; exact ix_nI (by omega)
    refine mj_astore_n_2 (pc' := 6) C dX5_isSafe_5 rfl (by decide) rfl ?_
    refine mj_aload_n (pc' := 7) C dX5_isSafe_6 rfl rfl ?_
    refine mj_getV (pc' := 10) C dX5_isSafe_7 rfl (ci := 4) (f := 6) rfl (by decide) (by decide) (fun _ => rfl) (by decide) kf_X5_203 (hR.l12 (by first | assumption | omega)) (hR.fst (by first | assumption | omega)) ?_
    refine mj_if_ne (tgt := 29) (pc' := 13) C dX5_isSafe_10 (by decide) rfl (fun h10 => ?_) (fun h10 => ?_)
    · have hbv : b1 (sf S 15 a = 0 ∧ safe S a (fF S a)) = 0 := b1_f (fun h => h10 h.1)
      refine mj_iconst (pc' := 30) (v := 0) C dX5_isSafe_29 rfl rfl ?_
      refine mj_zret C rfl dX5_isSafe_30 (by decide) (by decide) (by decide) ?_
      exact ret_of (o := o_isSafe S (nI a)) (by unfold o_isSafe; rw [if_neg hb2, ea, hbv]) hR xF.rf
    · refine mj_aload_n (pc' := 14) C dX5_isSafe_13 rfl rfl ?_
      refine mj_aload_n (pc' := 15) C dX5_isSafe_14 rfl rfl ?_
      refine mj_aload_n (pc' := 16) C dX5_isSafe_15 rfl rfl ?_
      refine mj_getV (pc' := 19) C dX5_isSafe_16 rfl (ci := 4) (f := 3) rfl (by decide) (by decide) (fun _ => rfl) (by decide) kf_X5_165 (hR.l12 (by first | assumption | omega)) (hR.ffm (by first | assumption | omega)) ?_
      rw [eg]
      refine mj_callVN_2 (ci := 5) (pc' := 22) C (c_X5_isSafeIn hst S a g) dX5_isSafe_19 rfl km_X5_206 ki_yX5_isSafeIn kz_yX5_isSafeIn kn_X5 kc_yX5_isSafeIn rfl (by decide) (by decide) ⟨rfl, by decide, by decide, by decide +kernel⟩ ⟨by decide, by decide⟩ (by decide) ⟨by decide, by decide⟩ ⟨rfl, hR, hW, ha, hg⟩ (fun r19 μ19 hq19 hm19 => ?_) (fun _ _ h9 => h9)
      obtain ⟨rfl, rfl⟩ := hq19
      dsimp only [Option.toList, List.nil_append, List.cons_append]
      refine mj_if_eq (tgt := 29) (pc' := 25) C dX5_isSafe_22 (by decide) rfl (fun h22 => ?_) (fun h22 => ?_)
      · have hbv : b1 (sf S 15 a = 0 ∧ safe S a (fF S a)) = 0 := b1_f (fun h => b1_0.mp h22 (by rw [← efF]; exact h.2))
        refine mj_iconst (pc' := 30) (v := 0) C dX5_isSafe_29 rfl rfl ?_
        refine mj_zret C rfl dX5_isSafe_30 (by decide) (by decide) (by decide) ?_
        exact ret_of (o := o_isSafe S (nI a)) (by unfold o_isSafe; rw [if_neg hb2, ea, hbv]) hR xF.rf
      · have hbv : b1 (sf S 15 a = 0 ∧ safe S a (fF S a)) = 1 := b1_t ⟨h10, by rw [efF]; exact b1_n h22⟩
        refine mj_iconst (pc' := 26) (v := 1) C dX5_isSafe_25 rfl rfl ?_
        refine mj_goto (pc' := 30) C dX5_isSafe_26 (by decide) ?_
        refine mj_zret C rfl dX5_isSafe_30 (by decide) (by decide) (by decide) ?_
        exact ret_of (o := o_isSafe S (nI a)) (by unfold o_isSafe; rw [if_neg hb2, ea, hbv]) hR xF.rf
  · obtain ⟨hb, rfl, rfl⟩ := h9
    exact thr_of (o := o_isSafe S i) (by unfold o_isSafe; rw [if_pos hb]) (by decide) hR xF.rf
