/-! THE CLASS: HAVENS, SETS OF FILES -/
/-- a set of files as bits -/
def bset (P : Nat → Bool) : Nat → Int64
  | 0 => 0
  | i + 1 => if P i = true then bset P i ||| (1 <<< ((nI i).toInt64 &&& 63)) else bset P i
noncomputable def hvB (S : jS) (i : Nat) : Bool := decide (hv S i ≠ -1)
noncomputable def sfB (S : jS) (i : Nat) : Bool := decide (safe S i (fF S i))

set_option maxRecDepth 20000 in
theorem c_X5_findHaven {l : Launch} (hst : l.stackTraces = false) (S : jS) (i : Nat) : jMet l yX5_findHaven cX5_findHaven 10 (some FieldType.int) 17 540 0 0 (fun avs μ => avs = [aR 0 0, aR 12 i] ∧ xR S μ ∧ sW S ∧ i < sn S 0) (fun avs μ r μ' => r = some (aI (hv S i)) ∧ xR S μ' ∧ xF μ μ') (fun avs μ E μ' => False) := by
  refine jMet_of hst (by decide) ?_
  intro avs μ J C hav hpre
  obtain ⟨rfl, hR, hW, hi⟩ := hpre
  refine ⟨Nat.le_of_ble_eq_true rfl, ?_⟩
  show J 0 [some (aR 0 0), some (aR 12 i), none, none, none, none, none, none, none, none] [] μ 0 0
  have hW0 := hW.1.1
  have hW1 := hW.1.2
  obtain ⟨hg, eg⟩ := fF_of hW hi
  obtain ⟨hfl, efl⟩ := fL_of hW hi
  refine mj_aload_n (pc' := 1) C dX5_findHaven_0 rfl rfl ?_
  refine mj_getV (pc' := 4) C dX5_findHaven_1 rfl (ci := 4) (f := 6) rfl (by decide) (by decide) (fun _ => rfl) (by decide) kf_X5_203 (hR.l12 (by first | assumption | omega)) (hR.fst (by first | assumption | omega)) ?_
  refine mj_if_eq (tgt := 9) (pc' := 7) C dX5_findHaven_4 (by decide) rfl (fun h4 => ?_) (fun h4 => ?_)
  · refine mj_aload_n (pc' := 10) C dX5_findHaven_9 rfl rfl ?_
    refine mj_getR (pc' := 13) C dX5_findHaven_10 rfl (ci := 5) (f := 3) rfl (by decide) (by decide) (fun _ => rfl) (by decide) kf_X5_28 hR.B.l0 hR.B.p03 ?_
    refine mj_aload_n (pc' := 14) C dX5_findHaven_13 rfl rfl ?_
    refine mj_getV (pc' := 17) C dX5_findHaven_14 rfl (ci := 4) (f := 3) rfl (by decide) (by decide) (fun _ => rfl) (by decide) kf_X5_165 (hR.l12 (by first | assumption | omega)) ((hR.ffm (by first | assumption | omega)).trans eg) ?_
    refine mj_callVN_1 (ci := 3) (pc' := 20) C (c_X3_waysFrom hst S (fF S i)) dX5_findHaven_17 rfl km_X5_121 ki_yX3_waysFrom kz_yX3_waysFrom kn_X3 kc_yX3_waysFrom rfl (by decide) (by decide) ⟨rfl, by decide, by decide, by decide +kernel⟩ ⟨by decide, by decide⟩ (Nat.le_of_ble_eq_true rfl) ⟨by decide, by decide⟩ ⟨rfl, hR, hW, hg⟩ (fun r17 μ17 hq17 hm17 => ?_) (fun _ _ h9 => h9)
    obtain ⟨rfl, hR17, hF17, hT17, hc17, hs17⟩ := hq17
    dsimp only [Option.toList, List.nil_append, List.cons_append]
    have hR := hR17
    refine mj_astore_n_2 (pc' := 21) C dX5_findHaven_20 rfl (by decide) rfl ?_
    refine mj_iconst (pc' := 22) (v := (-1)) C dX5_findHaven_21 rfl rfl ?_
    refine mj_istore_n_3 (pc' := 23) C dX5_findHaven_22 rfl (by decide) rfl ?_
    refine mj_iconst (pc' := 24) (v := (-1)) C dX5_findHaven_23 rfl rfl ?_
    refine mj_istore_4 (pc' := 26) C dX5_findHaven_24 rfl (by decide) rfl ?_
    refine mj_iconst (pc' := 27) (v := (-1)) C dX5_findHaven_26 rfl rfl ?_
    refine mj_istore_5 (pc' := 29) C dX5_findHaven_27 rfl (by decide) rfl ?_
    refine mj_iconst (pc' := 30) (v := 0) C dX5_findHaven_29 rfl rfl ?_
    refine mj_istore_6 (pc' := 32) C dX5_findHaven_30 rfl (by decide) rfl ?_
    have loop : ∀ (d : Nat) (t : Nat) (x7 x8 x9 : Option jV), t + d = 10 → J 32 [some (aR 0 0), some (aR 12 i), some (aR 11 (fF S i)), some (aI (hd' S i t).1), some (aI (hd' S i t).2.1), some (aI (hd' S i t).2.2), some (aI (nI t)), x7, x8, x9] [] μ17 0 0 := by
      intro d
      induction d with
      | zero =>
        intro t x7 x8 x9 hd
        obtain rfl : t = 10 := by omega
        refine mj_iload (pc' := 34) C dX5_findHaven_32 rfl rfl ?_
        refine mj_bipush (pc' := 36) (v := 10) C dX5_findHaven_34 rfl rfl ?_
        refine mj_icmp_ge (tgt := 150) (pc' := 39) C dX5_findHaven_36 (by decide) rfl (fun _ => ?_) (fun h9 => absurd (by decide) h9)
        refine mj_iload_n (pc' := 151) C dX5_findHaven_150 rfl rfl ?_
        refine mj_iret C dX5_findHaven_151 (by decide) (by decide) (by decide) ?_
        exact ⟨by rw [hv_k hW hi h4], hR, hF17⟩
      | succ d ih =>
        intro t x7 x8 x9 hd
        have hlt : t < 10 := by omega
        refine mj_iload (pc' := 34) C dX5_findHaven_32 rfl rfl ?_
        refine mj_bipush (pc' := 36) (v := 10) C dX5_findHaven_34 rfl rfl ?_
        refine mj_icmp_ge (tgt := 150) (pc' := 39) C dX5_findHaven_36 (by decide) rfl (fun h9 => absurd h9 (nI_ge (b := 10) hlt (by decide))) (fun _ => ?_)
        refine mj_aload_n (pc' := 40) C dX5_findHaven_39 rfl rfl ?_
        refine mj_getR (pc' := 43) C dX5_findHaven_40 rfl (ci := 0) (f := 0) rfl (by decide) (by decide) (fun _ => rfl) (by decide) kf_X5_125 (hR.B.l11 (by first | assumption | omega)) (hR.B.pq (by first | assumption | omega)) ?_
        refine mj_iload (pc' := 45) C dX5_findHaven_43 rfl rfl ?_
        refine mj_ialdV (pc' := 46) C dX5_findHaven_45 rfl rfl (by decide) (by decide) (hR.B.l14 (by first | assumption | omega)) rfl (by first | assumption | omega) (hT17 t hlt).1 ?_
        refine mj_iconst (pc' := 47) (v := (-1)) C dX5_findHaven_46 rfl rfl ?_
        refine mj_icmp_eq (tgt := 144) (pc' := 50) C dX5_findHaven_47 (by decide) rfl (fun h47 => ?_) (fun h47 => ?_)
        · have e : hd' S i (t + 1) = hd' S i t := by rw [hd_s]; exact if_neg (fun h => h.1 h47)
          have hih := fun x7 x8 x9 => ih (t + 1) x7 x8 x9 (by omega)
          rw [e] at hih
          refine mj_iinc_6 (pc' := 147) (w := 1) C dX5_findHaven_144 rfl rfl (by decide) rfl ?_
          refine mj_goto (pc' := 32) C dX5_findHaven_147 (by decide) ?_
          rw [nI_1]
          exact hih _ _ _
        · refine mj_aload_n (pc' := 51) C dX5_findHaven_50 rfl rfl ?_
          refine mj_aload_n (pc' := 52) C dX5_findHaven_51 rfl rfl ?_
          refine mj_iload (pc' := 54) C dX5_findHaven_52 rfl rfl ?_
          refine mj_callVN_2 (ci := 5) (pc' := 57) C (c_X5_isSafeIn hst S i t) dX5_findHaven_54 rfl km_X5_206 ki_yX5_isSafeIn kz_yX5_isSafeIn kn_X5 kc_yX5_isSafeIn rfl (by decide) (by decide) ⟨rfl, by decide, by decide, by decide +kernel⟩ ⟨by decide, by decide⟩ (Nat.le_of_ble_eq_true rfl) ⟨by decide, by decide⟩ ⟨rfl, hR, hW, hi, hlt⟩ (fun r54 μ54 hq54 hm54 => ?_) (fun _ _ h9 => h9)
          obtain ⟨rfl, hq9⟩ := hq54
          have hq9 := hq9.symm
          subst hq9
          dsimp only [Option.toList, List.nil_append, List.cons_append]
          refine mj_if_ne (tgt := 63) (pc' := 60) C dX5_findHaven_57 (by decide) rfl (fun h57 => ?_) (fun h57 => ?_)
          · refine mj_aload_n (pc' := 64) C dX5_findHaven_63 rfl rfl ?_
            refine mj_getR (pc' := 67) C dX5_findHaven_64 rfl (ci := 5) (f := 3) rfl (by decide) (by decide) (fun _ => rfl) (by decide) kf_X5_28 hR.B.l0 hR.B.p03 ?_
            refine mj_aload_n (pc' := 68) C dX5_findHaven_67 rfl rfl ?_
            refine mj_iload (pc' := 70) C dX5_findHaven_68 rfl rfl ?_
            refine mj_aload_n (pc' := 71) C dX5_findHaven_70 rfl rfl ?_
            refine mj_getV (pc' := 74) C dX5_findHaven_71 rfl (ci := 4) (f := 4) rfl (by decide) (by decide) (fun _ => rfl) (by decide) kf_X5_168 (hR.l12 (by first | assumption | omega)) (hR.fq (by first | assumption | omega)) ?_
            refine mj_callVN_3 (ci := 3) (pc' := 77) C (c_X3_qualityBehind hst S (fF S i) t (sf S 12 i)) dX5_findHaven_74 rfl km_X5_247 ki_yX3_qualityBehind kz_yX3_qualityBehind kn_X3 kc_yX3_qualityBehind rfl (by decide) (by decide) ⟨rfl, by decide, by decide, by decide +kernel⟩ ⟨by decide, by decide⟩ (Nat.le_of_ble_eq_true rfl) ⟨by decide, by decide⟩ ⟨rfl, hR, hW, ⟨hg, hlt⟩, hT17⟩ (fun r74 μ74 hq74 hm74 => ?_) (fun _ _ h9 => h9)
            obtain ⟨rfl, hq9⟩ := hq74
            have hq9 := hq9.symm
            subst hq9
            dsimp only [Option.toList, List.nil_append, List.cons_append]
            refine mj_istore_7 (pc' := 79) C dX5_findHaven_77 rfl (by decide) rfl ?_
            refine mj_aload_n (pc' := 80) C dX5_findHaven_79 rfl rfl ?_
            refine mj_getR (pc' := 83) C dX5_findHaven_80 rfl (ci := 0) (f := 1) rfl (by decide) (by decide) (fun _ => rfl) (by decide) kf_X5_134 (hR.B.l11 (by first | assumption | omega)) (hR.B.pc (by first | assumption | omega)) ?_
            refine mj_iload (pc' := 85) C dX5_findHaven_83 rfl rfl ?_
            refine mj_ialdV (pc' := 86) C dX5_findHaven_85 rfl rfl (by decide) (by decide) (hR.B.l15 (by first | assumption | omega)) rfl (by first | assumption | omega) (hT17 t hlt).2.1 ?_
            refine mj_istore_8 (pc' := 88) C dX5_findHaven_86 rfl (by decide) rfl ?_
            refine mj_iload (pc' := 90) C dX5_findHaven_88 rfl rfl ?_
            refine mj_iload (pc' := 92) C dX5_findHaven_90 rfl rfl ?_
            refine jn (tgt := 114) (v := aI (b1 ((hd' S i t).2.1 < (alg S (bw (best S (fF S i) t)) (sf S 12 i)) ∨ ((alg S (bw (best S (fF S i) t)) (sf S 12 i)) = (hd' S i t).2.1 ∧ (bc (best S (fF S i) t)) < (hd' S i t).2.2)))) (st := []) (fun K92 => ?_) ?_
            · refine mj_icmp_gt (tgt := 109) (pc' := 95) C dX5_findHaven_92 (by decide) rfl (fun h92 => ?_) (fun h92 => ?_)
              · have ej : b1 ((hd' S i t).2.1 < (alg S (bw (best S (fF S i) t)) (sf S 12 i)) ∨ ((alg S (bw (best S (fF S i) t)) (sf S 12 i)) = (hd' S i t).2.1 ∧ (bc (best S (fF S i) t)) < (hd' S i t).2.2)) = 1 := b1_t (Or.inl h92)
                refine mj_iconst (pc' := 110) (v := 1) C dX5_findHaven_109 rfl rfl ?_
                refine mj_goto (pc' := 114) C dX5_findHaven_110 (by decide) ?_
                rw [ej] at K92
                exact K92
              · refine mj_iload (pc' := 97) C dX5_findHaven_95 rfl rfl ?_
                refine mj_iload (pc' := 99) C dX5_findHaven_97 rfl rfl ?_
                refine mj_icmp_ne (tgt := 113) (pc' := 102) C dX5_findHaven_99 (by decide) rfl (fun h99 => ?_) (fun h99 => ?_)
                · have ej : b1 ((hd' S i t).2.1 < (alg S (bw (best S (fF S i) t)) (sf S 12 i)) ∨ ((alg S (bw (best S (fF S i) t)) (sf S 12 i)) = (hd' S i t).2.1 ∧ (bc (best S (fF S i) t)) < (hd' S i t).2.2)) = 0 := b1_f (fun h => h.elim h92 (fun h => h99 h.1))
                  refine mj_iconst (pc' := 114) (v := 0) C dX5_findHaven_113 rfl rfl ?_
                  rw [ej] at K92
                  exact K92
                · refine mj_iload (pc' := 104) C dX5_findHaven_102 rfl rfl ?_
                  refine mj_iload (pc' := 106) C dX5_findHaven_104 rfl rfl ?_
                  refine mj_icmp_ge (tgt := 113) (pc' := 109) C dX5_findHaven_106 (by decide) rfl (fun h106 => ?_) (fun h106 => ?_)
                  · have ej : b1 ((hd' S i t).2.1 < (alg S (bw (best S (fF S i) t)) (sf S 12 i)) ∨ ((alg S (bw (best S (fF S i) t)) (sf S 12 i)) = (hd' S i t).2.1 ∧ (bc (best S (fF S i) t)) < (hd' S i t).2.2)) = 0 := b1_f (fun h => h.elim h92 (fun h => absurd h.2 (Int32.not_lt.mpr h106)))
                    refine mj_iconst (pc' := 114) (v := 0) C dX5_findHaven_113 rfl rfl ?_
                    rw [ej] at K92
                    exact K92
                  · have ej : b1 ((hd' S i t).2.1 < (alg S (bw (best S (fF S i) t)) (sf S 12 i)) ∨ ((alg S (bw (best S (fF S i) t)) (sf S 12 i)) = (hd' S i t).2.1 ∧ (bc (best S (fF S i) t)) < (hd' S i t).2.2)) = 1 := b1_t (Or.inr ⟨h99, Int32.not_le.mp h106⟩)
                    refine mj_iconst (pc' := 110) (v := 1) C dX5_findHaven_109 rfl rfl ?_
                    refine mj_goto (pc' := 114) C dX5_findHaven_110 (by decide) ?_
                    rw [ej] at K92
                    exact K92
            refine mj_istore_9 (pc' := 116) C dX5_findHaven_114 rfl (by decide) rfl ?_
            refine mj_iload (pc' := 118) C dX5_findHaven_116 rfl rfl ?_
            refine mj_aload_n (pc' := 119) C dX5_findHaven_118 rfl rfl ?_
            refine mj_getR (pc' := 122) C dX5_findHaven_119 rfl (ci := 4) (f := 1) rfl (by decide) (by decide) (fun _ => rfl) (by decide) kf_X5_170 (hR.l12 (by first | assumption | omega)) (hR.lw hW hi) ?_
            refine mj_getV (pc' := 125) C dX5_findHaven_122 rfl (ci := 2) (f := 1) rfl (by decide) (by decide) (fun _ => rfl) (by decide) kf_X5_115 (hR.B.l10 (by first | assumption | omega)) (hR.ll (by first | assumption | omega)) ?_
            refine mj_icmp_lt (tgt := 144) (pc' := 128) C dX5_findHaven_125 (by decide) rfl (fun h125 => ?_) (fun h125 => ?_)
            · have e : hd' S i (t + 1) = hd' S i t := by rw [hd_s]; exact if_neg (fun h => absurd h.2.2.1 (Int32.not_le.mpr h125))
              have hih := fun x7 x8 x9 => ih (t + 1) x7 x8 x9 (by omega)
              rw [e] at hih
              refine mj_iinc_6 (pc' := 147) (w := 1) C dX5_findHaven_144 rfl rfl (by decide) rfl ?_
              refine mj_goto (pc' := 32) C dX5_findHaven_147 (by decide) ?_
              rw [nI_1]
              exact hih _ _ _
            · refine mj_iload (pc' := 130) C dX5_findHaven_128 rfl rfl ?_
              refine mj_if_eq (tgt := 144) (pc' := 133) C dX5_findHaven_130 (by decide) rfl (fun h130 => ?_) (fun h130 => ?_)
              · have e : hd' S i (t + 1) = hd' S i t := by rw [hd_s]; exact if_neg (fun h => b1_0.mp h130 h.2.2.2)
                have hih := fun x7 x8 x9 => ih (t + 1) x7 x8 x9 (by omega)
                rw [e] at hih
                refine mj_iinc_6 (pc' := 147) (w := 1) C dX5_findHaven_144 rfl rfl (by decide) rfl ?_
                refine mj_goto (pc' := 32) C dX5_findHaven_147 (by decide) ?_
                rw [nI_1]
                exact hih _ _ _
              · have e : hd' S i (t + 1) = (nI t, (alg S (bw (best S (fF S i) t)) (sf S 12 i)), (bc (best S (fF S i) t))) := by rw [hd_s]; exact if_pos ⟨h47, b1_n h57, Int32.not_lt.mp h125, b1_n h130⟩
                have hih := fun x7 x8 x9 => ih (t + 1) x7 x8 x9 (by omega)
                rw [e] at hih
                refine mj_iload (pc' := 135) C dX5_findHaven_133 rfl rfl ?_
                refine mj_istore_n_3 (pc' := 136) C dX5_findHaven_135 rfl (by decide) rfl ?_
                refine mj_iload (pc' := 138) C dX5_findHaven_136 rfl rfl ?_
                refine mj_istore_4 (pc' := 140) C dX5_findHaven_138 rfl (by decide) rfl ?_
                refine mj_iload (pc' := 142) C dX5_findHaven_140 rfl rfl ?_
                refine mj_istore_5 (pc' := 144) C dX5_findHaven_142 rfl (by decide) rfl ?_
                refine mj_iinc_6 (pc' := 147) (w := 1) C dX5_findHaven_144 rfl rfl (by decide) rfl ?_
                refine mj_goto (pc' := 32) C dX5_findHaven_147 (by decide) ?_
                rw [nI_1]
                exact hih _ _ _
          · have e : hd' S i (t + 1) = hd' S i t := by rw [hd_s]; exact if_neg (fun h => b1_0.mp h57 h.2.1)
            have hih := fun x7 x8 x9 => ih (t + 1) x7 x8 x9 (by omega)
            rw [e] at hih
            refine mj_goto (pc' := 144) C dX5_findHaven_60 (by decide) ?_
            refine mj_iinc_6 (pc' := 147) (w := 1) C dX5_findHaven_144 rfl rfl (by decide) rfl ?_
            refine mj_goto (pc' := 32) C dX5_findHaven_147 (by decide) ?_
            rw [nI_1]
            exact hih _ _ _
    exact loop 10 0 _ _ _ rfl
  · refine mj_iconst (pc' := 8) (v := (-1)) C dX5_findHaven_7 rfl rfl ?_
    refine mj_iret C dX5_findHaven_8 (by decide) (by decide) (by decide) ?_
    exact ⟨by rw [hv_n h4], hR, xF.rf⟩

set_option maxRecDepth 20000 in
theorem c_X5_haven {l : Launch} (hst : l.stackTraces = false) (S : jS) (x : Int32) : jMet l yX5_haven cX5_haven 2 (some FieldType.int) 18 580 1 6 (fun avs μ => avs = [aR 0 0, aI x] ∧ xR S μ ∧ sW S) (fun avs μ r μ' => (o_haven S x).1 = 0 ∧ r = some (aI (o_haven S x).2.1) ∧ xR (o_haven S x).2.2 μ' ∧ xF μ μ') (fun avs μ E μ' => (o_haven S x).1 ≠ 0 ∧ E = exn (o_haven S x).1 ∧ xR S μ' ∧ xF μ μ') := by
  refine jMet_of hst (by decide) ?_
  intro avs μ J C hav hpre
  obtain ⟨rfl, hR, hW⟩ := hpre
  refine ⟨Nat.le_of_ble_eq_true rfl, ?_⟩
  show J 0 [some (aR 0 0), some (aI x)] [] μ 0 0
  have hW0 := hW.1.1
  have hW1 := hW.1.2
  refine mj_aload_n (pc' := 1) C dX5_haven_0 rfl rfl ?_
  refine mj_aload_n (pc' := 2) C dX5_haven_1 rfl rfl ?_
  refine mj_iload_n (pc' := 3) C dX5_haven_2 rfl rfl ?_
  refine mj_callVX_1 (ci := 5) (pc' := 6) C (c_X5_fileAt hst S x) dX5_haven_3 rfl km_X5_154 ki_yX5_fileAt kz_yX5_fileAt kn_X5 kc_yX5_fileAt rfl (by decide) (by decide) ⟨rfl, by decide, by decide, by decide +kernel⟩ ⟨by decide, by decide⟩ (Nat.le_of_ble_eq_true rfl) ⟨by decide, by decide⟩ ⟨rfl, hR, hW⟩ (fun r3 μ3 hq3 hm3 => ?_) (fun E μ9 h9 => ?_) (by decide) (by decide)
  · obtain ⟨hb3, rfl, hq9⟩ := hq3
    have hq9 := hq9.symm
    subst hq9
    dsimp only [Option.toList, List.nil_append, List.cons_append]
    obtain ⟨i, hi, rfl, ei⟩ := bad_of hb3 (by omega)
    rw [ei]
    refine mj_callVN_1 (ci := 5) (pc' := 9) C (c_X5_findHaven hst S i) dX5_haven_6 rfl km_X5_199 ki_yX5_findHaven kz_yX5_findHaven kn_X5 kc_yX5_findHaven rfl (by decide) (by decide) ⟨rfl, by decide, by decide, by decide +kernel⟩ ⟨by decide, by decide⟩ (Nat.le_of_ble_eq_true rfl) ⟨by decide, by decide⟩ ⟨rfl, hR, hW, hi⟩ (fun r6 μ6 hq6 hm6 => ?_) (fun _ _ h9 => h9)
    obtain ⟨rfl, hR6, hF6⟩ := hq6
    dsimp only [Option.toList, List.nil_append, List.cons_append]
    have hR := hR6
    refine mj_iret C dX5_haven_9 (by decide) (by decide) (by decide) ?_
    exact ret_of (o := o_haven S (nI i)) (by unfold o_haven; rw [if_neg hb3, ei]) hR hF6
  · obtain ⟨hb, rfl, rfl⟩ := h9
    exact thr_of (o := o_haven S x) (by unfold o_haven; rw [if_pos hb]) (by decide) hR xF.rf

set_option maxRecDepth 20000 in
theorem c_X5_filesWithHaven {l : Launch} (hst : l.stackTraces = false) (S : jS) : jMet l yX5_filesWithHaven cX5_filesWithHaven 4 (some FieldType.long) 18 580 0 0 (fun avs μ => avs = [aR 0 0] ∧ xR S μ ∧ sW S) (fun avs μ r μ' => r = some (aL (bset (hvB S) (sn S 0))) ∧ xR S μ' ∧ xF μ μ') (fun avs μ E μ' => False) := by
  refine jMet_of hst (by decide) ?_
  intro avs μ J C hav hpre
  obtain ⟨rfl, hR, hW⟩ := hpre
  refine ⟨Nat.le_of_ble_eq_true rfl, ?_⟩
  show J 0 [some (aR 0 0), none, none, none] [] μ 0 0
  have hW0 := hW.1.1
  have hW1 := hW.1.2
  refine mj_lconst (pc' := 1) (v := 0) C dX5_filesWithHaven_0 rfl rfl ?_
  refine mj_lstore_n_1 (pc' := 2) C dX5_filesWithHaven_1 rfl (by decide) rfl ?_
  refine mj_iconst (pc' := 3) (v := 0) C dX5_filesWithHaven_2 rfl rfl ?_
  refine mj_istore_n_3 (pc' := 4) C dX5_filesWithHaven_3 rfl (by decide) rfl ?_
  have loop : ∀ (d : Nat) (t : Nat) (μ1 : jM), t + d = sn S 0 → xR S μ1 → xF μ μ1 → J 4 [some (aR 0 0), some (aL (bset (hvB S) t)), none, some (aI (nI t))] [] μ1 0 0 := by
    intro d
    induction d with
    | zero =>
      intro t μ1 hd hR hF
      obtain rfl : t = sn S 0 := by omega
      refine mj_iload_n (pc' := 5) C dX5_filesWithHaven_4 rfl rfl ?_
      refine mj_aload_n (pc' := 6) C dX5_filesWithHaven_5 rfl rfl ?_
      refine mj_getV (pc' := 9) C dX5_filesWithHaven_6 rfl (ci := 5) (f := 4) rfl (by decide) (by decide) (fun _ => rfl) (by decide) kf_X5_146 hR.B.l0 hR.fc ?_
      refine mj_icmp_ge (tgt := 38) (pc' := 12) C dX5_filesWithHaven_9 (by decide) rfl (fun _ => ?_) (fun h9 => absurd (Int32.le_refl _) h9)
      refine mj_lload_n (pc' := 39) C dX5_filesWithHaven_38 rfl rfl ?_
      refine mj_lret C dX5_filesWithHaven_39 (by decide) (by decide) (by decide) ?_
      exact ⟨rfl, hR, hF⟩
    | succ d ih =>
      intro t μ1 hd hR hF
      have hlt : t < sn S 0 := by omega
      refine mj_iload_n (pc' := 5) C dX5_filesWithHaven_4 rfl rfl ?_
      refine mj_aload_n (pc' := 6) C dX5_filesWithHaven_5 rfl rfl ?_
      refine mj_getV (pc' := 9) C dX5_filesWithHaven_6 rfl (ci := 5) (f := 4) rfl (by decide) (by decide) (fun _ => rfl) (by decide) kf_X5_146 hR.B.l0 hR.fc ?_
      refine mj_icmp_ge (tgt := 38) (pc' := 12) C dX5_filesWithHaven_9 (by decide) rfl (fun h9 => absurd h9 (nI_ge hlt (by omega))) (fun _ => ?_)
      refine mj_aload_n (pc' := 13) C dX5_filesWithHaven_12 rfl rfl ?_
      refine mj_aload_n (pc' := 14) C dX5_filesWithHaven_13 rfl rfl ?_
      refine mj_getR (pc' := 17) C dX5_filesWithHaven_14 rfl (ci := 5) (f := 2) rfl (by decide) (by decide) (fun _ => rfl) (by decide) kf_X5_21 hR.B.l0 hR.B.p02 ?_
      refine mj_iload_n (pc' := 18) C dX5_filesWithHaven_17 rfl rfl ?_
      refine mj_aald (pc' := 19) C dX5_filesWithHaven_18 rfl rfl (by decide) rfl (fun _ _ => rfl) (by decide) (by decide) hR.B.l3 rfl (by first | assumption | omega) (hR.B.p3 (by rw [hR.n12]; first | assumption | omega)) ?_
      refine mj_callVN_1 (ci := 5) (pc' := 22) C (c_X5_findHaven hst S t) dX5_filesWithHaven_19 rfl km_X5_199 ki_yX5_findHaven kz_yX5_findHaven kn_X5 kc_yX5_findHaven rfl (by decide) (by decide) ⟨rfl, by decide, by decide, by decide +kernel⟩ ⟨by decide, by decide⟩ (Nat.le_of_ble_eq_true rfl) ⟨by decide, by decide⟩ ⟨rfl, hR, hW, hlt⟩ (fun r19 μ19 hq19 hm19 => ?_) (fun _ _ h9 => h9)
      obtain ⟨rfl, hR19, hF19⟩ := hq19
      dsimp only [Option.toList, List.nil_append, List.cons_append]
      have hR := hR19
      refine mj_iconst (pc' := 23) (v := (-1)) C dX5_filesWithHaven_22 rfl rfl ?_
      refine mj_icmp_eq (tgt := 32) (pc' := 26) C dX5_filesWithHaven_23 (by decide) rfl (fun h23 => ?_) (fun h23 => ?_)
      · have e : bset (hvB S) (t + 1) = bset (hvB S) t := if_neg (fun h => (show hv S t ≠ -1 from of_decide_eq_true h) h23)
        rw [← e]
        refine mj_iinc_3 (pc' := 35) (w := 1) C dX5_filesWithHaven_32 rfl rfl (by decide) rfl ?_
        refine mj_goto (pc' := 4) C dX5_filesWithHaven_35 (by decide) ?_
        rw [nI_1]
        exact ih (t + 1) _ (by omega) hR (hF.tr hF19)
      · have e : bset (hvB S) (t + 1) = bset (hvB S) t ||| (1 <<< ((nI t).toInt64 &&& 63)) := if_pos (decide_eq_true h23)
        refine mj_lload_n (pc' := 27) C dX5_filesWithHaven_26 rfl rfl ?_
        refine mj_lconst (pc' := 28) (v := 1) C dX5_filesWithHaven_27 rfl rfl ?_
        refine mj_iload_n (pc' := 29) C dX5_filesWithHaven_28 rfl rfl ?_
        refine mj_lshl (pc' := 30) C dX5_filesWithHaven_29 rfl ?_
        refine mj_lor (pc' := 31) C dX5_filesWithHaven_30 rfl ?_
        rw [← e]
        refine mj_lstore_n_1 (pc' := 32) C dX5_filesWithHaven_31 rfl (by decide) rfl ?_
        refine mj_iinc_3 (pc' := 35) (w := 1) C dX5_filesWithHaven_32 rfl rfl (by decide) rfl ?_
        refine mj_goto (pc' := 4) C dX5_filesWithHaven_35 (by decide) ?_
        rw [nI_1]
        exact ih (t + 1) _ (by omega) hR (hF.tr hF19)
  exact loop (sn S 0) 0 _ (Nat.zero_add _) hR xF.rf

set_option maxRecDepth 20000 in
theorem c_X5_filesThatAreSafe {l : Launch} (hst : l.stackTraces = false) (S : jS) : jMet l yX5_filesThatAreSafe cX5_filesThatAreSafe 4 (some FieldType.long) 7 140 0 0 (fun avs μ => avs = [aR 0 0] ∧ xR S μ ∧ sW S) (fun avs μ r μ' => r = some (aL (bset (sfB S) (sn S 0))) ∧ μ' = μ) (fun avs μ E μ' => False) := by
  refine jMet_of hst (by decide) ?_
  intro avs μ J C hav hpre
  obtain ⟨rfl, hR, hW⟩ := hpre
  refine ⟨Nat.le_of_ble_eq_true rfl, ?_⟩
  show J 0 [some (aR 0 0), none, none, none] [] μ 0 0
  have hW0 := hW.1.1
  have hW1 := hW.1.2
  refine mj_lconst (pc' := 1) (v := 0) C dX5_filesThatAreSafe_0 rfl rfl ?_
  refine mj_lstore_n_1 (pc' := 2) C dX5_filesThatAreSafe_1 rfl (by decide) rfl ?_
  refine mj_iconst (pc' := 3) (v := 0) C dX5_filesThatAreSafe_2 rfl rfl ?_
  refine mj_istore_n_3 (pc' := 4) C dX5_filesThatAreSafe_3 rfl (by decide) rfl ?_
  have loop : ∀ (d : Nat) (t : Nat), t + d = sn S 0 → J 4 [some (aR 0 0), some (aL (bset (sfB S) t)), none, some (aI (nI t))] [] μ 0 0 := by
    intro d
    induction d with
    | zero =>
      intro t hd
      obtain rfl : t = sn S 0 := by omega
      refine mj_iload_n (pc' := 5) C dX5_filesThatAreSafe_4 rfl rfl ?_
      refine mj_aload_n (pc' := 6) C dX5_filesThatAreSafe_5 rfl rfl ?_
      refine mj_getV (pc' := 9) C dX5_filesThatAreSafe_6 rfl (ci := 5) (f := 4) rfl (by decide) (by decide) (fun _ => rfl) (by decide) kf_X5_146 hR.B.l0 hR.fc ?_
      refine mj_icmp_ge (tgt := 46) (pc' := 12) C dX5_filesThatAreSafe_9 (by decide) rfl (fun _ => ?_) (fun h9 => absurd (Int32.le_refl _) h9)
      refine mj_lload_n (pc' := 47) C dX5_filesThatAreSafe_46 rfl rfl ?_
      refine mj_lret C dX5_filesThatAreSafe_47 (by decide) (by decide) (by decide) ?_
      exact ⟨rfl, rfl⟩
    | succ d ih =>
      intro t hd
      have hlt : t < sn S 0 := by omega
      obtain ⟨hg, eg⟩ := fF_of hW hlt
      refine mj_iload_n (pc' := 5) C dX5_filesThatAreSafe_4 rfl rfl ?_
      refine mj_aload_n (pc' := 6) C dX5_filesThatAreSafe_5 rfl rfl ?_
      refine mj_getV (pc' := 9) C dX5_filesThatAreSafe_6 rfl (ci := 5) (f := 4) rfl (by decide) (by decide) (fun _ => rfl) (by decide) kf_X5_146 hR.B.l0 hR.fc ?_
      refine mj_icmp_ge (tgt := 46) (pc' := 12) C dX5_filesThatAreSafe_9 (by decide) rfl (fun h9 => absurd h9 (nI_ge hlt (by omega))) (fun _ => ?_)
      refine mj_aload_n (pc' := 13) C dX5_filesThatAreSafe_12 rfl rfl ?_
      refine mj_aload_n (pc' := 14) C dX5_filesThatAreSafe_13 rfl rfl ?_
      refine mj_getR (pc' := 17) C dX5_filesThatAreSafe_14 rfl (ci := 5) (f := 2) rfl (by decide) (by decide) (fun _ => rfl) (by decide) kf_X5_21 hR.B.l0 hR.B.p02 ?_
      refine mj_iload_n (pc' := 18) C dX5_filesThatAreSafe_17 rfl rfl ?_
      refine mj_aald (pc' := 19) C dX5_filesThatAreSafe_18 rfl rfl (by decide) rfl (fun _ _ => rfl) (by decide) (by decide) hR.B.l3 rfl (by first | assumption | omega) (hR.B.p3 (by rw [hR.n12]; first | assumption | omega)) ?_
      refine mj_aload_n (pc' := 20) C dX5_filesThatAreSafe_19 rfl rfl ?_
      refine mj_getR (pc' := 23) C dX5_filesThatAreSafe_20 rfl (ci := 5) (f := 2) rfl (by decide) (by decide) (fun _ => rfl) (by decide) kf_X5_21 hR.B.l0 hR.B.p02 ?_
      refine mj_iload_n (pc' := 24) C dX5_filesThatAreSafe_23 rfl rfl ?_
      refine mj_aald (pc' := 25) C dX5_filesThatAreSafe_24 rfl rfl (by decide) rfl (fun _ _ => rfl) (by decide) (by decide) hR.B.l3 rfl (by first | assumption | omega) (hR.B.p3 (by rw [hR.n12]; first | assumption | omega)) ?_
      refine mj_getV (pc' := 28) C dX5_filesThatAreSafe_25 rfl (ci := 4) (f := 3) rfl (by decide) (by decide) (fun _ => rfl) (by decide) kf_X5_165 (hR.l12 (by first | assumption | omega)) ((hR.ffm (by first | assumption | omega)).trans eg) ?_
      refine mj_callVN_2 (ci := 5) (pc' := 31) C (c_X5_isSafeIn hst S t (fF S t)) dX5_filesThatAreSafe_28 rfl km_X5_206 ki_yX5_isSafeIn kz_yX5_isSafeIn kn_X5 kc_yX5_isSafeIn rfl (by decide) (by decide) ⟨rfl, by decide, by decide, by decide +kernel⟩ ⟨by decide, by decide⟩ (Nat.le_of_ble_eq_true rfl) ⟨by decide, by decide⟩ ⟨rfl, hR, hW, hlt, hg⟩ (fun r28 μ28 hq28 hm28 => ?_) (fun _ _ h9 => h9)
      obtain ⟨rfl, hq9⟩ := hq28
      have hq9 := hq9.symm
      subst hq9
      dsimp only [Option.toList, List.nil_append, List.cons_append]
      refine mj_if_eq (tgt := 40) (pc' := 34) C dX5_filesThatAreSafe_31 (by decide) rfl (fun h31 => ?_) (fun h31 => ?_)
      · have e : bset (sfB S) (t + 1) = bset (sfB S) t := if_neg (fun h => b1_0.mp h31 (of_decide_eq_true h))
        rw [← e]
        refine mj_iinc_3 (pc' := 43) (w := 1) C dX5_filesThatAreSafe_40 rfl rfl (by decide) rfl ?_
        refine mj_goto (pc' := 4) C dX5_filesThatAreSafe_43 (by decide) ?_
        rw [nI_1]
        exact ih (t + 1) (by omega)
      · have e : bset (sfB S) (t + 1) = bset (sfB S) t ||| (1 <<< ((nI t).toInt64 &&& 63)) := if_pos (decide_eq_true (b1_n h31))
        refine mj_lload_n (pc' := 35) C dX5_filesThatAreSafe_34 rfl rfl ?_
        refine mj_lconst (pc' := 36) (v := 1) C dX5_filesThatAreSafe_35 rfl rfl ?_
        refine mj_iload_n (pc' := 37) C dX5_filesThatAreSafe_36 rfl rfl ?_
        refine mj_lshl (pc' := 38) C dX5_filesThatAreSafe_37 rfl ?_
        refine mj_lor (pc' := 39) C dX5_filesThatAreSafe_38 rfl ?_
        rw [← e]
        refine mj_lstore_n_1 (pc' := 40) C dX5_filesThatAreSafe_39 rfl (by decide) rfl ?_
        refine mj_iinc_3 (pc' := 43) (w := 1) C dX5_filesThatAreSafe_40 rfl rfl (by decide) rfl ?_
        refine mj_goto (pc' := 4) C dX5_filesThatAreSafe_43 (by decide) ?_
        rw [nI_1]
        exact ih (t + 1) (by omega)
  exact loop (sn S 0) 0 (Nat.zero_add _)
