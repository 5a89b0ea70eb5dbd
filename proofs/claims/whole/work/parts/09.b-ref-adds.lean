/-! THE REFERENCE: PROMISE, CONVERTER -/
/-- a place behind all that is told -/
theorem mR_w {S : jS} {μ : jM} {a i : Nat} {v : Int32} (h : mR S μ) (k : Nat) (hk : 21 + a = k) (ha : 1 ≤ a ∧ a ≤ 16) (hi : sl S a ≤ i) : mR S (sI μ k 0 i v) := by
  subst hk
  refine mR_gen h cK.rf rfl rfl rfl (fun kd y z hk => mI_sI_n μ _ 0 i v (fun q => by omega)) ?_ (mI_sI_n μ _ 0 i v (fun q => by omega)) (fun b j hb hj => ?_)
  · rw [mI_sI_n μ _ _ _ v (fun q => by omega), mI_sI_n μ _ _ _ v (fun q => by omega), mI_sI_n μ _ _ _ v (fun q => by omega), mI_sI_n μ _ _ _ v (fun q => by omega), mI_sI_n μ _ _ _ v (fun q => by omega)]
    exact ⟨h.nc, h.nf, h.bud, h.rest, h.now⟩
  · rw [mI_sI_n μ _ _ _ v (fun q => by
      have e : b = a := by omega
      subst e
      have := q.2.2
      omega)]
    exact h.v b hb rfl hj
def cQ (n kd y z : Nat) : Prop := (22 ≤ kd ∧ kd ≤ 25 ∧ z = n) ∨ (kd = 20 ∧ y = 0 ∧ (z = 29 ∨ z = 34 ∨ z = 35))
theorem mR_addC {S S' : jS} {μ μ' : jM} (h : mR S μ) (hO : oG (cQ (sn S 1)) μ μ') (hc : mI μ' 20 0 29 = nI (sn S 1 + 1)) (h34 : mI μ' 20 0 34 = 0) (hv : mI μ' 22 0 (sn S 1) = sf S' 1 (sn S 1) ∧ mI μ' 23 0 (sn S 1) = sf S' 2 (sn S 1) ∧ mI μ' 24 0 (sn S 1) = sf S' 3 (sn S 1) ∧ mI μ' 25 0 (sn S 1) = sf S' 4 (sn S 1))
    (hs : sn S' 1 = sn S 1 + 1 ∧ sn S' 0 = sn S 0) (hf : ∀ b x, ¬ (1 ≤ b ∧ b ≤ 4 ∧ x = sn S 1) → sf S' b x = sf S b x) : mR S' μ' := by
  have hi : ∀ kd y z, ¬ cQ (sn S 1) kd y z → mI μ' kd y z = mI μ kd y z := hO.2
  refine ⟨by rw [hO.1.1, hO.1.2.1]; exact h.B, ⟨by rw [hc, hs.1], by rw [hi _ _ _ (by unfold cQ; omega), hs.2]; exact h.nf, by rw [hi _ _ _ (by unfold cQ; omega), hf _ _ (by omega)]; exact h.bud, by rw [hi _ _ _ (by unfold cQ; omega), hf _ _ (by omega)]; exact h.rest, by rw [hi _ _ _ (by unfold cQ; omega), hf _ _ (by omega)]; exact h.now⟩, fun a i ha hi9 => ?_, Or.inl h34, fun j hj => by rw [hi _ _ _ (by unfold cQ; omega)]; exact h.on hj⟩
  by_cases q : 1 ≤ a ∧ a ≤ 4 ∧ i = sn S 1
  · obtain ⟨q1, q2, rfl⟩ := q
    obtain ⟨v1, v2, v3, v4⟩ := hv
    have e : a = 1 ∨ a = 2 ∨ a = 3 ∨ a = 4 := by omega
    rcases e with rfl | rfl | rfl | rfl
    · exact v1
    · exact v2
    · exact v3
    · exact v4
  · rw [hi (21 + a) 0 i (by unfold cQ; omega), hf a i q]
    refine h.v a ha rfl ?_
    unfold sl at hi9 ⊢
    rw [hs.1, hs.2] at hi9
    by_cases e0 : a = 0
    · rw [if_pos e0] at hi9 ⊢; exact hi9
    · rw [if_neg e0] at hi9 ⊢
      by_cases e5 : a = 5
      · rw [if_pos e5] at hi9 ⊢; exact hi9
      · rw [if_neg e5] at hi9 ⊢
        by_cases e4 : a ≤ 5
        · rw [if_pos e4] at hi9 ⊢; omega
        · rw [if_neg e4] at hi9 ⊢; exact hi9
theorem oG.mf {Q : Nat → Nat → Nat → Prop} {μ μ' : jM} (h : oG Q μ μ') (hq : ∀ kd y z, Q kd y z → 20 ≤ kd ∧ kd < 50) : mF μ μ' := fun kd hk => ⟨by rw [h.1.1], fun y z => ⟨h.2 kd y z (fun q => by have := hq kd y z q; omega), by rw [h.1.2.1], by rw [h.1.2.2]⟩⟩
/-- converters that are not there are not withdrawn -/
def sZ (S : jS) : Prop := ∀ i, sn S 1 ≤ i → sf S 5 i = 0

set_option maxRecDepth 20000 in
theorem c_X6_promise {l : Launch} (hst : l.stackTraces = false) (S : jS) (f x : Int32) : jMet l yX6_promise cX6_promise 7 (some FieldType.int) 10 260 0 0 (fun avs μ => avs = [aR 20 0, aI f, aI x] ∧ mR S μ ∧ sW S) (fun avs μ r μ' => mret (o_promise S f x) kA r μ μ') (fun avs μ E μ' => False) := by
  refine jMet_of hst (by decide) ?_
  intro avs μ J C hav hpre
  obtain ⟨rfl, hR, hW⟩ := hpre
  refine ⟨Nat.le_of_ble_eq_true rfl, ?_⟩
  show J 0 [some (aR 20 0), some (aI f), some (aI x), none, none, none, none] [] μ 0 0
  have hW0 := hW.1.1
  have hW1 := hW.1.2
  refine mj_iload_n (pc' := 1) C dX6_promise_0 rfl rfl ?_
  refine mj_callSN_1 (pc' := 4) C (c_X6_isNoFormat hst f) dX6_promise_1 rfl km_X6_146 ks_yX6_isNoFormat kn_X6 kc_yX6_isNoFormat ⟨by decide, by decide, by decide +kernel⟩ ⟨by decide, by decide⟩ (Nat.le_of_ble_eq_true rfl) ⟨by decide, by decide⟩ rfl (fun r1 μ1 hq1 hm1 => ?_) (fun _ _ h9 => h9)
  obtain ⟨rfl, hq9⟩ := hq1
  have hq9 := hq9.symm
  subst hq9
  dsimp only [Option.toList, List.nil_append, List.cons_append]
  refine mj_if_ne (tgt := 16) (pc' := 7) C dX6_promise_4 (by decide) rfl (fun h4 => ?_) (fun h4 => ?_)
  · have ho : o_promise S f x = (1, 0, S) := by unfold o_promise; rw [if_pos (Or.inl (b1_n h4))]
    refine mj_aload_n (pc' := 17) C dX6_promise_16 rfl rfl ?_
    refine mj_iconst (pc' := 18) (v := 1) C dX6_promise_17 rfl rfl ?_
    refine mj_callVN_1 (ci := 6) (pc' := 21) C (c_X6_fails hst S 1) dX6_promise_18 rfl km_X6_150 ki_yX6_fails kz_yX6_fails kn_X6 kc_yX6_fails rfl (by decide) (by decide) ⟨rfl, by decide, by decide, by decide +kernel⟩ ⟨by decide, by decide⟩ (Nat.le_of_ble_eq_true rfl) ⟨by decide, by decide⟩ ⟨rfl, hR⟩ (fun r18 μ18 hq18 hm18 => ?_) (fun _ _ h9 => h9)
    obtain ⟨rfl, hq9⟩ := hq18
    have hq9 := hq9.symm
    subst hq9
    dsimp only [Option.toList, List.nil_append, List.cons_append]
    refine mj_iret C dX6_promise_21 (by decide) (by decide) (by decide) ?_
    exact mfail ho rfl (by decide) rfl rfl (mR_x hR (Or.inl ⟨rfl, rfl⟩)) mF.rf
  · have hb1 := b1_0.mp h4
    obtain ⟨i, hi, rfl, ei⟩ := bad_of hb1 (by decide)
    refine mj_iload_n (pc' := 8) C dX6_promise_7 rfl rfl ?_
    refine mj_iconst (pc' := 9) (v := 0) C dX6_promise_8 rfl rfl ?_
    refine mj_iconst (pc' := 10) (v := 4) C dX6_promise_9 rfl rfl ?_
    refine mj_callSN_3 (pc' := 13) C (c_X6_in hst x 0 4) dX6_promise_10 rfl km_X6_108 ks_yX6_in kn_X6 kc_yX6_in ⟨by decide, by decide, by decide +kernel⟩ ⟨by decide, by decide⟩ (Nat.le_of_ble_eq_true rfl) ⟨by decide, by decide⟩ rfl (fun r10 μ10 hq10 hm10 => ?_) (fun _ _ h9 => h9)
    obtain ⟨rfl, hq9⟩ := hq10
    have hq9 := hq9.symm
    subst hq9
    dsimp only [Option.toList, List.nil_append, List.cons_append]
    refine mj_if_ne (tgt := 22) (pc' := 16) C dX6_promise_13 (by decide) rfl (fun h13 => ?_) (fun h13 => ?_)
    · have hb2 : ¬ bad x 5 := (bad_in (n := 4) (by decide)).mp (b1_n h13)
      obtain ⟨j, hj, rfl, ej⟩ := bad_of hb2 (by decide)
      refine mj_aload_n (pc' := 23) C dX6_promise_22 rfl rfl ?_
      refine mj_iconst (pc' := 24) (v := 0) C dX6_promise_23 rfl rfl ?_
      refine mj_putI (pc' := 27) C dX6_promise_24 rfl (ci := 6) (f := 35) rfl (by decide) (by decide) rfl (fun _ _ => rfl) (by decide) kf_X6_105 rfl rfl hR.B.l0 ?_
      have hR := mR_x (kd := 20) (i := 0) (z := 35) (v := 0) hR (Or.inl ⟨rfl, rfl⟩)
      refine mj_aload_n (pc' := 28) C dX6_promise_27 rfl rfl ?_
      refine mj_callVN_0 (ci := 6) (pc' := 31) C (c_X6_find hst S) dX6_promise_28 rfl km_X6_157 ki_yX6_find kz_yX6_find kn_X6 kc_yX6_find rfl (by decide) (by decide) ⟨rfl, by decide, by decide, by decide +kernel⟩ ⟨by decide, by decide⟩ (Nat.le_of_ble_eq_true rfl) ⟨by decide, by decide⟩ ⟨rfl, hR, hW⟩ (fun r28 μ28 hq28 hm28 => ?_) (fun _ _ h9 => h9)
      obtain ⟨rfl, hR28, hO28, h128⟩ := hq28
      dsimp only [Option.toList, List.nil_append, List.cons_append]
      have hR := hR28
      refine mj_iconst (pc' := 32) (v := 0) C dX6_promise_31 rfl rfl ?_
      refine mj_istore_n_3 (pc' := 33) C dX6_promise_32 rfl (by decide) rfl ?_
      refine mj_iconst (pc' := 34) (v := 0) C dX6_promise_33 rfl rfl ?_
      refine mj_istore_4 (pc' := 36) C dX6_promise_34 rfl (by decide) rfl ?_
      have loop : ∀ (d : Nat) (t : Nat) (x5 x6 : Option jV), t + d = 10 → J 36 [some (aR 20 0), some (aI (nI i)), some (aI (nI j)), some (aI (prm S i j t)), some (aI (nI t)), x5, x6] [] μ28 0 0 := by
        intro d
        induction d with
        | zero =>
          intro t x5 x6 hd
          obtain rfl : t = 10 := by omega
          refine mj_iload (pc' := 38) C dX6_promise_36 rfl rfl ?_
          refine mj_bipush (pc' := 40) (v := 10) C dX6_promise_38 rfl rfl ?_
          refine mj_icmp_ge (tgt := 140) (pc' := 43) C dX6_promise_40 (by decide) rfl (fun _ => ?_) (fun h9 => absurd (by decide) h9)
          refine mj_aload_n (pc' := 141) C dX6_promise_140 rfl rfl ?_
          refine mj_iload_n (pc' := 142) C dX6_promise_141 rfl rfl ?_
          refine mj_callVN_1 (ci := 6) (pc' := 145) C (c_X6_canBeRead hst S i) dX6_promise_142 rfl km_X6_154 ki_yX6_canBeRead kz_yX6_canBeRead kn_X6 kc_yX6_canBeRead rfl (by decide) (by decide) ⟨rfl, by decide, by decide, by decide +kernel⟩ ⟨by decide, by decide⟩ (Nat.le_of_ble_eq_true rfl) ⟨by decide, by decide⟩ ⟨rfl, hR, hi⟩ (fun r142 μ142 hq142 hm142 => ?_) (fun _ _ h9 => h9)
          obtain ⟨rfl, hq9⟩ := hq142
          have hq9 := hq9.symm
          subst hq9
          dsimp only [Option.toList, List.nil_append, List.cons_append]
          refine mj_if_eq (tgt := 152) (pc' := 148) C dX6_promise_145 (by decide) rfl (fun h145 => ?_) (fun h145 => ?_)
          · have ho : o_promise S (nI i) (nI j) = (0, 0, S) := by unfold o_promise; rw [if_neg (fun h => h.elim hb1 hb2), ei, ej, if_neg (b1_0.mp h145)]
            refine mj_iconst (pc' := 153) (v := 0) C dX6_promise_152 rfl rfl ?_
            refine mj_iret C dX6_promise_153 (by decide) (by decide) (by decide) ?_
            exact mret_of ho (z35f z35 hO28) hR ((mF_sI (by decide) mF.rf).tr hO28.f2)
          · have ho : o_promise S (nI i) (nI j) = (0, prm S i j 10, S) := by unfold o_promise; rw [if_neg (fun h => h.elim hb1 hb2), ei, ej, if_pos (b1_n h145)]
            refine mj_iload_n (pc' := 149) C dX6_promise_148 rfl rfl ?_
            refine mj_goto (pc' := 153) C dX6_promise_149 (by decide) ?_
            refine mj_iret C dX6_promise_153 (by decide) (by decide) (by decide) ?_
            exact mret_of ho (z35f z35 hO28) hR ((mF_sI (by decide) mF.rf).tr hO28.f2)
        | succ d ih =>
          intro t x5 x6 hd
          have hlt : t < 10 := by omega
          refine mj_iload (pc' := 38) C dX6_promise_36 rfl rfl ?_
          refine mj_bipush (pc' := 40) (v := 10) C dX6_promise_38 rfl rfl ?_
          refine mj_icmp_ge (tgt := 140) (pc' := 43) C dX6_promise_40 (by decide) rfl (fun h9 => absurd h9 (nI_ge (b := 10) hlt (by decide))) (fun _ => ?_)
          refine mj_aload_n (pc' := 44) C dX6_promise_43 rfl rfl ?_
          refine mj_getR (pc' := 47) C dX6_promise_44 rfl (ci := 6) (f := 19) rfl (by decide) (by decide) (fun _ => rfl) (by decide) kf_X6_68 hR.B.l0 (hR.B.p 19 (by decide) rfl) ?_
          refine mj_bipush (pc' := 49) (v := 10) C dX6_promise_47 rfl rfl ?_
          refine mj_iload_n (pc' := 50) C dX6_promise_49 rfl rfl ?_
          refine mj_imul (pc' := 51) C dX6_promise_50 rfl ?_
          refine mj_iload (pc' := 53) C dX6_promise_51 rfl rfl ?_
          refine mj_iadd (pc' := 54) C dX6_promise_53 rfl ?_
          rw [i10]
          refine mj_ialdV (pc' := 55) C dX6_promise_54 rfl rfl (by decide) (by decide) (hR.B.l 19 (by decide) rfl) rfl (by omega) ((hR.tab h128 hi) t hlt).1 ?_
          refine mj_istore_5 (pc' := 57) C dX6_promise_55 rfl (by decide) rfl ?_
          refine mj_aload_n (pc' := 58) C dX6_promise_57 rfl rfl ?_
          refine mj_getR (pc' := 61) C dX6_promise_58 rfl (ci := 6) (f := 0) rfl (by decide) (by decide) (fun _ => rfl) (by decide) kf_X6_7 hR.B.l0 (hR.B.p 0 (by decide) rfl) ?_
          refine mj_iload (pc' := 63) C dX6_promise_61 rfl rfl ?_
          refine mj_ialdV (pc' := 64) C dX6_promise_63 rfl rfl (by decide) (by decide) (hR.B.l 0 (by decide) rfl) rfl (by first | assumption | omega) (hR.v 0 (by decide) rfl (by unfold sl; simp <;> first | assumption | omega)) ?_
          refine mj_iconst (pc' := 65) (v := (-1)) C dX6_promise_64 rfl rfl ?_
          refine jn (tgt := 102) (v := aI (span S t)) (st := []) (fun K65 => ?_) ?_
          · refine mj_icmp_eq (tgt := 85) (pc' := 68) C dX6_promise_65 (by decide) rfl (fun h65 => ?_) (fun h65 => ?_)
            · have ej : span S t = 100 := if_pos (Or.inl h65)
              refine mj_bipush (pc' := 87) (v := 100) C dX6_promise_85 rfl rfl ?_
              refine mj_goto (pc' := 102) C dX6_promise_87 (by decide) ?_
              rw [ej] at K65
              exact K65
            · refine mj_aload_n (pc' := 69) C dX6_promise_68 rfl rfl ?_
              refine mj_getR (pc' := 72) C dX6_promise_69 rfl (ci := 6) (f := 0) rfl (by decide) (by decide) (fun _ => rfl) (by decide) kf_X6_7 hR.B.l0 (hR.B.p 0 (by decide) rfl) ?_
              refine mj_iload (pc' := 74) C dX6_promise_72 rfl rfl ?_
              refine mj_ialdV (pc' := 75) C dX6_promise_74 rfl rfl (by decide) (by decide) (hR.B.l 0 (by decide) rfl) rfl (by first | assumption | omega) (hR.v 0 (by decide) rfl (by unfold sl; simp <;> first | assumption | omega)) ?_
              refine mj_aload_n (pc' := 76) C dX6_promise_75 rfl rfl ?_
              refine mj_getV (pc' := 79) C dX6_promise_76 rfl (ci := 6) (f := 33) rfl (by decide) (by decide) (fun _ => rfl) (by decide) kf_X6_115 hR.B.l0 hR.now ?_
              refine mj_isub (pc' := 80) C dX6_promise_79 rfl ?_
              refine mj_bipush (pc' := 82) (v := 100) C dX6_promise_80 rfl rfl ?_
              refine mj_icmp_le (tgt := 90) (pc' := 85) C dX6_promise_82 (by decide) rfl (fun h82 => ?_) (fun h82 => ?_)
              · have ej : span S t = sf S 0 t - sf S 17 2 := if_neg (fun h => h.elim h65 (fun h => absurd h (Int32.not_lt.mpr h82)))
                refine mj_aload_n (pc' := 91) C dX6_promise_90 rfl rfl ?_
                refine mj_getR (pc' := 94) C dX6_promise_91 rfl (ci := 6) (f := 0) rfl (by decide) (by decide) (fun _ => rfl) (by decide) kf_X6_7 hR.B.l0 (hR.B.p 0 (by decide) rfl) ?_
                refine mj_iload (pc' := 96) C dX6_promise_94 rfl rfl ?_
                refine mj_ialdV (pc' := 97) C dX6_promise_96 rfl rfl (by decide) (by decide) (hR.B.l 0 (by decide) rfl) rfl (by first | assumption | omega) (hR.v 0 (by decide) rfl (by unfold sl; simp <;> first | assumption | omega)) ?_
                refine mj_aload_n (pc' := 98) C dX6_promise_97 rfl rfl ?_
                refine mj_getV (pc' := 101) C dX6_promise_98 rfl (ci := 6) (f := 33) rfl (by decide) (by decide) (fun _ => rfl) (by decide) kf_X6_115 hR.B.l0 hR.now ?_
                refine mj_isub (pc' := 102) C dX6_promise_101 rfl ?_
                rw [ej] at K65
                exact K65
              · have ej : span S t = 100 := if_pos (Or.inr (Int32.not_le.mp h82))
                refine mj_bipush (pc' := 87) (v := 100) C dX6_promise_85 rfl rfl ?_
                refine mj_goto (pc' := 102) C dX6_promise_87 (by decide) ?_
                rw [ej] at K65
                exact K65
          refine mj_istore_6 (pc' := 104) C dX6_promise_102 rfl (by decide) rfl ?_
          refine mj_iload (pc' := 106) C dX6_promise_104 rfl rfl ?_
          refine mj_iconst (pc' := 107) (v := (-1)) C dX6_promise_106 rfl rfl ?_
          refine jn (tgt := 133) (v := aI (prm S i j (t + 1))) (st := []) (fun K107 => ?_) ?_
          · refine mj_icmp_eq (tgt := 132) (pc' := 110) C dX6_promise_107 (by decide) rfl (fun h107 => ?_) (fun h107 => ?_)
            · have ej : prm S i j (t + 1) = prm S i j t := if_neg (fun h => h.1 h107)
              refine mj_iload_n (pc' := 133) C dX6_promise_132 rfl rfl ?_
              rw [ej] at K107
              exact K107
            · refine mj_iload (pc' := 112) C dX6_promise_110 rfl rfl ?_
              refine mj_aload_n (pc' := 113) C dX6_promise_112 rfl rfl ?_
              refine mj_getR (pc' := 116) C dX6_promise_113 rfl (ci := 6) (f := 7) rfl (by decide) (by decide) (fun _ => rfl) (by decide) kf_X6_32 hR.B.l0 (hR.B.p 7 (by decide) rfl) ?_
              refine mj_iload_n (pc' := 117) C dX6_promise_116 rfl rfl ?_
              refine mj_ialdV (pc' := 118) C dX6_promise_117 rfl rfl (by decide) (by decide) (hR.B.l 7 (by decide) rfl) rfl (by first | assumption | omega) (hR.v 7 (by decide) rfl (by unfold sl; simp <;> first | assumption | omega)) ?_
              refine mj_icmp_lt (tgt := 132) (pc' := 121) C dX6_promise_118 (by decide) rfl (fun h118 => ?_) (fun h118 => ?_)
              · have ej : prm S i j (t + 1) = prm S i j t := if_neg (fun h => absurd h118 (Int32.not_lt.mpr h.2.1))
                refine mj_iload_n (pc' := 133) C dX6_promise_132 rfl rfl ?_
                rw [ej] at K107
                exact K107
              · refine mj_iload (pc' := 123) C dX6_promise_121 rfl rfl ?_
                refine mj_iload_n (pc' := 124) C dX6_promise_123 rfl rfl ?_
                refine mj_icmp_le (tgt := 132) (pc' := 127) C dX6_promise_124 (by decide) rfl (fun h124 => ?_) (fun h124 => ?_)
                · have ej : prm S i j (t + 1) = prm S i j t := if_neg (fun h => absurd h.2.2 (Int32.not_lt.mpr h124))
                  refine mj_iload_n (pc' := 133) C dX6_promise_132 rfl rfl ?_
                  rw [ej] at K107
                  exact K107
                · have ej : prm S i j (t + 1) = span S t := if_pos ⟨h107, Int32.not_lt.mp h118, Int32.not_le.mp h124⟩
                  refine mj_iload (pc' := 129) C dX6_promise_127 rfl rfl ?_
                  refine mj_goto (pc' := 133) C dX6_promise_129 (by decide) ?_
                  rw [ej] at K107
                  exact K107
          refine mj_istore_n_3 (pc' := 134) C dX6_promise_133 rfl (by decide) rfl ?_
          refine mj_iinc_4 (pc' := 137) (w := 1) C dX6_promise_134 rfl rfl (by decide) rfl ?_
          refine mj_goto (pc' := 36) C dX6_promise_137 (by decide) ?_
          rw [nI_1]
          exact ih (t + 1) _ _ (by omega)
      exact loop 10 0 _ _ rfl
    · have ho : o_promise S (nI i) x = (1, 0, S) := by unfold o_promise; rw [if_pos (Or.inr (Decidable.not_not.mp (fun h => b1_0.mp h13 ((bad_in (n := 4) (by decide)).mpr h))))]
      refine mj_aload_n (pc' := 17) C dX6_promise_16 rfl rfl ?_
      refine mj_iconst (pc' := 18) (v := 1) C dX6_promise_17 rfl rfl ?_
      refine mj_callVN_1 (ci := 6) (pc' := 21) C (c_X6_fails hst S 1) dX6_promise_18 rfl km_X6_150 ki_yX6_fails kz_yX6_fails kn_X6 kc_yX6_fails rfl (by decide) (by decide) ⟨rfl, by decide, by decide, by decide +kernel⟩ ⟨by decide, by decide⟩ (Nat.le_of_ble_eq_true rfl) ⟨by decide, by decide⟩ ⟨rfl, hR⟩ (fun r18 μ18 hq18 hm18 => ?_) (fun _ _ h9 => h9)
      obtain ⟨rfl, hq9⟩ := hq18
      have hq9 := hq9.symm
      subst hq9
      dsimp only [Option.toList, List.nil_append, List.cons_append]
      refine mj_iret C dX6_promise_21 (by decide) (by decide) (by decide) ?_
      exact mfail ho rfl (by decide) rfl rfl (mR_x hR (Or.inl ⟨rfl, rfl⟩)) mF.rf

set_option maxRecDepth 20000 in
theorem c_X6_converter {l : Launch} (hst : l.stackTraces = false) (S : jS) (a b lo co : Int32) : jMet l yX6_converter cX6_converter 5 (some FieldType.int) 8 180 0 0 (fun avs μ => avs = [aR 20 0, aI a, aI b, aI lo, aI co] ∧ mR S μ ∧ sW S ∧ sZ S) (fun avs μ r μ' => mret (o_converter S a b lo co) kA r μ μ') (fun avs μ E μ' => False) := by
  refine jMet_of hst (by decide) ?_
  intro avs μ J C hav hpre
  obtain ⟨rfl, hR, hW, hZ⟩ := hpre
  refine ⟨Nat.le_of_ble_eq_true rfl, ?_⟩
  show J 0 [some (aR 20 0), some (aI a), some (aI b), some (aI lo), some (aI co)] [] μ 0 0
  have hW0 := hW.1.1
  have hW1 := hW.1.2
  have hR0 := hR
  refine mj_iload_n (pc' := 1) C dX6_converter_0 rfl rfl ?_
  refine mj_callSN_1 (pc' := 4) C (c_X6_isNoFormat hst a) dX6_converter_1 rfl km_X6_146 ks_yX6_isNoFormat kn_X6 kc_yX6_isNoFormat ⟨by decide, by decide, by decide +kernel⟩ ⟨by decide, by decide⟩ (Nat.le_of_ble_eq_true rfl) ⟨by decide, by decide⟩ rfl (fun r1 μ1 hq1 hm1 => ?_) (fun _ _ h9 => h9)
  obtain ⟨rfl, hq9⟩ := hq1
  have hq9 := hq9.symm
  subst hq9
  dsimp only [Option.toList, List.nil_append, List.cons_append]
  refine mj_if_ne (tgt := 14) (pc' := 7) C dX6_converter_4 (by decide) rfl (fun h4 => ?_) (fun h4 => ?_)
  · have ho : o_converter S a b lo co = (1, 0, S) := by unfold o_converter; rw [if_pos (Or.inl (b1_n h4))]
    refine mj_aload_n (pc' := 15) C dX6_converter_14 rfl rfl ?_
    refine mj_iconst (pc' := 16) (v := 1) C dX6_converter_15 rfl rfl ?_
    refine mj_callVN_1 (ci := 6) (pc' := 19) C (c_X6_fails hst S 1) dX6_converter_16 rfl km_X6_150 ki_yX6_fails kz_yX6_fails kn_X6 kc_yX6_fails rfl (by decide) (by decide) ⟨rfl, by decide, by decide, by decide +kernel⟩ ⟨by decide, by decide⟩ (Nat.le_of_ble_eq_true rfl) ⟨by decide, by decide⟩ ⟨rfl, hR⟩ (fun r16 μ16 hq16 hm16 => ?_) (fun _ _ h9 => h9)
    obtain ⟨rfl, hq9⟩ := hq16
    have hq9 := hq9.symm
    subst hq9
    dsimp only [Option.toList, List.nil_append, List.cons_append]
    refine mj_iret C dX6_converter_19 (by decide) (by decide) (by decide) ?_
    exact mfail ho rfl (by decide) rfl rfl (mR_x hR (Or.inl ⟨rfl, rfl⟩)) mF.rf
  · have hb1 := b1_0.mp h4
    obtain ⟨i, hi, rfl, ei⟩ := bad_of hb1 (by decide)
    refine mj_iload_n (pc' := 8) C dX6_converter_7 rfl rfl ?_
    refine mj_callSN_1 (pc' := 11) C (c_X6_isNoFormat hst b) dX6_converter_8 rfl km_X6_146 ks_yX6_isNoFormat kn_X6 kc_yX6_isNoFormat ⟨by decide, by decide, by decide +kernel⟩ ⟨by decide, by decide⟩ (Nat.le_of_ble_eq_true rfl) ⟨by decide, by decide⟩ rfl (fun r8 μ8 hq8 hm8 => ?_) (fun _ _ h9 => h9)
    obtain ⟨rfl, hq9⟩ := hq8
    have hq9 := hq9.symm
    subst hq9
    dsimp only [Option.toList, List.nil_append, List.cons_append]
    refine mj_if_eq (tgt := 20) (pc' := 14) C dX6_converter_11 (by decide) rfl (fun h11 => ?_) (fun h11 => ?_)
    · have hb2 := b1_0.mp h11
      obtain ⟨j, hj, rfl, ej⟩ := bad_of hb2 (by decide)
      refine mj_iload_n (pc' := 21) C dX6_converter_20 rfl rfl ?_
      refine mj_iconst (pc' := 22) (v := 0) C dX6_converter_21 rfl rfl ?_
      refine mj_sipush (pc' := 25) (v := 500) C dX6_converter_22 rfl rfl ?_
      refine mj_callSN_3 (pc' := 28) C (c_X6_in hst lo 0 500) dX6_converter_25 rfl km_X6_108 ks_yX6_in kn_X6 kc_yX6_in ⟨by decide, by decide, by decide +kernel⟩ ⟨by decide, by decide⟩ (Nat.le_of_ble_eq_true rfl) ⟨by decide, by decide⟩ rfl (fun r25 μ25 hq25 hm25 => ?_) (fun _ _ h9 => h9)
      obtain ⟨rfl, hq9⟩ := hq25
      have hq9 := hq9.symm
      subst hq9
      dsimp only [Option.toList, List.nil_append, List.cons_append]
      refine mj_if_eq (tgt := 47) (pc' := 31) C dX6_converter_28 (by decide) rfl (fun h28 => ?_) (fun h28 => ?_)
      · have ho : o_converter S (nI i) (nI j) lo co = (2, 0, S) := by unfold o_converter; rw [if_neg (fun h => h.elim hb1 hb2), if_pos (Or.inl (nin (b1_0.mp h28)))]
        refine mj_aload_n (pc' := 48) C dX6_converter_47 rfl rfl ?_
        refine mj_iconst (pc' := 49) (v := 2) C dX6_converter_48 rfl rfl ?_
        refine mj_callVN_1 (ci := 6) (pc' := 52) C (c_X6_fails hst S 2) dX6_converter_49 rfl km_X6_150 ki_yX6_fails kz_yX6_fails kn_X6 kc_yX6_fails rfl (by decide) (by decide) ⟨rfl, by decide, by decide, by decide +kernel⟩ ⟨by decide, by decide⟩ (Nat.le_of_ble_eq_true rfl) ⟨by decide, by decide⟩ ⟨rfl, hR⟩ (fun r49 μ49 hq49 hm49 => ?_) (fun _ _ h9 => h9)
        obtain ⟨rfl, hq9⟩ := hq49
        have hq9 := hq9.symm
        subst hq9
        dsimp only [Option.toList, List.nil_append, List.cons_append]
        refine mj_iret C dX6_converter_52 (by decide) (by decide) (by decide) ?_
        exact mfail ho rfl (by decide) rfl rfl (mR_x hR (Or.inl ⟨rfl, rfl⟩)) mF.rf
      · refine mj_iload (pc' := 33) C dX6_converter_31 rfl rfl ?_
        refine mj_iconst (pc' := 34) (v := 0) C dX6_converter_33 rfl rfl ?_
        refine mj_bipush (pc' := 36) (v := 100) C dX6_converter_34 rfl rfl ?_
        refine mj_callSN_3 (pc' := 39) C (c_X6_in hst co 0 100) dX6_converter_36 rfl km_X6_108 ks_yX6_in kn_X6 kc_yX6_in ⟨by decide, by decide, by decide +kernel⟩ ⟨by decide, by decide⟩ (Nat.le_of_ble_eq_true rfl) ⟨by decide, by decide⟩ rfl (fun r36 μ36 hq36 hm36 => ?_) (fun _ _ h9 => h9)
        obtain ⟨rfl, hq9⟩ := hq36
        have hq9 := hq9.symm
        subst hq9
        dsimp only [Option.toList, List.nil_append, List.cons_append]
        refine mj_if_eq (tgt := 47) (pc' := 42) C dX6_converter_39 (by decide) rfl (fun h39 => ?_) (fun h39 => ?_)
        · have ho : o_converter S (nI i) (nI j) lo co = (2, 0, S) := by unfold o_converter; rw [if_neg (fun h => h.elim hb1 hb2), if_pos (Or.inr (Or.inl (nin (b1_0.mp h39))))]
          refine mj_aload_n (pc' := 48) C dX6_converter_47 rfl rfl ?_
          refine mj_iconst (pc' := 49) (v := 2) C dX6_converter_48 rfl rfl ?_
          refine mj_callVN_1 (ci := 6) (pc' := 52) C (c_X6_fails hst S 2) dX6_converter_49 rfl km_X6_150 ki_yX6_fails kz_yX6_fails kn_X6 kc_yX6_fails rfl (by decide) (by decide) ⟨rfl, by decide, by decide, by decide +kernel⟩ ⟨by decide, by decide⟩ (Nat.le_of_ble_eq_true rfl) ⟨by decide, by decide⟩ ⟨rfl, hR⟩ (fun r49 μ49 hq49 hm49 => ?_) (fun _ _ h9 => h9)
          obtain ⟨rfl, hq9⟩ := hq49
          have hq9 := hq9.symm
          subst hq9
          dsimp only [Option.toList, List.nil_append, List.cons_append]
          refine mj_iret C dX6_converter_52 (by decide) (by decide) (by decide) ?_
          exact mfail ho rfl (by decide) rfl rfl (mR_x hR (Or.inl ⟨rfl, rfl⟩)) mF.rf
        · refine mj_iload_n (pc' := 43) C dX6_converter_42 rfl rfl ?_
          refine mj_iload_n (pc' := 44) C dX6_converter_43 rfl rfl ?_
          refine mj_icmp_ne (tgt := 53) (pc' := 47) C dX6_converter_44 (by decide) rfl (fun h44 => ?_) (fun h44 => ?_)
          · have hne : ¬ ((lo < 0 ∨ 500 < lo) ∨ (co < 0 ∨ 100 < co) ∨ nI i = nI j) := fun h => h.elim (inn (b1_n h28)) (fun h => h.elim (inn (b1_n h39)) h44)
            refine mj_aload_n (pc' := 54) C dX6_converter_53 rfl rfl ?_
            refine mj_getV (pc' := 57) C dX6_converter_54 rfl (ci := 6) (f := 29) rfl (by decide) (by decide) (fun _ => rfl) (by decide) kf_X6_118 hR.B.l0 hR.nc ?_
            refine mj_bipush (pc' := 59) (v := 30) C dX6_converter_57 rfl rfl ?_
            refine mj_icmp_ne (tgt := 68) (pc' := 62) C dX6_converter_59 (by decide) rfl (fun h59 => ?_) (fun h59 => ?_)
            · have hn30 : sn S 1 < 30 := by
                have q : ¬ sn S 1 = 30 := fun q => h59 (by rw [q]; rfl)
                omega
              refine mj_aload_n (pc' := 69) C dX6_converter_68 rfl rfl ?_
              refine mj_iconst (pc' := 70) (v := 0) C dX6_converter_69 rfl rfl ?_
              refine mj_putI (pc' := 73) C dX6_converter_70 rfl (ci := 6) (f := 35) rfl (by decide) (by decide) rfl (fun _ _ => rfl) (by decide) kf_X6_105 rfl rfl hR.B.l0 ?_
              have hR := mR_x (kd := 20) (i := 0) (z := 35) (v := 0) hR (Or.inl ⟨rfl, rfl⟩)
              have o1 : oG (cQ (sn S 1)) μ (sI μ 20 0 35 0) := oG_sI (Or.inr ⟨rfl, rfl, Or.inr (Or.inr rfl)⟩) oG.rf
              have z1 : mI (sI μ 20 0 35 0) 20 0 35 = nI 0 := z35
              generalize sI μ 20 0 35 0 = μ1 at hR o1 z1 ⊢
              refine mj_aload_n (pc' := 74) C dX6_converter_73 rfl rfl ?_
              refine mj_getR (pc' := 77) C dX6_converter_74 rfl (ci := 6) (f := 1) rfl (by decide) (by decide) (fun _ => rfl) (by decide) kf_X6_13 hR.B.l0 (hR.B.p 1 (by decide) rfl) ?_
              refine mj_aload_n (pc' := 78) C dX6_converter_77 rfl rfl ?_
              refine mj_getV (pc' := 81) C dX6_converter_78 rfl (ci := 6) (f := 29) rfl (by decide) (by decide) (fun _ => rfl) (by decide) kf_X6_118 hR.B.l0 hR.nc ?_
              refine mj_iload_n (pc' := 82) C dX6_converter_81 rfl rfl ?_
              refine mj_iast (pc' := 83) C dX6_converter_82 rfl rfl (by decide) (by decide) (hR.B.l 1 (by decide) rfl) rfl (by omega) ?_
              have hR := mR_w (v := nI i) hR 22 rfl (by omega) (Nat.le_refl (sl S 1))
              refine mj_aload_n (pc' := 84) C dX6_converter_83 rfl rfl ?_
              refine mj_getR (pc' := 87) C dX6_converter_84 rfl (ci := 6) (f := 2) rfl (by decide) (by decide) (fun _ => rfl) (by decide) kf_X6_16 hR.B.l0 (hR.B.p 2 (by decide) rfl) ?_
              refine mj_aload_n (pc' := 88) C dX6_converter_87 rfl rfl ?_
              refine mj_getV (pc' := 91) C dX6_converter_88 rfl (ci := 6) (f := 29) rfl (by decide) (by decide) (fun _ => rfl) (by decide) kf_X6_118 hR.B.l0 hR.nc ?_
              refine mj_iload_n (pc' := 92) C dX6_converter_91 rfl rfl ?_
              refine mj_iast (pc' := 93) C dX6_converter_92 rfl rfl (by decide) (by decide) (hR.B.l 2 (by decide) rfl) rfl (by omega) ?_
              have hR := mR_w (v := nI j) hR 23 rfl (by omega) (Nat.le_refl (sl S 2))
              have e1 : sl S 1 = sn S 1 := rfl
              have e2 : sl S 2 = sn S 1 := rfl
              rw [e1, e2] at hR
              have o2 : oG (cQ (sn S 1)) μ1 (sI (sI μ1 22 0 (sn S 1) (nI i)) 23 0 (sn S 1) (nI j)) := oG_sI (Or.inl ⟨by omega, by omega, rfl⟩) (oG_sI (Or.inl ⟨by omega, by omega, rfl⟩) oG.rf)
              have x22 : mI (sI (sI μ1 22 0 (sn S 1) (nI i)) 23 0 (sn S 1) (nI j)) 22 0 (sn S 1) = nI i := by rw [mI_sI_n _ _ _ _ _ (by omega), mI_sI_s]
              have x23 : mI (sI (sI μ1 22 0 (sn S 1) (nI i)) 23 0 (sn S 1) (nI j)) 23 0 (sn S 1) = nI j := mI_sI_s _ _ _ _ _
              have z2 : mI (sI (sI μ1 22 0 (sn S 1) (nI i)) 23 0 (sn S 1) (nI j)) 20 0 35 = nI 0 := by rw [mI_sI_n _ _ _ _ _ (by omega), mI_sI_n _ _ _ _ _ (by omega)]; exact z1
              generalize sI (sI μ1 22 0 (sn S 1) (nI i)) 23 0 (sn S 1) (nI j) = μ2 at hR o2 x22 x23 z2 ⊢
              refine mj_aload_n (pc' := 94) C dX6_converter_93 rfl rfl ?_
              refine mj_getR (pc' := 97) C dX6_converter_94 rfl (ci := 6) (f := 3) rfl (by decide) (by decide) (fun _ => rfl) (by decide) kf_X6_19 hR.B.l0 (hR.B.p 3 (by decide) rfl) ?_
              refine mj_aload_n (pc' := 98) C dX6_converter_97 rfl rfl ?_
              refine mj_getV (pc' := 101) C dX6_converter_98 rfl (ci := 6) (f := 29) rfl (by decide) (by decide) (fun _ => rfl) (by decide) kf_X6_118 hR.B.l0 hR.nc ?_
              refine mj_iload_n (pc' := 102) C dX6_converter_101 rfl rfl ?_
              refine mj_iast (pc' := 103) C dX6_converter_102 rfl rfl (by decide) (by decide) (hR.B.l 3 (by decide) rfl) rfl (by omega) ?_
              have hR := mR_w (v := lo) hR 24 rfl (by omega) (Nat.le_refl (sl S 3))
              refine mj_aload_n (pc' := 104) C dX6_converter_103 rfl rfl ?_
              refine mj_getR (pc' := 107) C dX6_converter_104 rfl (ci := 6) (f := 4) rfl (by decide) (by decide) (fun _ => rfl) (by decide) kf_X6_22 hR.B.l0 (hR.B.p 4 (by decide) rfl) ?_
              refine mj_aload_n (pc' := 108) C dX6_converter_107 rfl rfl ?_
              refine mj_getV (pc' := 111) C dX6_converter_108 rfl (ci := 6) (f := 29) rfl (by decide) (by decide) (fun _ => rfl) (by decide) kf_X6_118 hR.B.l0 hR.nc ?_
              refine mj_iload (pc' := 113) C dX6_converter_111 rfl rfl ?_
              refine mj_iast (pc' := 114) C dX6_converter_113 rfl rfl (by decide) (by decide) (hR.B.l 4 (by decide) rfl) rfl (by omega) ?_
              have hR := mR_w (v := co) hR 25 rfl (by omega) (Nat.le_refl (sl S 4))
              have e1 : sl S 3 = sn S 1 := rfl
              have e2 : sl S 4 = sn S 1 := rfl
              rw [e1, e2] at hR
              have o3 : oG (cQ (sn S 1)) μ2 (sI (sI μ2 24 0 (sn S 1) lo) 25 0 (sn S 1) co) := oG_sI (Or.inl ⟨by omega, by omega, rfl⟩) (oG_sI (Or.inl ⟨by omega, by omega, rfl⟩) oG.rf)
              have x24 : mI (sI (sI μ2 24 0 (sn S 1) lo) 25 0 (sn S 1) co) 24 0 (sn S 1) = lo := by rw [mI_sI_n _ _ _ _ _ (by omega), mI_sI_s]
              have x25 : mI (sI (sI μ2 24 0 (sn S 1) lo) 25 0 (sn S 1) co) 25 0 (sn S 1) = co := mI_sI_s _ _ _ _ _
              have g3 : ∀ kd z, kd < 24 → mI (sI (sI μ2 24 0 (sn S 1) lo) 25 0 (sn S 1) co) kd 0 z = mI μ2 kd 0 z := fun kd z h => by rw [mI_sI_n _ _ _ _ _ (by omega), mI_sI_n _ _ _ _ _ (by omega)]
              have x22 := (g3 22 _ (by omega)).trans x22
              have x23 := (g3 23 _ (by omega)).trans x23
              have z3 := (g3 20 35 (by omega)).trans z2
              clear g3
              generalize sI (sI μ2 24 0 (sn S 1) lo) 25 0 (sn S 1) co = μ3 at hR o3 x22 x23 x24 x25 z3 ⊢
              refine mj_aload_n (pc' := 115) C dX6_converter_114 rfl rfl ?_
              refine mj_dup (pc' := 116) C dX6_converter_115 rfl rfl ?_
              refine mj_getV (pc' := 119) C dX6_converter_116 rfl (ci := 6) (f := 29) rfl (by decide) (by decide) (fun _ => rfl) (by decide) kf_X6_118 hR.B.l0 hR.nc ?_
              refine mj_iconst (pc' := 120) (v := 1) C dX6_converter_119 rfl rfl ?_
              refine mj_iadd (pc' := 121) C dX6_converter_120 rfl ?_
              rw [nI_1]
              refine mj_putI (pc' := 124) C dX6_converter_121 rfl (ci := 6) (f := 29) rfl (by decide) (by decide) rfl (fun _ _ => rfl) (by decide) kf_X6_118 rfl rfl hR.B.l0 ?_
              refine mj_aload_n (pc' := 125) C dX6_converter_124 rfl rfl ?_
              refine mj_iconst (pc' := 126) (v := 0) C dX6_converter_125 rfl rfl ?_
              refine mj_putI (pc' := 129) C dX6_converter_126 rfl (ci := 6) (f := 34) rfl (by decide) (by decide) rfl (fun _ _ => rfl) (by decide) kf_X6_132 rfl rfl (by rw [mN_sI]; exact hR.B.l0) ?_
              refine mj_aload_n (pc' := 130) C dX6_converter_129 rfl rfl ?_
              refine mj_getV (pc' := 133) C dX6_converter_130 rfl (ci := 6) (f := 29) rfl (by decide) (by decide) (fun _ => rfl) (by decide) kf_X6_118 (by rw [mN_sI, mN_sI]; exact hR.B.l0) ((mI_sI_n _ _ _ _ _ (by omega)).trans (mI_sI_s _ _ _ _ _)) ?_
              refine mj_iconst (pc' := 134) (v := 1) C dX6_converter_133 rfl rfl ?_
              refine mj_isub (pc' := 135) C dX6_converter_134 rfl ?_
              rw [nI_pred]
              refine mj_iret C dX6_converter_135 (by decide) (by decide) (by decide) ?_
              have o4 : oG (cQ (sn S 1)) μ3 (sI (sI μ3 20 0 29 (nI (sn S 1 + 1))) 20 0 34 0) := oG_sI (Or.inr ⟨rfl, rfl, Or.inr (Or.inl rfl)⟩) (oG_sI (Or.inr ⟨rfl, rfl, Or.inl rfl⟩) oG.rf)
              have g4 : ∀ kd z, ¬ (kd = 20 ∧ (z = 29 ∨ z = 34)) → mI (sI (sI μ3 20 0 29 (nI (sn S 1 + 1))) 20 0 34 0) kd 0 z = mI μ3 kd 0 z := fun kd z h => by rw [mI_sI_n _ _ _ _ _ (by omega), mI_sI_n _ _ _ _ _ (by omega)]
              have oA := ((o1.tr o2).tr o3).tr o4
              refine mret_of (o := o_converter S (nI i) (nI j) lo co) (S' := sa (su (su (su (su (su S 1 (sn S 1) (nI i)) 2 (sn S 1) (nI j)) 3 (sn S 1) lo) 4 (sn S 1) co) 5 (sn S 1) 0) 1) (by unfold o_converter; rw [if_neg (fun h => h.elim hb1 hb2), if_neg hne, if_neg (by omega)]) ((g4 20 35 (by omega)).trans z3) (mR_addC hR0 oA ?_ (mI_sI_s _ _ _ _ _) ⟨?_, ?_, ?_, ?_⟩ ⟨?_, ?_⟩ (fun b x h => ?_)) (oA.mf (fun kd y z q => by unfold cQ at q; omega))
              · rw [mI_sI_n _ _ _ _ _ (by omega), mI_sI_s]
              · rw [g4 _ _ (by omega), x22]; simp [sf_sa, sf_su]
              · rw [g4 _ _ (by omega), x23]; simp [sf_sa, sf_su]
              · rw [g4 _ _ (by omega), x24]; simp [sf_sa, sf_su]
              · rw [g4 _ _ (by omega), x25]; simp [sf_sa, sf_su]
              · simp [sn_sa, sn_su]
              · simp [sn_sa, sn_su]
              · rw [sf_sa, sf_su]
                by_cases e : b = 5 ∧ x = sn S 1
                · rw [if_pos e, e.1, e.2, hZ _ (Nat.le_refl _)]
                · rw [if_neg e, sf_su, if_neg (by omega), sf_su, if_neg (by omega), sf_su, if_neg (by omega), sf_su, if_neg (by omega)]
            · have ho : o_converter S (nI i) (nI j) lo co = (3, 0, S) := by unfold o_converter; rw [if_neg (fun h => h.elim hb1 hb2), if_neg hne, if_pos ((nI_eq (b := 30) (by omega) (by decide)).mp h59)]
              refine mj_aload_n (pc' := 63) C dX6_converter_62 rfl rfl ?_
              refine mj_iconst (pc' := 64) (v := 3) C dX6_converter_63 rfl rfl ?_
              refine mj_callVN_1 (ci := 6) (pc' := 67) C (c_X6_fails hst S 3) dX6_converter_64 rfl km_X6_150 ki_yX6_fails kz_yX6_fails kn_X6 kc_yX6_fails rfl (by decide) (by decide) ⟨rfl, by decide, by decide, by decide +kernel⟩ ⟨by decide, by decide⟩ (Nat.le_of_ble_eq_true rfl) ⟨by decide, by decide⟩ ⟨rfl, hR⟩ (fun r64 μ64 hq64 hm64 => ?_) (fun _ _ h9 => h9)
              obtain ⟨rfl, hq9⟩ := hq64
              have hq9 := hq9.symm
              subst hq9
              dsimp only [Option.toList, List.nil_append, List.cons_append]
              refine mj_iret C dX6_converter_67 (by decide) (by decide) (by decide) ?_
              exact mfail ho rfl (by decide) rfl rfl (mR_x hR (Or.inl ⟨rfl, rfl⟩)) mF.rf
          · have ho : o_converter S (nI i) (nI j) lo co = (2, 0, S) := by unfold o_converter; rw [if_neg (fun h => h.elim hb1 hb2), if_pos (Or.inr (Or.inr h44))]
            refine mj_aload_n (pc' := 48) C dX6_converter_47 rfl rfl ?_
            refine mj_iconst (pc' := 49) (v := 2) C dX6_converter_48 rfl rfl ?_
            refine mj_callVN_1 (ci := 6) (pc' := 52) C (c_X6_fails hst S 2) dX6_converter_49 rfl km_X6_150 ki_yX6_fails kz_yX6_fails kn_X6 kc_yX6_fails rfl (by decide) (by decide) ⟨rfl, by decide, by decide, by decide +kernel⟩ ⟨by decide, by decide⟩ (Nat.le_of_ble_eq_true rfl) ⟨by decide, by decide⟩ ⟨rfl, hR⟩ (fun r49 μ49 hq49 hm49 => ?_) (fun _ _ h9 => h9)
            obtain ⟨rfl, hq9⟩ := hq49
            have hq9 := hq9.symm
            subst hq9
            dsimp only [Option.toList, List.nil_append, List.cons_append]
            refine mj_iret C dX6_converter_52 (by decide) (by decide) (by decide) ?_
            exact mfail ho rfl (by decide) rfl rfl (mR_x hR (Or.inl ⟨rfl, rfl⟩)) mF.rf
    · have ho : o_converter S (nI i) b lo co = (1, 0, S) := by unfold o_converter; rw [if_pos (Or.inr (b1_n h11))]
      refine mj_aload_n (pc' := 15) C dX6_converter_14 rfl rfl ?_
      refine mj_iconst (pc' := 16) (v := 1) C dX6_converter_15 rfl rfl ?_
      refine mj_callVN_1 (ci := 6) (pc' := 19) C (c_X6_fails hst S 1) dX6_converter_16 rfl km_X6_150 ki_yX6_fails kz_yX6_fails kn_X6 kc_yX6_fails rfl (by decide) (by decide) ⟨rfl, by decide, by decide, by decide +kernel⟩ ⟨by decide, by decide⟩ (Nat.le_of_ble_eq_true rfl) ⟨by decide, by decide⟩ ⟨rfl, hR⟩ (fun r16 μ16 hq16 hm16 => ?_) (fun _ _ h9 => h9)
      obtain ⟨rfl, hq9⟩ := hq16
      have hq9 := hq9.symm
      subst hq9
      dsimp only [Option.toList, List.nil_append, List.cons_append]
      refine mj_iret C dX6_converter_19 (by decide) (by decide) (by decide) ?_
      exact mfail ho rfl (by decide) rfl rfl (mR_x hR (Or.inl ⟨rfl, rfl⟩)) mF.rf
