/-! THE REFERENCE: WITHDRAW, THE FILE THAT IS MOVED NEXT -/
theorem mR_wd {S : jS} {μ : jM} {c : Nat} (h : mR S μ) : mR (su S 5 c 1) (sI (sI μ 26 0 c 1) 20 0 34 0) := by
  have hi : ∀ kd z, ¬ (kd = 26 ∧ z = c) → ¬ (kd = 20 ∧ z = 34) → mI (sI (sI μ 26 0 c 1) 20 0 34 0) kd 0 z = mI μ kd 0 z := fun kd z h1 h2 => by rw [mI_sI_n _ _ _ _ _ (by omega), mI_sI_n _ _ _ _ _ (by omega)]
  have e : ∀ a x, ¬ (a = 5 ∧ x = c) → sf (su S 5 c 1) a x = sf S a x := fun a x ha => by rw [sf_su, if_neg ha]
  refine ⟨h.B, ⟨by rw [hi _ _ (by omega) (by omega)]; exact h.nc, by rw [hi _ _ (by omega) (by omega)]; exact h.nf, by rw [hi _ _ (by omega) (by omega), e _ _ (by omega)]; exact h.bud, by rw [hi _ _ (by omega) (by omega), e _ _ (by omega)]; exact h.rest, by rw [hi _ _ (by omega) (by omega), e _ _ (by omega)]; exact h.now⟩, fun a i ha hi9 => ?_, Or.inl (mI_sI_s _ _ _ _ _), fun j hj => by rw [hi _ _ (by omega) (by omega)]; exact h.on hj⟩
  by_cases q : a = 5 ∧ i = c
  · rw [q.1, q.2, mI_sI_n _ _ _ _ _ (by omega), mI_sI_s, sf_su, if_pos ⟨rfl, rfl⟩]
  · rw [hi _ _ (by omega) (by omega), e _ _ q]
    exact h.v a ha rfl (by rw [← sl_cn (S := S) (S' := su S 5 c 1) rfl rfl a]; exact hi9)
theorem mR.gx {S : jS} {μ μ' : jM} (h : mR S μ) (hO : oG (fun kd _ _ => kd = 38 ∨ kd = 39) μ μ') : mR S μ' := by
  have hi : ∀ kd y z, ¬ (kd = 38 ∨ kd = 39) → mI μ' kd y z = mI μ kd y z := hO.2
  refine mR_gen h cK.rf rfl hO.1.1 hO.1.2.1 (fun kd y z hk => hi _ _ _ (by omega)) ?_ (hi _ _ _ (by omega)) (fun b j hb hj => ?_)
  · rw [hi _ _ _ (by omega), hi _ _ _ (by omega), hi _ _ _ (by omega), hi _ _ _ (by omega), hi _ _ _ (by omega)]
    exact ⟨h.nc, h.nf, h.bud, h.rest, h.now⟩
  · rw [hi _ _ _ (by omega)]
    exact h.v b hb rfl hj
theorem b1_nI {p : Prop} [Decidable p] (n : Nat) : nI n + b1 p = nI (n + if p then 1 else 0) := by
  unfold b1
  split
  · exact nI_1 n
  · exact Int32.add_zero _

set_option maxRecDepth 20000 in
theorem c_X6_withdraw {l : Launch} (hst : l.stackTraces = false) (S : jS) (c : Int32) : jMet l yX6_withdraw cX6_withdraw 4 (some FieldType.int) 10 260 0 0 (fun avs μ => avs = [aR 20 0, aI c] ∧ mR S μ ∧ sW S) (fun avs μ r μ' => mret (o_withdraw S c) kB r μ μ') (fun avs μ E μ' => False) := by
  refine jMet_of hst (by decide) ?_
  intro avs μ J C hav hpre
  obtain ⟨rfl, hR, hW⟩ := hpre
  refine ⟨Nat.le_of_ble_eq_true rfl, ?_⟩
  show J 0 [some (aR 20 0), some (aI c), none, none] [] μ 0 0
  have hW0 := hW.1.1
  have hW1 := hW.1.2
  have hR0 := hR
  refine mj_iload_n (pc' := 1) C dX6_withdraw_0 rfl rfl ?_
  refine mj_iconst (pc' := 2) (v := 0) C dX6_withdraw_1 rfl rfl ?_
  refine mj_aload_n (pc' := 3) C dX6_withdraw_2 rfl rfl ?_
  refine mj_getV (pc' := 6) C dX6_withdraw_3 rfl (ci := 6) (f := 29) rfl (by decide) (by decide) (fun _ => rfl) (by decide) kf_X6_118 hR.B.l0 hR.nc ?_
  refine mj_iconst (pc' := 7) (v := 1) C dX6_withdraw_6 rfl rfl ?_
  refine mj_isub (pc' := 8) C dX6_withdraw_7 rfl ?_
  refine mj_callSN_3 (pc' := 11) C (c_X6_in hst c 0 (nI (sn S 1) - 1)) dX6_withdraw_8 rfl km_X6_108 ks_yX6_in kn_X6 kc_yX6_in ⟨by decide, by decide, by decide +kernel⟩ ⟨by decide, by decide⟩ (Nat.le_of_ble_eq_true rfl) ⟨by decide, by decide⟩ rfl (fun r8 μ8 hq8 hm8 => ?_) (fun _ _ h9 => h9)
  obtain ⟨rfl, hq9⟩ := hq8
  have hq9 := hq9.symm
  subst hq9
  dsimp only [Option.toList, List.nil_append, List.cons_append]
  refine mj_if_ne (tgt := 20) (pc' := 14) C dX6_withdraw_11 (by decide) rfl (fun h11 => ?_) (fun h11 => ?_)
  · have hb : ¬ bad c (sn S 1) := (bad_in1 (by omega)).mp (b1_n h11)
    obtain ⟨k, hk, rfl, ek⟩ := bad_of hb (by omega)
    refine mj_aload_n (pc' := 21) C dX6_withdraw_20 rfl rfl ?_
    refine mj_getR (pc' := 24) C dX6_withdraw_21 rfl (ci := 6) (f := 5) rfl (by decide) (by decide) (fun _ => rfl) (by decide) kf_X6_25 hR.B.l0 (hR.B.p 5 (by decide) rfl) ?_
    refine mj_iload_n (pc' := 25) C dX6_withdraw_24 rfl rfl ?_
    refine mj_zaldV (pc' := 26) C dX6_withdraw_25 rfl rfl (by decide) (by decide) (hR.B.l 5 (by decide) rfl) rfl (by first | assumption | omega) (hR.v 5 (by decide) rfl (by unfold sl; simp <;> first | assumption | omega)) ?_
    refine mj_if_eq (tgt := 35) (pc' := 29) C dX6_withdraw_26 (by decide) rfl (fun h26 => ?_) (fun h26 => ?_)
    · refine mj_aload_n (pc' := 36) C dX6_withdraw_35 rfl rfl ?_
      refine mj_iconst (pc' := 37) (v := 0) C dX6_withdraw_36 rfl rfl ?_
      refine mj_putI (pc' := 40) C dX6_withdraw_37 rfl (ci := 6) (f := 35) rfl (by decide) (by decide) rfl (fun _ _ => rfl) (by decide) kf_X6_105 rfl rfl hR.B.l0 ?_
      have hR := mR_x (kd := 20) (i := 0) (z := 35) (v := 0) hR (Or.inl ⟨rfl, rfl⟩)
      refine mj_aload_n (pc' := 41) C dX6_withdraw_40 rfl rfl ?_
      refine mj_callVN_0 (ci := 6) (pc' := 44) C (c_X6_find hst S) dX6_withdraw_41 rfl km_X6_157 ki_yX6_find kz_yX6_find kn_X6 kc_yX6_find rfl (by decide) (by decide) ⟨rfl, by decide, by decide, by decide +kernel⟩ ⟨by decide, by decide⟩ (Nat.le_of_ble_eq_true rfl) ⟨by decide, by decide⟩ ⟨rfl, hR, hW⟩ (fun r41 μ41 hq41 hm41 => ?_) (fun _ _ h9 => h9)
      obtain ⟨rfl, hR41, hO41, h141⟩ := hq41
      dsimp only [Option.toList, List.nil_append, List.cons_append]
      have hR := hR41
      refine mj_iconst (pc' := 45) (v := 0) C dX6_withdraw_44 rfl rfl ?_
      refine mj_istore_n_2 (pc' := 46) C dX6_withdraw_45 rfl (by decide) rfl ?_
      have loop1 : ∀ (d : Nat) (t : Nat) (μ1 : jM), t + d = sn S 0 → oG (fun kd _ _ => kd = 38) μ41 μ1 → (∀ i, i < t → mI μ1 38 0 i = b1 (hvB S i = true)) → J 46 [some (aR 20 0), some (aI (nI k)), some (aI (nI t)), none] [] μ1 0 0 := by
        intro d
        induction d with
        | zero =>
          intro t μ1 hd hO hz
          have hR := hR41.gx (hO.up (fun _ _ _ q => Or.inl q))
          have h11 : mI μ1 20 0 34 = 1 := (hO.2 20 0 34 (by omega)).trans h141
          obtain rfl : t = sn S 0 := by omega
          refine mj_iload_n (pc' := 47) C dX6_withdraw_46 rfl rfl ?_
          refine mj_aload_n (pc' := 48) C dX6_withdraw_47 rfl rfl ?_
          refine mj_getV (pc' := 51) C dX6_withdraw_48 rfl (ci := 6) (f := 30) rfl (by decide) (by decide) (fun _ => rfl) (by decide) kf_X6_112 hR.B.l0 hR.nf ?_
          refine mj_icmp_ge (tgt := 80) (pc' := 54) C dX6_withdraw_51 (by decide) rfl (fun _ => ?_) (fun h9 => absurd (Int32.le_refl _) h9)
          refine mj_aload_n (pc' := 81) C dX6_withdraw_80 rfl rfl ?_
          refine mj_getR (pc' := 84) C dX6_withdraw_81 rfl (ci := 6) (f := 5) rfl (by decide) (by decide) (fun _ => rfl) (by decide) kf_X6_25 hR.B.l0 (hR.B.p 5 (by decide) rfl) ?_
          refine mj_iload_n (pc' := 85) C dX6_withdraw_84 rfl rfl ?_
          refine mj_iconst (pc' := 86) (v := 1) C dX6_withdraw_85 rfl rfl ?_
          refine mj_zast (pc' := 87) C dX6_withdraw_86 rfl rfl (by decide) (by decide) rfl (hR.B.l 5 (by decide) rfl) rfl (by omega) ?_
          refine mj_aload_n (pc' := 88) C dX6_withdraw_87 rfl rfl ?_
          refine mj_iconst (pc' := 89) (v := 0) C dX6_withdraw_88 rfl rfl ?_
          refine mj_putI (pc' := 92) C dX6_withdraw_89 rfl (ci := 6) (f := 34) rfl (by decide) (by decide) rfl (fun _ _ => rfl) (by decide) kf_X6_132 rfl rfl hR.B.l0 ?_
          have hR := mR_wd (c := k) hR
          have o2 : oG (fun kd _ z => kd = 26 ∨ (kd = 20 ∧ z = 34)) _ _ := oG_sI (μ0 := μ1) (kd := 20) (y := 0) (z := 34) (v := 0) (Or.inr ⟨rfl, rfl⟩) (oG_sI (kd := 26) (y := 0) (z := k) (v := 1) (Or.inl rfl) oG.rf)
          generalize sI (sI μ1 26 0 k 1) 20 0 34 0 = μ2 at hR o2 ⊢
          refine mj_aload_n (pc' := 93) C dX6_withdraw_92 rfl rfl ?_
          refine mj_callVN_0 (ci := 6) (pc' := 96) C (c_X6_find hst (su S 5 k 1)) dX6_withdraw_93 rfl km_X6_157 ki_yX6_find kz_yX6_find kn_X6 kc_yX6_find rfl (by decide) (by decide) ⟨rfl, by decide, by decide, by decide +kernel⟩ ⟨by decide, by decide⟩ (Nat.le_of_ble_eq_true rfl) ⟨by decide, by decide⟩ ⟨rfl, hR, sW_5 hW⟩ (fun r93 μ93 hq93 hm93 => ?_) (fun _ _ h9 => h9)
          obtain ⟨rfl, hR93, hO93, h193⟩ := hq93
          dsimp only [Option.toList, List.nil_append, List.cons_append]
          have hR := hR93
          have z93 : mI μ93 20 0 35 = nI 0 := z35f ((o2.2 20 0 35 (by omega)).trans ((hO.2 20 0 35 (by omega)).trans (z35f z35 hO41))) hO93
          have had93 : ∀ i, i < sn S 0 → mI μ93 38 0 i = b1 (hvB S i = true) := fun i hi => (hO93.2 38 0 i (by unfold fQ gQ; omega)).trans ((o2.2 38 0 i (by omega)).trans (hz i hi))
          have oA : mF μ μ93 := ((((mF_sI (by decide) mF.rf).tr hO41.f2).tr (hO.mf (fun kd y z q => by omega))).tr (o2.mf (fun kd y z q => by omega))).tr hO93.f2
          refine mj_iconst (pc' := 97) (v := 0) C dX6_withdraw_96 rfl rfl ?_
          refine mj_istore_n_2 (pc' := 98) C dX6_withdraw_97 rfl (by decide) rfl ?_
          refine mj_iconst (pc' := 99) (v := 0) C dX6_withdraw_98 rfl rfl ?_
          refine mj_istore_n_3 (pc' := 100) C dX6_withdraw_99 rfl (by decide) rfl ?_
          have loop2 : ∀ (d : Nat) (t : Nat), t + d = sn S 0 → J 100 [some (aR 20 0), some (aI (nI k)), some (aI (nI (lostHv S (su S 5 k 1) t))), some (aI (nI t))] [] μ93 0 0 := by
            intro d
            induction d with
            | zero =>
              intro t hd
              obtain rfl : t = sn S 0 := by omega
              refine mj_iload_n (pc' := 101) C dX6_withdraw_100 rfl rfl ?_
              refine mj_aload_n (pc' := 102) C dX6_withdraw_101 rfl rfl ?_
              refine mj_getV (pc' := 105) C dX6_withdraw_102 rfl (ci := 6) (f := 30) rfl (by decide) (by decide) (fun _ => rfl) (by decide) kf_X6_112 hR.B.l0 hR.nf ?_
              refine mj_icmp_ge (tgt := 140) (pc' := 108) C dX6_withdraw_105 (by decide) rfl (fun _ => ?_) (fun h9 => absurd (Int32.le_refl _) h9)
              refine mj_iload_n (pc' := 141) C dX6_withdraw_140 rfl rfl ?_
              refine mj_iret C dX6_withdraw_141 (by decide) (by decide) (by decide) ?_
              exact mret_of (o := o_withdraw S (nI k)) (by unfold o_withdraw; rw [if_neg hb, ek, if_neg (fun h => h h26)]) z93 hR oA
            | succ d ih =>
              intro t hd
              have hlt : t < sn S 0 := by omega
              refine mj_iload_n (pc' := 101) C dX6_withdraw_100 rfl rfl ?_
              refine mj_aload_n (pc' := 102) C dX6_withdraw_101 rfl rfl ?_
              refine mj_getV (pc' := 105) C dX6_withdraw_102 rfl (ci := 6) (f := 30) rfl (by decide) (by decide) (fun _ => rfl) (by decide) kf_X6_112 hR.B.l0 hR.nf ?_
              refine mj_icmp_ge (tgt := 140) (pc' := 108) C dX6_withdraw_105 (by decide) rfl (fun h9 => absurd h9 (show ¬ nI (sn S 0) ≤ nI t from nI_ge hlt (by omega))) (fun _ => ?_)
              refine mj_iload_n (pc' := 109) C dX6_withdraw_108 rfl rfl ?_
              refine mj_aload_n (pc' := 110) C dX6_withdraw_109 rfl rfl ?_
              refine mj_getR (pc' := 113) C dX6_withdraw_110 rfl (ci := 6) (f := 17) rfl (by decide) (by decide) (fun _ => rfl) (by decide) kf_X6_62 hR.B.l0 (hR.B.p 17 (by decide) rfl) ?_
              refine mj_iload_n (pc' := 114) C dX6_withdraw_113 rfl rfl ?_
              refine mj_zaldV (pc' := 115) C dX6_withdraw_114 rfl rfl (by decide) (by decide) (hR.B.l 17 (by decide) rfl) rfl (by omega) ((had93 t hlt)) ?_
              refine jn (tgt := 132) (v := aI (b1 (hv S t ≠ -1 ∧ hv (su S 5 k 1) t = -1))) (st := [aI (nI (lostHv S (su S 5 k 1) t))]) (fun K115 => ?_) ?_
              · refine mj_if_eq (tgt := 131) (pc' := 118) C dX6_withdraw_115 (by decide) rfl (fun h115 => ?_) (fun h115 => ?_)
                · have ej : b1 (hv S t ≠ -1 ∧ hv (su S 5 k 1) t = -1) = 0 := b1_f (fun q => b1_0.mp h115 (decide_eq_true q.1))
                  refine mj_iconst (pc' := 132) (v := 0) C dX6_withdraw_131 rfl rfl ?_
                  rw [ej] at K115
                  exact K115
                · refine mj_aload_n (pc' := 119) C dX6_withdraw_118 rfl rfl ?_
                  refine mj_iload_n (pc' := 120) C dX6_withdraw_119 rfl rfl ?_
                  refine mj_callVN_1 (ci := 6) (pc' := 123) C (c_X6_havenOf hst (su S 5 k 1) t) dX6_withdraw_120 rfl km_X6_160 ki_yX6_havenOf kz_yX6_havenOf kn_X6 kc_yX6_havenOf rfl (by decide) (by decide) ⟨rfl, by decide, by decide, by decide +kernel⟩ ⟨by decide, by decide⟩ (Nat.le_of_ble_eq_true rfl) ⟨by decide, by decide⟩ ⟨rfl, hR, sW_5 hW, hlt, fun a ha => hR.tab h193 ha⟩ (fun r120 μ120 hq120 hm120 => ?_) (fun _ _ h9 => h9)
                  obtain ⟨rfl, hq9⟩ := hq120
                  have hq9 := hq9.symm
                  subst hq9
                  dsimp only [Option.toList, List.nil_append, List.cons_append]
                  refine mj_iconst (pc' := 124) (v := (-1)) C dX6_withdraw_123 rfl rfl ?_
                  refine mj_icmp_ne (tgt := 131) (pc' := 127) C dX6_withdraw_124 (by decide) rfl (fun h124 => ?_) (fun h124 => ?_)
                  · have ej : b1 (hv S t ≠ -1 ∧ hv (su S 5 k 1) t = -1) = 0 := b1_f (fun q => h124 q.2)
                    refine mj_iconst (pc' := 132) (v := 0) C dX6_withdraw_131 rfl rfl ?_
                    rw [ej] at K115
                    exact K115
                  · have ej : b1 (hv S t ≠ -1 ∧ hv (su S 5 k 1) t = -1) = 1 := b1_t ⟨of_decide_eq_true (b1_n h115), h124⟩
                    refine mj_iconst (pc' := 128) (v := 1) C dX6_withdraw_127 rfl rfl ?_
                    refine mj_goto (pc' := 132) C dX6_withdraw_128 (by decide) ?_
                    rw [ej] at K115
                    exact K115
              refine mj_iadd (pc' := 133) C dX6_withdraw_132 rfl ?_
              refine mj_istore_n_2 (pc' := 134) C dX6_withdraw_133 rfl (by decide) rfl ?_
              refine mj_iinc_3 (pc' := 137) (w := 1) C dX6_withdraw_134 rfl rfl (by decide) rfl ?_
              refine mj_goto (pc' := 100) C dX6_withdraw_137 (by decide) ?_
              rw [b1_nI, nI_1]
              exact ih (t + 1) (by omega)
          exact loop2 (sn S 0) 0 (Nat.zero_add _)
        | succ d ih =>
          intro t μ1 hd hO hz
          have hR := hR41.gx (hO.up (fun _ _ _ q => Or.inl q))
          have h11 : mI μ1 20 0 34 = 1 := (hO.2 20 0 34 (by omega)).trans h141
          have hlt : t < sn S 0 := by omega
          refine mj_iload_n (pc' := 47) C dX6_withdraw_46 rfl rfl ?_
          refine mj_aload_n (pc' := 48) C dX6_withdraw_47 rfl rfl ?_
          refine mj_getV (pc' := 51) C dX6_withdraw_48 rfl (ci := 6) (f := 30) rfl (by decide) (by decide) (fun _ => rfl) (by decide) kf_X6_112 hR.B.l0 hR.nf ?_
          refine mj_icmp_ge (tgt := 80) (pc' := 54) C dX6_withdraw_51 (by decide) rfl (fun h9 => absurd h9 (nI_ge hlt (by omega))) (fun _ => ?_)
          refine mj_aload_n (pc' := 55) C dX6_withdraw_54 rfl rfl ?_
          refine mj_getR (pc' := 58) C dX6_withdraw_55 rfl (ci := 6) (f := 17) rfl (by decide) (by decide) (fun _ => rfl) (by decide) kf_X6_62 hR.B.l0 (hR.B.p 17 (by decide) rfl) ?_
          refine mj_iload_n (pc' := 59) C dX6_withdraw_58 rfl rfl ?_
          refine mj_aload_n (pc' := 60) C dX6_withdraw_59 rfl rfl ?_
          refine mj_iload_n (pc' := 61) C dX6_withdraw_60 rfl rfl ?_
          refine mj_callVN_1 (ci := 6) (pc' := 64) C (c_X6_havenOf hst S t) dX6_withdraw_61 rfl km_X6_160 ki_yX6_havenOf kz_yX6_havenOf kn_X6 kc_yX6_havenOf rfl (by decide) (by decide) ⟨rfl, by decide, by decide, by decide +kernel⟩ ⟨by decide, by decide⟩ (Nat.le_of_ble_eq_true rfl) ⟨by decide, by decide⟩ ⟨rfl, hR, hW, hlt, fun a ha => hR.tab h11 ha⟩ (fun r61 μ61 hq61 hm61 => ?_) (fun _ _ h9 => h9)
          obtain ⟨rfl, hq9⟩ := hq61
          have hq9 := hq9.symm
          subst hq9
          dsimp only [Option.toList, List.nil_append, List.cons_append]
          refine mj_iconst (pc' := 65) (v := (-1)) C dX6_withdraw_64 rfl rfl ?_
          refine jn (tgt := 73) (v := aI (b1 (hvB S t = true))) (st := [aI (nI t), aR 38 0]) (fun K65 => ?_) ?_
          · refine mj_icmp_eq (tgt := 72) (pc' := 68) C dX6_withdraw_65 (by decide) rfl (fun h65 => ?_) (fun h65 => ?_)
            · have ej : b1 (hvB S t = true) = 0 := b1_f (fun q => (show hv S t ≠ -1 from of_decide_eq_true q) h65)
              refine mj_iconst (pc' := 73) (v := 0) C dX6_withdraw_72 rfl rfl ?_
              rw [ej] at K65
              exact K65
            · have ej : b1 (hvB S t = true) = 1 := b1_t (decide_eq_true h65)
              refine mj_iconst (pc' := 69) (v := 1) C dX6_withdraw_68 rfl rfl ?_
              refine mj_goto (pc' := 73) C dX6_withdraw_69 (by decide) ?_
              rw [ej] at K65
              exact K65
          refine mj_zast (pc' := 74) C dX6_withdraw_73 rfl rfl (by decide) (by decide) b1_and (hR.B.l 17 (by decide) rfl) rfl (by omega) ?_
          refine mj_iinc_2 (pc' := 77) (w := 1) C dX6_withdraw_74 rfl rfl (by decide) rfl ?_
          refine mj_goto (pc' := 46) C dX6_withdraw_77 (by decide) ?_
          rw [nI_1]
          refine ih (t + 1) _ (by omega) (oG_sI rfl hO) (fun i hi => ?_)
          by_cases e : i = t
          · subst e; exact mI_sI_s _ _ _ _ _
          · rw [mI_sI_n _ _ _ _ _ (by omega)]; exact hz i (by omega)
      exact loop1 (sn S 0) 0 _ (Nat.zero_add _) oG.rf (fun i h => absurd h (Nat.not_lt_zero i))
    · have ho : o_withdraw S (nI k) = (3, 0, S) := by unfold o_withdraw; rw [if_neg hb, ek, if_pos h26]
      refine mj_aload_n (pc' := 30) C dX6_withdraw_29 rfl rfl ?_
      refine mj_iconst (pc' := 31) (v := 2) C dX6_withdraw_30 rfl rfl ?_
      refine mj_callVN_1 (ci := 6) (pc' := 34) C (c_X6_fails hst S 2) dX6_withdraw_31 rfl km_X6_150 ki_yX6_fails kz_yX6_fails kn_X6 kc_yX6_fails rfl (by decide) (by decide) ⟨rfl, by decide, by decide, by decide +kernel⟩ ⟨by decide, by decide⟩ (Nat.le_of_ble_eq_true rfl) ⟨by decide, by decide⟩ ⟨rfl, hR⟩ (fun r31 μ31 hq31 hm31 => ?_) (fun _ _ h9 => h9)
      obtain ⟨rfl, hq9⟩ := hq31
      have hq9 := hq9.symm
      subst hq9
      dsimp only [Option.toList, List.nil_append, List.cons_append]
      refine mj_iret C dX6_withdraw_34 (by decide) (by decide) (by decide) ?_
      exact mfail ho rfl (by decide) rfl rfl (mR_x hR (Or.inl ⟨rfl, rfl⟩)) mF.rf
  · have ho : o_withdraw S c = (1, 0, S) := by unfold o_withdraw; rw [if_pos (Decidable.not_not.mp (fun h => b1_0.mp h11 ((bad_in1 (by omega)).mpr h)))]
    refine mj_aload_n (pc' := 15) C dX6_withdraw_14 rfl rfl ?_
    refine mj_iconst (pc' := 16) (v := 1) C dX6_withdraw_15 rfl rfl ?_
    refine mj_callVN_1 (ci := 6) (pc' := 19) C (c_X6_fails hst S 1) dX6_withdraw_16 rfl km_X6_150 ki_yX6_fails kz_yX6_fails kn_X6 kc_yX6_fails rfl (by decide) (by decide) ⟨rfl, by decide, by decide, by decide +kernel⟩ ⟨by decide, by decide⟩ (Nat.le_of_ble_eq_true rfl) ⟨by decide, by decide⟩ ⟨rfl, hR⟩ (fun r16 μ16 hq16 hm16 => ?_) (fun _ _ h9 => h9)
    obtain ⟨rfl, hq9⟩ := hq16
    have hq9 := hq9.symm
    subst hq9
    dsimp only [Option.toList, List.nil_append, List.cons_append]
    refine mj_iret C dX6_withdraw_19 (by decide) (by decide) (by decide) ?_
    exact mfail ho rfl (by decide) rfl rfl (mR_x hR (Or.inl ⟨rfl, rfl⟩)) mF.rf
