/-! THE REFERENCE: MOVED AHEAD -/
theorem mv_n {S : jS} {Q : Nat → Bool} {n : Nat} (h : nd S Q (sn S 0) = none) : mv n Q S = (0, S) := by
  cases n with
  | zero => rfl
  | succ n => unfold mv; rw [h]

set_option maxRecDepth 20000 in
theorem c_X6_moveAhead {l : Launch} (hst : l.stackTraces = false) (S : jS) : jMet l yX6_moveAhead cX6_moveAhead 4 (some FieldType.int) 10 260 0 0 (fun avs μ => avs = [aR 20 0] ∧ mR S μ ∧ sW S) (fun avs μ r μ' => r = some (aI (o_moveAhead S).2.1) ∧ mI μ' 20 0 35 = nI 0 ∧ mR (o_moveAhead S).2.2 μ' ∧ mF μ μ') (fun avs μ E μ' => False) := by
  refine jMet_of hst (by decide) ?_
  intro avs μ J C hav hpre
  obtain ⟨rfl, hR, hW⟩ := hpre
  refine ⟨Nat.le_of_ble_eq_true rfl, ?_⟩
  show J 0 [some (aR 20 0), none, none, none] [] μ 0 0
  have hW0 := hW.1.1
  have hW1 := hW.1.2
  obtain ⟨m0, em⟩ : ∃ m0, m0 = (mv (sn S 0) (fun i => hvB S i && !sfB S i && decide (i < sn S 0)) S).1 := ⟨_, rfl⟩
  obtain ⟨Sf, eS⟩ : ∃ Sf, Sf = (mv (sn S 0) (fun i => hvB S i && !sfB S i && decide (i < sn S 0)) S).2 := ⟨_, rfl⟩
  have eo : o_moveAhead S = (0, nI m0, Sf) := by rw [em, eS]; rfl
  rw [eo] at C
  refine mj_aload_n (pc' := 1) C dX6_moveAhead_0 rfl rfl ?_
  refine mj_iconst (pc' := 2) (v := 0) C dX6_moveAhead_1 rfl rfl ?_
  refine mj_putI (pc' := 5) C dX6_moveAhead_2 rfl (ci := 6) (f := 35) rfl (by decide) (by decide) rfl (fun _ _ => rfl) (by decide) kf_X6_105 rfl rfl hR.B.l0 ?_
  have hR := mR_x (kd := 20) (i := 0) (z := 35) (v := 0) hR (Or.inl ⟨rfl, rfl⟩)
  refine mj_aload_n (pc' := 6) C dX6_moveAhead_5 rfl rfl ?_
  refine mj_callVN_0 (ci := 6) (pc' := 9) C (c_X6_find hst S) dX6_moveAhead_6 rfl km_X6_157 ki_yX6_find kz_yX6_find kn_X6 kc_yX6_find rfl (by decide) (by decide) ⟨rfl, by decide, by decide, by decide +kernel⟩ ⟨by decide, by decide⟩ (Nat.le_of_ble_eq_true rfl) ⟨by decide, by decide⟩ ⟨rfl, hR, hW⟩ (fun r6 μ6 hq6 hm6 => ?_) (fun _ _ h9 => h9)
  obtain ⟨rfl, hR6, hO6, h16⟩ := hq6
  dsimp only [Option.toList, List.nil_append, List.cons_append]
  have hR := hR6
  refine mj_iconst (pc' := 10) (v := 0) C dX6_moveAhead_9 rfl rfl ?_
  refine mj_istore_n_1 (pc' := 11) C dX6_moveAhead_10 rfl (by decide) rfl ?_
  have loop1 : ∀ (d : Nat) (t : Nat) (μ1 : jM), t + d = sn S 0 → oG (fun kd _ _ => kd = 39) μ6 μ1 → (∀ i, i < t → mI μ1 39 0 i = b1 ((hvB S i && !sfB S i && decide (i < sn S 0)) = true)) → J 11 [some (aR 20 0), some (aI (nI t)), none, none] [] μ1 0 0 := by
    intro d
    induction d with
    | zero =>
      intro t μ1 hd hO hz
      have hR := hR6.gx (hO.up (fun _ _ _ q => Or.inr q))
      have h11 : mI μ1 20 0 34 = 1 := (hO.2 20 0 34 (by omega)).trans h16
      obtain rfl : t = sn S 0 := by omega
      refine mj_iload_n (pc' := 12) C dX6_moveAhead_11 rfl rfl ?_
      refine mj_aload_n (pc' := 13) C dX6_moveAhead_12 rfl rfl ?_
      refine mj_getV (pc' := 16) C dX6_moveAhead_13 rfl (ci := 6) (f := 30) rfl (by decide) (by decide) (fun _ => rfl) (by decide) kf_X6_112 hR.B.l0 hR.nf ?_
      refine mj_icmp_ge (tgt := 68) (pc' := 19) C dX6_moveAhead_16 (by decide) rfl (fun _ => ?_) (fun h9 => absurd (Int32.le_refl _) h9)
      refine mj_iconst (pc' := 69) (v := 0) C dX6_moveAhead_68 rfl rfl ?_
      refine mj_istore_n_1 (pc' := 70) C dX6_moveAhead_69 rfl (by decide) rfl ?_
      refine mj_aload_n (pc' := 71) C dX6_moveAhead_70 rfl rfl ?_
      refine mj_callVN_0 (ci := 6) (pc' := 74) C (c_X6_nextDue hst S (fun i => hvB S i && !sfB S i && decide (i < sn S 0))) dX6_moveAhead_71 rfl km_X6_173 ki_yX6_nextDue kz_yX6_nextDue kn_X6 kc_yX6_nextDue rfl (by decide) (by decide) ⟨rfl, by decide, by decide, by decide +kernel⟩ ⟨by decide, by decide⟩ (Nat.le_of_ble_eq_true rfl) ⟨by decide, by decide⟩ ⟨rfl, hR, hW, hz⟩ (fun r71 μ71 hq71 hm71 => ?_) (fun _ _ h9 => h9)
      obtain ⟨rfl, hq9⟩ := hq71
      have hq9 := hq9.symm
      subst hq9
      dsimp only [Option.toList, List.nil_append, List.cons_append]
      refine mj_istore_n_2 (pc' := 75) C dX6_moveAhead_74 rfl (by decide) rfl ?_
      have loop2 : ∀ (d : Nat) (Q : Nat → Bool) (S1 : jS) (mvd : Nat) (μ2 : jM) (x3 : Option jV), cnt Q (sn S 0) ≤ d → sn S1 0 = sn S 0 → sW S1 → mR S1 μ2 → mI μ2 20 0 34 = 1 → mI μ2 20 0 35 = nI 0 → mF μ μ2 → (∀ i, i < sn S 0 → mI μ2 39 0 i = b1 (Q i = true)) → (∀ i, Q i = true → hv S1 i ≠ -1) → (mvd + (mv d Q S1).1 = m0 ∧ (mv d Q S1).2 = Sf) → J 75 [some (aR 20 0), some (aI (nI mvd)), some (aI (dv S1 Q (sn S 0))), x3] [] μ2 0 0 := by
        intro d
        induction d with
        | zero =>
          intro Q S1 mvd μ2 x3 hd hn hW1 hR1 h1 hz5 hF hdue hhv hm
          have hW01 := hW1.1.1
          have hW11 := hW1.1.2
          have hnn : nd S1 Q (sn S1 0) = none := by
            cases hk : nd S1 Q (sn S1 0) with
            | none => rfl
            | some k =>
              obtain ⟨k1, k2⟩ := (nd_s _).1 k hk
              rw [cnt_0 _ (Nat.le_zero.mp hd) k (by omega)] at k2
              cases k2
          have edv : dv S1 Q (sn S 0) = -1 := by unfold dv; rw [← hn, hnn]
          obtain ⟨hm1, hm2⟩ := hm
          rw [mv_n hnn] at hm1 hm2
          have e1 : mvd = m0 := hm1
          have e2 : S1 = Sf := hm2
          rw [edv]
          refine mj_iload_n (pc' := 76) C dX6_moveAhead_75 rfl rfl ?_
          refine mj_iconst (pc' := 77) (v := (-1)) C dX6_moveAhead_76 rfl rfl ?_
          refine mj_icmp_eq (tgt := 119) (pc' := 80) C dX6_moveAhead_77 (by decide) rfl (fun _ => ?_) (fun h9 => absurd rfl h9)
          refine mj_iload_n (pc' := 120) C dX6_moveAhead_119 rfl rfl ?_
          refine mj_iret C dX6_moveAhead_120 (by decide) (by decide) (by decide) ?_
          exact ⟨by rw [e1], hz5, by rw [← e2]; exact hR1, hF⟩
        | succ d ih =>
          intro Q S1 mvd μ2 x3 hd hn hW1 hR1 h1 hz5 hF hdue hhv hm
          have hW01 := hW1.1.1
          have hW11 := hW1.1.2
          refine mj_iload_n (pc' := 76) C dX6_moveAhead_75 rfl rfl ?_
          refine mj_iconst (pc' := 77) (v := (-1)) C dX6_moveAhead_76 rfl rfl ?_
          refine mj_icmp_eq (tgt := 119) (pc' := 80) C dX6_moveAhead_77 (by decide) rfl (fun h77 => ?_) (fun h77 => ?_)
          · have hnn : nd S1 Q (sn S1 0) = none := by
              cases hk : nd S1 Q (sn S1 0) with
              | none => rfl
              | some k =>
                have h := h77
                unfold dv at h
                rw [← hn, hk] at h
                have := ((nd_s _).1 k hk).1
                exact absurd h (nI_m1 (by omega))
            obtain ⟨hm1, hm2⟩ := hm
            rw [mv_n hnn] at hm1 hm2
            have e1 : mvd = m0 := hm1
            have e2 : S1 = Sf := hm2
            refine mj_iload_n (pc' := 120) C dX6_moveAhead_119 rfl rfl ?_
            refine mj_iret C dX6_moveAhead_120 (by decide) (by decide) (by decide) ?_
            exact ⟨by rw [e1], hz5, by rw [← e2]; exact hR1, hF⟩
          · obtain ⟨i, hnd⟩ : ∃ i, nd S1 Q (sn S1 0) = some i := by
              cases hk : nd S1 Q (sn S1 0) with
              | some k => exact ⟨k, rfl⟩
              | none => exact absurd (by unfold dv; rw [← hn, hk]) h77
            obtain ⟨hi, hQi⟩ := (nd_s _).1 i hnd
            have edv : dv S1 Q (sn S 0) = nI i := by unfold dv; rw [← hn, hnd]
            rw [edv]
            have hvi := hhv i hQi
            obtain ⟨j, hj, ehv⟩ : ∃ j, j < 10 ∧ hv S1 i = nI j := by
              by_cases hs : sf S1 15 i = 0
              · rw [hv_k hW1 hi hs] at hvi ⊢
                rcases hd_in S1 i 10 with e | h
                · exact absurd e hvi
                · exact h
              · exact absurd (hv_n hs) hvi
            have eix : ix (hv S1 i) = j := by rw [ehv]; exact ix_nI (by omega)
            have hcn : cnt (fun x => Q x && !decide (x = i)) (sn S 0) ≤ d := by
              have := cnt_rm hQi (sn S 0)
              rw [if_pos (by omega)] at this
              omega
            refine mj_aload_n (pc' := 81) C dX6_moveAhead_80 rfl rfl ?_
            refine mj_getR (pc' := 84) C dX6_moveAhead_81 rfl (ci := 6) (f := 18) rfl (by decide) (by decide) (fun _ => rfl) (by decide) kf_X6_65 hR1.B.l0 (hR1.B.p 18 (by decide) rfl) ?_
            refine mj_iload_n (pc' := 85) C dX6_moveAhead_84 rfl rfl ?_
            refine mj_iconst (pc' := 86) (v := 0) C dX6_moveAhead_85 rfl rfl ?_
            refine mj_zast (pc' := 87) C dX6_moveAhead_86 rfl rfl (by decide) (by decide) rfl (hR1.B.l 18 (by decide) rfl) rfl (by omega) ?_
            have oD : oG (fun kd _ _ => kd = 39) μ2 (sI μ2 39 0 i 0) := oG_sI rfl oG.rf
            have hdue2 : ∀ x, x < sn S 0 → mI (sI μ2 39 0 i 0) 39 0 x = b1 ((Q x && !decide (x = i)) = true) := fun x hx => by
              by_cases e : x = i
              · subst e
                rw [mI_sI_s]
                exact (b1_f (by simp)).symm
              · rw [mI_sI_n _ _ _ _ _ (by omega), hdue x hx]
                simp [e]
            generalize sI μ2 39 0 i 0 = μ3 at oD hdue2 ⊢
            have hR1 := hR1.gx (oD.up (fun _ _ _ q => Or.inr q))
            have h1 := (oD.2 20 0 34 (by omega)).trans h1
            have hz5 := (oD.2 20 0 35 (by omega)).trans hz5
            have hF := hF.tr (oD.mf (fun kd y z q => by omega))
            refine mj_aload_n (pc' := 88) C dX6_moveAhead_87 rfl rfl ?_
            refine mj_iload_n (pc' := 89) C dX6_moveAhead_88 rfl rfl ?_
            refine mj_callVN_1 (ci := 6) (pc' := 92) C (c_X6_havenOf hst S1 i) dX6_moveAhead_89 rfl km_X6_160 ki_yX6_havenOf kz_yX6_havenOf kn_X6 kc_yX6_havenOf rfl (by decide) (by decide) ⟨rfl, by decide, by decide, by decide +kernel⟩ ⟨by decide, by decide⟩ (Nat.le_of_ble_eq_true rfl) ⟨by decide, by decide⟩ ⟨rfl, hR1, hW1, hi, fun a ha => hR1.tab h1 ha⟩ (fun r89 μ89 hq89 hm89 => ?_) (fun _ _ h9 => h9)
            obtain ⟨rfl, hq9⟩ := hq89
            have hq9 := hq9.symm
            subst hq9
            dsimp only [Option.toList, List.nil_append, List.cons_append]
            rw [ehv]
            refine mj_istore_n_3 (pc' := 93) C dX6_moveAhead_92 rfl (by decide) rfl ?_
            refine mj_aload_n (pc' := 94) C dX6_moveAhead_93 rfl rfl ?_
            refine mj_iload_n (pc' := 95) C dX6_moveAhead_94 rfl rfl ?_
            refine mj_iload_n (pc' := 96) C dX6_moveAhead_95 rfl rfl ?_
            refine mj_callVN_2 (ci := 6) (pc' := 99) C (c_X6_affords hst S1 i j) dX6_moveAhead_96 rfl km_X6_166 ki_yX6_affords kz_yX6_affords kn_X6 kc_yX6_affords rfl (by decide) (by decide) ⟨rfl, by decide, by decide, by decide +kernel⟩ ⟨by decide, by decide⟩ (Nat.le_of_ble_eq_true rfl) ⟨by decide, by decide⟩ ⟨rfl, hR1, hW1, ⟨hi, hj⟩, fun a ha => hR1.tab h1 ha⟩ (fun r96 μ96 hq96 hm96 => ?_) (fun _ _ h9 => h9)
            obtain ⟨rfl, hq9⟩ := hq96
            have hq9 := hq9.symm
            subst hq9
            dsimp only [Option.toList, List.nil_append, List.cons_append]
            refine mj_if_eq (tgt := 111) (pc' := 102) C dX6_moveAhead_99 (by decide) rfl (fun h99 => ?_) (fun h99 => ?_)
            · have hS2 : S1 = S1 := rfl
              have hm2 : mvd + (mv d (fun x => Q x && !decide (x = i)) S1).1 = m0 ∧ (mv d (fun x => Q x && !decide (x = i)) S1).2 = Sf := by
                unfold mv at hm
                rw [hnd] at hm
                dsimp only at hm
                rw [eix, if_neg (fun h => b1_0.mp h99 h.2)] at hm
                exact hm
              have hgo := fun x3 => ih (fun x => Q x && !decide (x = i)) S1 mvd μ3 x3 hcn hn hW1 hR1 h1 hz5 hF hdue2 (fun x hx => hhv x (by revert hx; cases Q x <;> simp)) hm2
              have hnx : mR S1 μ3 ∧ sW S1 ∧ ∀ x, x < sn S1 0 → mI μ3 39 0 x = b1 ((Q x && !decide (x = i)) = true) := ⟨hR1, hW1, fun x hx => hdue2 x (by omega)⟩
              refine mj_aload_n (pc' := 112) C dX6_moveAhead_111 rfl rfl ?_
              try rw [nI_1]
              refine mj_callVN_0 (ci := 6) (pc' := 115) C (c_X6_nextDue hst _ (fun x => Q x && !decide (x = i))) dX6_moveAhead_112 rfl km_X6_173 ki_yX6_nextDue kz_yX6_nextDue kn_X6 kc_yX6_nextDue rfl (by decide) (by decide) ⟨rfl, by decide, by decide, by decide +kernel⟩ ⟨by decide, by decide⟩ (Nat.le_of_ble_eq_true rfl) ⟨by decide, by decide⟩ ⟨rfl, hnx⟩ (fun r112 μ112 hq112 hm112 => ?_) (fun _ _ h9 => h9)
              obtain ⟨rfl, hq9⟩ := hq112
              have hq9 := hq9.symm
              subst hq9
              dsimp only [Option.toList, List.nil_append, List.cons_append]
              first | rw [hn] | rw [tk_n, hn]
              refine mj_istore_n_2 (pc' := 116) C dX6_moveAhead_115 rfl (by decide) rfl ?_
              refine mj_goto (pc' := 75) C dX6_moveAhead_116 (by decide) ?_
              exact hgo _
            · refine mj_aload_n (pc' := 103) C dX6_moveAhead_102 rfl rfl ?_
              refine mj_iload_n (pc' := 104) C dX6_moveAhead_103 rfl rfl ?_
              refine mj_iload_n (pc' := 105) C dX6_moveAhead_104 rfl rfl ?_
              refine mj_callVN_2 (ci := 6) (pc' := 108) C (c_X6_take hst S1 i j) dX6_moveAhead_105 rfl km_X6_169 ki_yX6_take kz_yX6_take kn_X6 kc_yX6_take rfl (by decide) (by decide) ⟨rfl, by decide, by decide, by decide +kernel⟩ ⟨by decide, by decide⟩ (Nat.le_of_ble_eq_true rfl) ⟨by decide, by decide⟩ ⟨rfl, hR1, hW1, ⟨hi, hj⟩, fun a ha => hR1.tab h1 ha⟩ (fun r105 μ105 hq105 hm105 => ?_) (fun _ _ h9 => h9)
              obtain ⟨rfl, hR1, hO105⟩ := hq105
              dsimp only [Option.toList, List.nil_append, List.cons_append]
              have hm2 : mvd + 1 + (mv d (fun x => Q x && !decide (x = i)) (tk S1 i j)).1 = m0 ∧ (mv d (fun x => Q x && !decide (x = i)) (tk S1 i j)).2 = Sf := by
                unfold mv at hm
                rw [hnd] at hm
                dsimp only at hm
                rw [eix, if_pos ⟨hvi, b1_n h99⟩] at hm
                exact ⟨by have := hm.1; dsimp only at this; omega, hm.2⟩
              have hdue3 : ∀ x, x < sn S 0 → mI μ105 39 0 x = b1 ((Q x && !decide (x = i)) = true) := fun x hx => (hO105.2 39 0 x (by omega)).trans (hdue2 x hx)
              have hgo := fun x3 => ih (fun x => Q x && !decide (x = i)) (tk S1 i j) (mvd + 1) μ105 x3 hcn hn (tk_W hW1 hi hj) hR1 ((hO105.2 20 0 34 (by omega)).trans h1) ((hO105.2 20 0 35 (by omega)).trans hz5) (hF.tr (hO105.mf (fun kd y z q => by omega))) hdue3 (fun x hx => by
                have hxi : x ≠ i := fun e => by rw [e] at hx; simp at hx
                rw [hv_tk hxi]
                exact hhv x (by revert hx; cases Q x <;> simp)) hm2
              have hnx : mR (tk S1 i j) μ105 ∧ sW (tk S1 i j) ∧ ∀ x, x < sn (tk S1 i j) 0 → mI μ105 39 0 x = b1 ((Q x && !decide (x = i)) = true) := ⟨hR1, tk_W hW1 hi hj, fun x hx => hdue3 x (by rw [← hn]; exact hx)⟩
              refine mj_iinc_1 (pc' := 111) (w := 1) C dX6_moveAhead_108 rfl rfl (by decide) rfl ?_
              refine mj_aload_n (pc' := 112) C dX6_moveAhead_111 rfl rfl ?_
              try rw [nI_1]
              refine mj_callVN_0 (ci := 6) (pc' := 115) C (c_X6_nextDue hst _ (fun x => Q x && !decide (x = i))) dX6_moveAhead_112 rfl km_X6_173 ki_yX6_nextDue kz_yX6_nextDue kn_X6 kc_yX6_nextDue rfl (by decide) (by decide) ⟨rfl, by decide, by decide, by decide +kernel⟩ ⟨by decide, by decide⟩ (Nat.le_of_ble_eq_true rfl) ⟨by decide, by decide⟩ ⟨rfl, hnx⟩ (fun r112 μ112 hq112 hm112 => ?_) (fun _ _ h9 => h9)
              obtain ⟨rfl, hq9⟩ := hq112
              have hq9 := hq9.symm
              subst hq9
              dsimp only [Option.toList, List.nil_append, List.cons_append]
              first | rw [hn] | rw [tk_n, hn]
              refine mj_istore_n_2 (pc' := 116) C dX6_moveAhead_115 rfl (by decide) rfl ?_
              refine mj_goto (pc' := 75) C dX6_moveAhead_116 (by decide) ?_
              exact hgo _
      exact loop2 (sn S 0) (fun i => hvB S i && !sfB S i && decide (i < sn S 0)) S 0 _ _ (cnt_le _ _) rfl hW hR h11 ((hO.2 20 0 35 (by omega)).trans (z35f z35 hO6)) (((mF_sI (by decide) mF.rf).tr hO6.f2).tr (hO.mf (fun kd y z q => by omega))) hz (fun i h => (show hv S i ≠ -1 from of_decide_eq_true (by simp only [Bool.and_eq_true] at h; exact h.1.1))) ⟨by rw [em, Nat.zero_add], eS.symm⟩
    | succ d ih =>
      intro t μ1 hd hO hz
      have hR := hR6.gx (hO.up (fun _ _ _ q => Or.inr q))
      have h11 : mI μ1 20 0 34 = 1 := (hO.2 20 0 34 (by omega)).trans h16
      have hlt : t < sn S 0 := by omega
      obtain ⟨hg, eg⟩ := fF_of hW hlt
      refine mj_iload_n (pc' := 12) C dX6_moveAhead_11 rfl rfl ?_
      refine mj_aload_n (pc' := 13) C dX6_moveAhead_12 rfl rfl ?_
      refine mj_getV (pc' := 16) C dX6_moveAhead_13 rfl (ci := 6) (f := 30) rfl (by decide) (by decide) (fun _ => rfl) (by decide) kf_X6_112 hR.B.l0 hR.nf ?_
      refine mj_icmp_ge (tgt := 68) (pc' := 19) C dX6_moveAhead_16 (by decide) rfl (fun h9 => absurd h9 (nI_ge hlt (by omega))) (fun _ => ?_)
      refine mj_aload_n (pc' := 20) C dX6_moveAhead_19 rfl rfl ?_
      refine mj_getR (pc' := 23) C dX6_moveAhead_20 rfl (ci := 6) (f := 18) rfl (by decide) (by decide) (fun _ => rfl) (by decide) kf_X6_65 hR.B.l0 (hR.B.p 18 (by decide) rfl) ?_
      refine mj_iload_n (pc' := 24) C dX6_moveAhead_23 rfl rfl ?_
      refine mj_aload_n (pc' := 25) C dX6_moveAhead_24 rfl rfl ?_
      refine mj_getR (pc' := 28) C dX6_moveAhead_25 rfl (ci := 6) (f := 15) rfl (by decide) (by decide) (fun _ => rfl) (by decide) kf_X6_56 hR.B.l0 (hR.B.p 15 (by decide) rfl) ?_
      refine mj_iload_n (pc' := 29) C dX6_moveAhead_28 rfl rfl ?_
      refine mj_ialdV (pc' := 30) C dX6_moveAhead_29 rfl rfl (by decide) (by decide) (hR.B.l 15 (by decide) rfl) rfl (by first | assumption | omega) (hR.v 15 (by decide) rfl (by unfold sl; simp <;> first | assumption | omega)) ?_
      refine jn (tgt := 61) (v := aI (b1 ((hvB S t && !sfB S t && decide (t < sn S 0)) = true))) (st := [aI (nI t), aR 39 0]) (fun K30 => ?_) ?_
      · refine mj_if_ne (tgt := 60) (pc' := 33) C dX6_moveAhead_30 (by decide) rfl (fun h30 => ?_) (fun h30 => ?_)
        · have ej : b1 ((hvB S t && !sfB S t && decide (t < sn S 0)) = true) = 0 := b1_f (by simp only [Bool.and_eq_true, Bool.not_eq_true', decide_eq_true_eq]; exact fun q => (show hv S t ≠ -1 from of_decide_eq_true q.1.1) (hv_n h30))
          refine mj_iconst (pc' := 61) (v := 0) C dX6_moveAhead_60 rfl rfl ?_
          rw [ej] at K30
          exact K30
        · refine mj_aload_n (pc' := 34) C dX6_moveAhead_33 rfl rfl ?_
          refine mj_iload_n (pc' := 35) C dX6_moveAhead_34 rfl rfl ?_
          refine mj_aload_n (pc' := 36) C dX6_moveAhead_35 rfl rfl ?_
          refine mj_getR (pc' := 39) C dX6_moveAhead_36 rfl (ci := 6) (f := 9) rfl (by decide) (by decide) (fun _ => rfl) (by decide) kf_X6_38 hR.B.l0 (hR.B.p 9 (by decide) rfl) ?_
          refine mj_iload_n (pc' := 40) C dX6_moveAhead_39 rfl rfl ?_
          refine mj_ialdV (pc' := 41) C dX6_moveAhead_40 rfl rfl (by decide) (by decide) (hR.B.l 9 (by decide) rfl) rfl (by first | assumption | omega) ((hR.v 9 (by decide) rfl (by unfold sl; simp <;> first | assumption | omega)).trans eg) ?_
          refine mj_callVN_2 (ci := 6) (pc' := 44) C (c_X6_isSafeIn hst S t (fF S t)) dX6_moveAhead_41 rfl km_X6_142 ki_yX6_isSafeIn kz_yX6_isSafeIn kn_X6 kc_yX6_isSafeIn rfl (by decide) (by decide) ⟨rfl, by decide, by decide, by decide +kernel⟩ ⟨by decide, by decide⟩ (Nat.le_of_ble_eq_true rfl) ⟨by decide, by decide⟩ ⟨rfl, hR, hW, hlt, hg⟩ (fun r41 μ41 hq41 hm41 => ?_) (fun _ _ h9 => h9)
          obtain ⟨rfl, hq9⟩ := hq41
          have hq9 := hq9.symm
          subst hq9
          dsimp only [Option.toList, List.nil_append, List.cons_append]
          refine mj_if_ne (tgt := 60) (pc' := 47) C dX6_moveAhead_44 (by decide) rfl (fun h44 => ?_) (fun h44 => ?_)
          · have ej : b1 ((hvB S t && !sfB S t && decide (t < sn S 0)) = true) = 0 := b1_f (by simp only [Bool.and_eq_true, Bool.not_eq_true', decide_eq_true_eq]; exact fun q => (of_decide_eq_false q.1.2) (b1_n h44))
            refine mj_iconst (pc' := 61) (v := 0) C dX6_moveAhead_60 rfl rfl ?_
            rw [ej] at K30
            exact K30
          · refine mj_aload_n (pc' := 48) C dX6_moveAhead_47 rfl rfl ?_
            refine mj_iload_n (pc' := 49) C dX6_moveAhead_48 rfl rfl ?_
            refine mj_callVN_1 (ci := 6) (pc' := 52) C (c_X6_havenOf hst S t) dX6_moveAhead_49 rfl km_X6_160 ki_yX6_havenOf kz_yX6_havenOf kn_X6 kc_yX6_havenOf rfl (by decide) (by decide) ⟨rfl, by decide, by decide, by decide +kernel⟩ ⟨by decide, by decide⟩ (Nat.le_of_ble_eq_true rfl) ⟨by decide, by decide⟩ ⟨rfl, hR, hW, hlt, fun a ha => hR.tab h11 ha⟩ (fun r49 μ49 hq49 hm49 => ?_) (fun _ _ h9 => h9)
            obtain ⟨rfl, hq9⟩ := hq49
            have hq9 := hq9.symm
            subst hq9
            dsimp only [Option.toList, List.nil_append, List.cons_append]
            refine mj_iconst (pc' := 53) (v := (-1)) C dX6_moveAhead_52 rfl rfl ?_
            refine mj_icmp_eq (tgt := 60) (pc' := 56) C dX6_moveAhead_53 (by decide) rfl (fun h53 => ?_) (fun h53 => ?_)
            · have ej : b1 ((hvB S t && !sfB S t && decide (t < sn S 0)) = true) = 0 := b1_f (by simp only [Bool.and_eq_true, Bool.not_eq_true', decide_eq_true_eq]; exact fun q => (show hv S t ≠ -1 from of_decide_eq_true q.1.1) h53)
              refine mj_iconst (pc' := 61) (v := 0) C dX6_moveAhead_60 rfl rfl ?_
              rw [ej] at K30
              exact K30
            · have ej : b1 ((hvB S t && !sfB S t && decide (t < sn S 0)) = true) = 1 := b1_t (by rw [show hvB S t = true from decide_eq_true h53, show sfB S t = false from decide_eq_false (b1_0.mp h44), decide_eq_true hlt]; rfl)
              refine mj_iconst (pc' := 57) (v := 1) C dX6_moveAhead_56 rfl rfl ?_
              refine mj_goto (pc' := 61) C dX6_moveAhead_57 (by decide) ?_
              rw [ej] at K30
              exact K30
      refine mj_zast (pc' := 62) C dX6_moveAhead_61 rfl rfl (by decide) (by decide) b1_and (hR.B.l 18 (by decide) rfl) rfl (by omega) ?_
      refine mj_iinc_1 (pc' := 65) (w := 1) C dX6_moveAhead_62 rfl rfl (by decide) rfl ?_
      refine mj_goto (pc' := 11) C dX6_moveAhead_65 (by decide) ?_
      rw [nI_1]
      refine ih (t + 1) _ (by omega) (oG_sI rfl hO) (fun i hi => ?_)
      by_cases e : i = t
      · subst e; exact mI_sI_s _ _ _ _ _
      · rw [mI_sI_n _ _ _ _ _ (by omega)]; exact hz i (by omega)
  exact loop1 (sn S 0) 0 _ (Nat.zero_add _) oG.rf (fun i h => absurd h (Nat.not_lt_zero i))
