theorem kp_b {T : jB} {b n : Nat} {q c : Int32} (h : btr (T b) q c n = true) : kp T b q c n = true := by
  unfold kp
  cases hT : T b with
  | none => rfl
  | some e =>
    obtain ⟨q0, c0, w0⟩ := e
    rw [hT] at h
    show (btr (some (q0, c0, w0)) q c n || _) = true
    rw [h]
    rfl

set_option maxRecDepth 20000 in
theorem c_X3_search {l : Launch} (hst : l.stackTraces = false) (S : jS) (hW : sW S) (a : Nat) (ha : a < 10) : ∀ (n x : Nat) (w : List Nat) (T : jB) (m : Int32), jMet l yX3_search cX3_search 10 none (6 + n) (100 + 40 * n) 0 0 (fun avs μ => avs = [aR 4 0, aR 11 a, aI (nI x), aI m, aI (nI w.length), aI (nI (qN S w 1000)), aI (nI (cN S w 0))] ∧ xR S μ ∧ (x < 10 ∧ w.length + n = 9 ∧ mI μ 11 a 4 = 0) ∧ hb m (vs S [a] w) ∧ okw S a [a] w x ∧ tInv S a T (w ++ [0]) ∧ xTab μ a T ∧ trl μ w) (fun avs μ r μ' => r = none ∧ oF (sQ a) μ μ' ∧ xTab μ' a (srch kp S n x (vs S [a] w) (nI (qN S w 1000)) (nI (cN S w 0)) w T) ∧ trl μ' w) (fun avs μ E μ' => False) := by
  intro n
  induction n with
  | zero =>
    intro x w T m
    refine jMet_of hst (by decide) ?_
    intro avs μ J C hav hpre
    obtain ⟨rfl, hR, ⟨hx, hl, h4⟩, hm, hw, hT, hX, htr⟩ := hpre
    refine ⟨Nat.le_of_ble_eq_true rfl, ?_⟩
    show J 0 [some (aR 4 0), some (aR 11 a), some (aI (nI x)), some (aI m), some (aI (nI w.length)), some (aI (nI (qN S w 1000))), some (aI (nI (cN S w 0))), none, none, none] [] μ 0 0
    refine mj_iload (pc' := 2) C dX3_search_0 rfl rfl ?_
    refine mj_bipush (pc' := 4) (v := 9) C dX3_search_2 rfl rfl ?_
    refine mj_icmp_lt (tgt := 8) (pc' := 7) C dX3_search_4 (by decide) rfl (fun h9 => absurd h9 (nI_nlt (b := 9) (by omega) (by omega))) (fun _ => ?_)
    refine mj_vret C dX3_search_7 (by decide) (by exact Nat.le_refl _) (by exact Nat.le_refl _) ?_
    exact ⟨rfl, oF.rf, hX, htr⟩
  | succ n ih =>
    intro x w T m
    refine jMet_of hst (by decide) ?_
    intro avs μ J C hav hpre
    obtain ⟨rfl, hR, ⟨hx, hl, h4⟩, hm, hw, hT, hX, htr⟩ := hpre
    refine ⟨Nat.le_of_ble_eq_true rfl, ?_⟩
    show J 0 [some (aR 4 0), some (aR 11 a), some (aI (nI x)), some (aI m), some (aI (nI w.length)), some (aI (nI (qN S w 1000))), some (aI (nI (cN S w 0))), none, none, none] [] μ 0 0
    have hW0 := hW.1.1
    have hW1 := hW.1.2
    obtain ⟨F, eF⟩ : ∃ F : Nat → jB, F = fd S n x (vs S [a] w) (nI (qN S w 1000)) (nI (cN S w 0)) w T := ⟨_, rfl⟩
    have eN : srch kp S (n + 1) x (vs S [a] w) (nI (qN S w 1000)) (nI (cN S w 0)) w T = F (sn S 1) := by rw [eF]; rfl
    have hFi : ∀ k, k ≤ sn S 1 → tInv S a (F k) (w ++ [k]) := by rw [eF]; exact fd_inv hW hw (by omega) hT
    have hlen : ∀ k, nI w.length + 1 = nI (w ++ [k]).length := fun k => by rw [List.length_append]; exact nI_1 _
    have hlen2 : ∀ k, (w ++ [k]).length = w.length + 1 := fun k => by rw [List.length_append]; rfl
    refine mj_iload (pc' := 2) C dX3_search_0 rfl rfl ?_
    refine mj_bipush (pc' := 4) (v := 9) C dX3_search_2 rfl rfl ?_
    refine mj_icmp_lt (tgt := 8) (pc' := 7) C dX3_search_4 (by decide) rfl (fun _ => ?_) (fun h9 => absurd (nI_lt (b := 9) (by omega) (by decide)) h9)
    refine mj_aload_n (pc' := 9) C dX3_search_8 rfl rfl ?_
    refine mj_getR (pc' := 12) C dX3_search_9 rfl (ci := 3) (f := 2) rfl (by decide) (by decide) (fun _ => rfl) (by decide) kf_X3_17 hR.B.l4 hR.B.p42 ?_
    refine mj_iload_n (pc' := 13) C dX3_search_12 rfl rfl ?_
    refine mj_aald (pc' := 14) C dX3_search_13 rfl rfl (by decide) rfl (fun _ _ => rfl) (by decide) (by decide) hR.B.l6 rfl (by first | assumption | omega) rfl ?_
    refine mj_astore_7 (pc' := 16) C dX3_search_14 rfl (by decide) rfl ?_
    have loop : ∀ (d : Nat) (j : Nat) (μ1 : jM) (x8 x9 : Option jV), j ≤ sn S 1 → sn S 1 ≤ j + d → xR S μ1 → oF (sQ a) μ μ1 → xTab μ1 a (F j) → trl μ1 w → J 16 [some (aR 4 0), some (aR 11 a), some (aI (nI x)), some (aI m), some (aI (nI w.length)), some (aI (nI (qN S w 1000))), some (aI (nI (cN S w 0))), some (aO ((nxt S x j).map (fun c => (13, c)))), x8, x9] [] μ1 0 0 := by
      intro d
      induction d with
      | zero =>
        intro j μ1 x8 x9 hj hd hR1 hF hX1 htr1
        have h41 : mI μ1 11 a 4 = 0 := (hF.2 11 a 4 (by unfold sQ; omega)).trans h4
        obtain rfl : j = sn S 1 := by omega
        refine mj_aload (pc' := 18) C dX3_search_16 rfl rfl ?_
        refine mj_ifnull (tgt := 122) (pc' := 21) C dX3_search_18 (by decide) rfl (fun h18 => ?_) (fun q18 h18 => ?_)
        · refine mj_vret C dX3_search_122 (by decide) (by exact Nat.le_refl _) (by exact Nat.le_refl _) ?_
          exact ⟨rfl, hF, by rw [eN]; exact hX1, htr1⟩
        · obtain ⟨k, hk, -⟩ := Option.map_eq_some_iff.mp h18
          have := nxt_s hk
          omega
      | succ d ihn =>
        intro j μ1 x8 x9 hj hd hR1 hF hX1 htr1
        have h41 : mI μ1 11 a 4 = 0 := (hF.2 11 a 4 (by unfold sQ; omega)).trans h4
        refine mj_aload (pc' := 18) C dX3_search_16 rfl rfl ?_
        refine mj_ifnull (tgt := 122) (pc' := 21) C dX3_search_18 (by decide) rfl (fun h18 => ?_) (fun q18 h18 => ?_)
        · have hnn := nxt_n (Option.map_eq_none_iff.mp h18)
          have hFN : F (sn S 1) = F j := by rw [eF]; exact fd_sk hj hnn
          refine mj_vret C dX3_search_122 (by decide) (by exact Nat.le_refl _) (by exact Nat.le_refl _) ?_
          exact ⟨rfl, hF, by rw [eN, hFN]; exact hX1, htr1⟩
        · obtain ⟨k, hk, rfl⟩ := Option.map_eq_some_iff.mp h18
          obtain ⟨hjk, hkN, hfk, hno⟩ := nxt_s hk
          have ep : (nxt S x j).map (fun c => (13, c)) = some (13, k) := by rw [hk]; rfl
          rw [ep]
          have hFk : F k = F j := by rw [eF]; exact fd_sk hjk hno
          obtain ⟨b, hb10, eb⟩ := (hW.2.1 k hkN).2.1
          have etO : tO S k = b := by unfold tO; rw [eb]; exact ix_nI (by omega)
          have hN1 : xTab μ1 a (F k) := by rw [hFk]; exact hX1
          refine mj_aload (pc' := 23) C dX3_search_21 rfl rfl ?_
          refine mj_iload_n (pc' := 24) C dX3_search_23 rfl rfl ?_
          refine mj_callVN_1 (ci := 1) (pc' := 27) C (c_X1_goesOn hst S k b m) dX3_search_24 rfl km_X3_81 ki_yX1_goesOn kz_yX1_goesOn kn_X1 kc_yX1_goesOn rfl (by decide) (by decide) ⟨rfl, by decide, by decide, by decide +kernel⟩ ⟨by (try dsimp only); omega, by (try dsimp only); omega⟩ (Nat.le_of_ble_eq_true rfl) ⟨by exact Nat.le_refl _, by exact Nat.le_refl _⟩ ⟨rfl, hR1, hkN, eb⟩ (fun r24 μ24 hq24 hm24 => ?_) (fun _ _ h9 => h9)
          obtain ⟨rfl, hq9⟩ := hq24
          have hq9 := hq9.symm
          subst hq9
          dsimp only [Option.toList, List.nil_append, List.cons_append]
          refine mj_if_eq (tgt := 112) (pc' := 30) C dX3_search_27 (by decide) rfl (fun h27 => ?_) (fun h27 => ?_)
          · have hnok : ¬ okc S k x (vs S [a] w) := fun h => b1_0.mp h27 ⟨h.1, (hm b hb10).mpr (by rw [← etO]; exact h.2.2)⟩
            have hTn : xTab μ1 a (F (k + 1)) := by rw [show F (k + 1) = F k by rw [eF]; exact fd_no hnok]; exact hN1
            have htrn := htr1
            have hFn := hF
            refine mj_aload (pc' := 114) C dX3_search_112 rfl rfl ?_
            refine mj_getR (pc' := 117) C dX3_search_114 rfl (ci := 1) (f := 6) rfl (by decide) (by decide) (fun _ => rfl) (by decide) kf_X3_38 (hR1.l13 (by first | assumption | omega)) (hR1.next hkN hx hfk) ?_
            refine mj_astore_7 (pc' := 119) C dX3_search_117 rfl (by decide) rfl ?_
            refine mj_goto (pc' := 16) C dX3_search_119 (by decide) ?_
            exact ihn (k + 1) _ _ _ (by omega) (by omega) hR1 hFn hTn htrn
          · have hok : okc S k x (vs S [a] w) := ⟨(b1_n h27).1, hfk, by show tO S k ∉ _; rw [etO]; exact (hm b hb10).mp (b1_n h27).2⟩
            have hw1 : okw S a [a] (w ++ [k]) b := by rw [← etO]; exact okw_snoc hw hkN hok
            refine mj_aload (pc' := 32) C dX3_search_30 rfl rfl ?_
            refine mj_iload (pc' := 34) C dX3_search_32 rfl rfl ?_
            refine mj_callVN_1 (ci := 1) (pc' := 37) C (c_X1_qualityAfter hst S k (nI (qN S w 1000))) dX3_search_34 rfl km_X3_77 ki_yX1_qualityAfter kz_yX1_qualityAfter kn_X1 kc_yX1_qualityAfter rfl (by decide) (by decide) ⟨rfl, by decide, by decide, by decide +kernel⟩ ⟨by (try dsimp only); omega, by (try dsimp only); omega⟩ (Nat.le_of_ble_eq_true rfl) ⟨by exact Nat.le_refl _, by exact Nat.le_refl _⟩ ⟨rfl, hR1.l13 hkN, hR1.clo hkN⟩ (fun r34 μ34 hq34 hm34 => ?_) (fun _ _ h9 => h9)
            obtain ⟨rfl, hq9⟩ := hq34
            have hq9 := hq9.symm
            subst hq9
            dsimp only [Option.toList, List.nil_append, List.cons_append]
            rw [(nx_q hW hkN).1]
            refine mj_istore_8 (pc' := 39) C dX3_search_37 rfl (by decide) rfl ?_
            refine mj_iload (pc' := 41) C dX3_search_39 rfl rfl ?_
            refine mj_aload (pc' := 43) C dX3_search_41 rfl rfl ?_
            refine mj_getV (pc' := 46) C dX3_search_43 rfl (ci := 1) (f := 4) rfl (by decide) (by decide) (fun _ => rfl) (by decide) kf_X3_85 (hR1.l13 (by first | assumption | omega)) (hR1.cco (by first | assumption | omega)) ?_
            refine mj_iadd (pc' := 47) C dX3_search_46 rfl ?_
            rw [(nx_q hW hkN).2]
            refine mj_istore_9 (pc' := 49) C dX3_search_47 rfl (by decide) rfl ?_
            refine mj_aload_n (pc' := 50) C dX3_search_49 rfl rfl ?_
            refine mj_getR (pc' := 53) C dX3_search_50 rfl (ci := 3) (f := 5) rfl (by decide) (by decide) (fun _ => rfl) (by decide) kf_X3_29 hR1.B.l4 hR1.B.p45 ?_
            refine mj_iload (pc' := 55) C dX3_search_53 rfl rfl ?_
            refine mj_aload (pc' := 57) C dX3_search_55 rfl rfl ?_
            refine mj_getV (pc' := 60) C dX3_search_57 rfl (ci := 1) (f := 0) rfl (by decide) (by decide) (fun _ => rfl) (by decide) kf_X3_48 (hR1.l13 (by first | assumption | omega)) (hR1.cnum (by first | assumption | omega)) ?_
            refine mj_iast (pc' := 61) C dX3_search_60 rfl rfl (by decide) (by decide) hR1.B.l9 rfl (by omega) ?_
            have hR1 := hR1.srch h41 (oF_sI (μ0 := μ1) (μ := μ1) (kd := 9) (y := 0) (z := w.length) (v := nI k) (Or.inl rfl) oF.rf)
            have hX2 : xTab (sI μ1 9 0 w.length (nI k)) a (F k) := xTab_same hN1 (fun kd z h => mI_sI_n _ _ _ _ _ (by omega)) (fun b z h => mI_sI_n _ _ _ _ _ (by omega))
            have htr2 : trl (sI μ1 9 0 w.length (nI k)) (w ++ [k]) := trl_sn htr1
            refine mj_aload_n (pc' := 62) C dX3_search_61 rfl rfl ?_
            refine mj_aload (pc' := 64) C dX3_search_62 rfl rfl ?_
            refine mj_getV (pc' := 67) C dX3_search_64 rfl (ci := 1) (f := 2) rfl (by decide) (by decide) (fun _ => rfl) (by decide) kf_X3_88 (hR1.l13 (by first | assumption | omega)) ((hR1.cto (by first | assumption | omega)).trans eb) ?_
            refine mj_iload (pc' := 69) C dX3_search_67 rfl rfl ?_
            refine mj_iload (pc' := 71) C dX3_search_69 rfl rfl ?_
            refine mj_aload_n (pc' := 72) C dX3_search_71 rfl rfl ?_
            refine mj_getR (pc' := 75) C dX3_search_72 rfl (ci := 3) (f := 5) rfl (by decide) (by decide) (fun _ => rfl) (by decide) kf_X3_29 hR1.B.l4 hR1.B.p45 ?_
            refine mj_iload (pc' := 77) C dX3_search_75 rfl rfl ?_
            refine mj_iconst (pc' := 78) (v := 1) C dX3_search_77 rfl rfl ?_
            refine mj_iadd (pc' := 79) C dX3_search_78 rfl ?_
            rw [hlen k]
            refine mj_callVN_5 (ci := 0) (pc' := 82) C (c_X0_offer hst S (F k) a b (nI (qN S (w ++ [k]) 1000)) (nI (cN S (w ++ [k]) 0)) (w ++ [k])) dX3_search_79 rfl km_X3_91 ki_yX0_offer kz_yX0_offer kn_X0 kc_yX0_offer rfl (by decide) (by decide) ⟨rfl, by decide, by decide, by decide +kernel⟩ ⟨by (try dsimp only); omega, by (try dsimp only); omega⟩ (Nat.le_of_ble_eq_true rfl) ⟨by exact Nat.le_refl _, by exact Nat.le_refl _⟩ ⟨rfl, hR1, ⟨ha, hb10, (by rw [hlen2]; omega), (by rw [mI_sI_n _ _ _ _ _ (by omega)]; exact h41)⟩, hX2, (fun e he => tInv_e hW (hFi k (by omega)) e he), htr2⟩ (fun r79 μ79 hq79 hm79 => ?_) (fun _ _ h9 => h9)
            obtain ⟨rfl, hO79, hT79⟩ := hq79
            dsimp only [Option.toList, List.nil_append, List.cons_append]
            have h43 : mI μ79 11 a 4 = 0 := (hO79.2 11 a 4 (by unfold oQ; omega)).trans ((mI_sI_n _ _ _ _ _ (by omega)).trans h41)
            have hR1 := hR1.srch ((mI_sI_n _ _ _ _ _ (by omega)).trans h41) (hO79.up (fun _ _ q => oQ_s hb10 q))
            have htr3 : trl μ79 (w ++ [k]) := fun i hi => (hO79.2 9 0 i (by unfold oQ; omega)).trans (htr2 i hi)
            have hF3 : oF (sQ a) μ μ79 := (oF_sI (kd := 9) (y := 0) (z := w.length) (v := nI k) (Or.inl rfl) hF).tr (hO79.up (fun _ _ q => oQ_s hb10 q))
            refine mj_if_eq (tgt := 112) (pc' := 85) C dX3_search_82 (by decide) rfl (fun h82 => ?_) (fun h82 => ?_)
            · have hkn := b1_0.mp h82
              have hTn : xTab μ79 a (F (k + 1)) := by
                have e1 : F (k + 1) = F k := by rw [eF] at hkn ⊢; exact fd_kn hok (by rw [(nx_q hW hkN).1, (nx_q hW hkN).2, etO, ← hlen2 k]; exact hkn)
                rw [e1]
                rw [ofr_f (fun q => hkn (kp_b q))] at hT79
                exact hT79
              have htrn := trl_up htr3
              have hFn := hF3
              refine mj_aload (pc' := 114) C dX3_search_112 rfl rfl ?_
              refine mj_getR (pc' := 117) C dX3_search_114 rfl (ci := 1) (f := 6) rfl (by decide) (by decide) (fun _ => rfl) (by decide) kf_X3_38 (hR1.l13 (by first | assumption | omega)) (hR1.next hkN hx hfk) ?_
              refine mj_astore_7 (pc' := 119) C dX3_search_117 rfl (by decide) rfl ?_
              refine mj_goto (pc' := 16) C dX3_search_119 (by decide) ?_
              exact ihn (k + 1) _ _ _ (by omega) (by omega) hR1 hFn hTn htrn
            · have hky := b1_n h82
              refine mj_aload_n (pc' := 86) C dX3_search_85 rfl rfl ?_
              refine mj_aload_n (pc' := 87) C dX3_search_86 rfl rfl ?_
              refine mj_aload (pc' := 89) C dX3_search_87 rfl rfl ?_
              refine mj_getV (pc' := 92) C dX3_search_89 rfl (ci := 1) (f := 2) rfl (by decide) (by decide) (fun _ => rfl) (by decide) kf_X3_88 (hR1.l13 (by first | assumption | omega)) ((hR1.cto (by first | assumption | omega)).trans eb) ?_
              refine mj_iload_n (pc' := 93) C dX3_search_92 rfl rfl ?_
              refine mj_iconst (pc' := 94) (v := 1) C dX3_search_93 rfl rfl ?_
              refine mj_aload (pc' := 96) C dX3_search_94 rfl rfl ?_
              refine mj_getV (pc' := 99) C dX3_search_96 rfl (ci := 1) (f := 2) rfl (by decide) (by decide) (fun _ => rfl) (by decide) kf_X3_88 (hR1.l13 (by first | assumption | omega)) ((hR1.cto (by first | assumption | omega)).trans eb) ?_
              refine mj_ishl (pc' := 100) C dX3_search_99 rfl ?_
              refine mj_ior (pc' := 101) C dX3_search_100 rfl ?_
              refine mj_iload (pc' := 103) C dX3_search_101 rfl rfl ?_
              refine mj_iconst (pc' := 104) (v := 1) C dX3_search_103 rfl rfl ?_
              refine mj_iadd (pc' := 105) C dX3_search_104 rfl ?_
              refine mj_iload (pc' := 107) C dX3_search_105 rfl rfl ?_
              refine mj_iload (pc' := 109) C dX3_search_107 rfl rfl ?_
              rw [hlen k]
              refine mj_callSN_7 (pc' := 112) C (ih b (w ++ [k]) (ofr (F k) b (nI (qN S (w ++ [k]) 1000)) (nI (cN S (w ++ [k]) 0)) (w ++ [k])) (m ||| (1 <<< (nI b &&& 31)))) dX3_search_109 rfl km_X3_62 ks_yX3_search kn_X3 kc_yX3_search ⟨by decide, by decide, by decide +kernel⟩ ⟨by (try dsimp only); omega, by (try dsimp only); omega⟩ (Nat.le_of_ble_eq_true rfl) ⟨by exact Nat.le_refl _, by exact Nat.le_refl _⟩ ⟨rfl, hR1, ⟨hb10, (by rw [hlen2]; omega), h43⟩, (by rw [vs_snoc, etO]; exact hb_c hm hb10), hw1, tInv_ofr (b := b) (tInv_up (hFi k (by omega)) (fun v h => lx_tr h (lx_ap (w ++ [k]) 0))) ⟨hw1, (by rw [hlen2]; omega)⟩ (lx_ap (w ++ [k]) 0), hT79, htr3⟩ (fun r109 μ109 hq109 hm109 => ?_) (fun _ _ h9 => h9)
              obtain ⟨rfl, hO109, hT109, htr109⟩ := hq109
              dsimp only [Option.toList, List.nil_append, List.cons_append]
              have hR1 := hR1.srch h43 hO109
              have hTn : xTab μ109 a (F (k + 1)) := by
                have e1 : F (k + 1) = srch kp S n b (vs S [a] (w ++ [k])) (nI (qN S (w ++ [k]) 1000)) (nI (cN S (w ++ [k]) 0)) (w ++ [k]) (ofr (F k) b (nI (qN S (w ++ [k]) 1000)) (nI (cN S (w ++ [k]) 0)) (w ++ [k])) := by
                  rw [eF] at hky ⊢
                  rw [fd_ky hok (by rw [(nx_q hW hkN).1, (nx_q hW hkN).2, etO, ← hlen2 k]; exact hky), (nx_q hW hkN).1, (nx_q hW hkN).2, vs_snoc, etO]
                rw [e1]
                exact hT109
              have htrn := trl_up htr109
              have hFn := hF3.tr hO109
              refine mj_aload (pc' := 114) C dX3_search_112 rfl rfl ?_
              refine mj_getR (pc' := 117) C dX3_search_114 rfl (ci := 1) (f := 6) rfl (by decide) (by decide) (fun _ => rfl) (by decide) kf_X3_38 (hR1.l13 (by first | assumption | omega)) (hR1.next hkN hx hfk) ?_
              refine mj_astore_7 (pc' := 119) C dX3_search_117 rfl (by decide) rfl ?_
              refine mj_goto (pc' := 16) C dX3_search_119 (by decide) ?_
              exact ihn (k + 1) _ _ _ (by omega) (by omega) hR1 hFn hTn htrn
    rw [hR.low hx]
    exact loop (sn S 1) 0 _ _ _ (Nat.zero_le _) (by omega) hR oF.rf (by rw [eF]; exact hX) htr
