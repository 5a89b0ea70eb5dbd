/-! THE LAW: ITS LOOP -/
theorem law_out {l : Launch} {J : Nat → List (Option jV) → List jV → jM → Nat → Nat → Prop} (C : jCtx l J cL_law_ 7 RL room_1 (some FieldType.boolean) 3 [] (fun _ _ => True) (fun _ _ => False) 0 0) {L9 : Nat} {xs : Nat → Int32} (Sc : jSc J cL_law_ L9 xs) (hL : L9 ≤ 2560) (c : Nat) (hc : c ≤ 513) (h5 : ¬ 5 * c + 5 ≤ L9) (μ : jM) : J 23 [some (aR 61 0), some (aR 0 0), some (aR 20 0), some (aR 60 0), some (aI (nI (5 * c))), none, none] [] μ (196 + 6 * c) (3380 + 60 * c) := by
  refine mj_iload (pc' := 25) C dL_law__23 rfl rfl ?_
  refine mj_aload_n (pc' := 26) C dL_law__25 rfl rfl ?_
  refine Sc.len (pc' := 27) dL_law__26 rfl ?_
  refine mj_iconst (pc' := 28) (v := 5) C dL_law__27 rfl rfl ?_
  refine mj_isub (pc' := 29) C dL_law__28 rfl ?_
  refine mj_icmp_gt (tgt := 1588) (pc' := 32) C dL_law__29 (by decide) rfl (fun _ => ?_) (fun h9 => absurd ((le_5 hL (by omega)).mp h9) h5)
  refine mj_iconst (pc' := 1589) (v := 1) C dL_law__1588 rfl rfl ?_
  exact Sc.ret dL_law__1589 (by omega) (by omega)
theorem law_loop {l : Launch} (hst : l.stackTraces = false) {J : Nat → List (Option jV) → List jV → jM → Nat → Nat → Prop} (C : jCtx l J cL_law_ 7 RL room_1 (some FieldType.boolean) 3 [] (fun _ _ => True) (fun _ _ => False) 0 0) {L9 : Nat} {xs : Nat → Int32} (Sc : jSc J cL_law_ L9 xs) (hL : L9 ≤ 2560) : ∀ (d c : Nat) (S : jS) (μ : jM), c + d = 513 → c = 0 ∨ 5 * c ≤ L9 → xR S μ → mR S μ → sA S → mN μ 60 = 1 → J 23 [some (aR 61 0), some (aR 0 0), some (aR 20 0), some (aR 60 0), some (aI (nI (5 * c))), none, none] [] μ (196 + 6 * c) (3380 + 60 * c) := by
  intro d
  induction d with
  | zero =>
    intro c S μ hd h5
    omega
  | succ d ih =>
    intro c S μ hd h5 hR hM hA h60
    have fin : lFin J c := by
      intro S' μ' x5 x6 k' n' hR' hM' hA' h60' hk hn
      by_cases hc5 : 5 * c + 5 ≤ L9
      · refine Sc.forget (Sc.widen hk hn ?_)
        refine mj_iinc_4 (pc' := 1585) (w := 5) C dL_law__1582 rfl rfl (by decide) rfl ?_
        refine mj_goto (pc' := 23) C dL_law__1585 (by decide) ?_
        rw [show nI (5 * c) + 5 = nI (5 * (c + 1)) from nI_add (5 * c) 5]
        exact ih (c + 1) S' μ' (by omega) (Or.inr (by omega)) hR' hM' hA' h60'
      · refine Sc.forget (Sc.widen hk hn ?_)
        refine mj_iinc_4 (pc' := 1585) (w := 5) C dL_law__1582 rfl rfl (by decide) rfl ?_
        refine mj_goto (pc' := 23) C dL_law__1585 (by decide) ?_
        rw [show nI (5 * c) + 5 = nI (5 * (c + 1)) from nI_add (5 * c) 5]
        exact law_out C Sc hL (c + 1) (by omega) (by omega) μ'
    by_cases hc5 : 5 * c + 5 ≤ L9
    · refine mj_iload (pc' := 25) C dL_law__23 rfl rfl ?_
      refine mj_aload_n (pc' := 26) C dL_law__25 rfl rfl ?_
      refine Sc.len (pc' := 27) dL_law__26 rfl ?_
      refine mj_iconst (pc' := 28) (v := 5) C dL_law__27 rfl rfl ?_
      refine mj_isub (pc' := 29) C dL_law__28 rfl ?_
      refine mj_icmp_gt (tgt := 1588) (pc' := 32) C dL_law__29 (by decide) rfl (fun h9 => absurd h9 ((le_5 hL (by omega)).mpr hc5)) (fun _ => ?_)
      refine mj_aload_n (pc' := 33) C dL_law__32 rfl rfl ?_
      refine mj_iload (pc' := 35) C dL_law__33 rfl rfl ?_
      refine Sc.ld (pc' := 36) (j := 5 * c) dL_law__35 rfl rfl (by omega) ?_
      refine mj_bipush (pc' := 38) (v := 31) C dL_law__36 rfl rfl ?_
      refine mj_iand (pc' := 39) C dL_law__38 rfl ?_
      obtain ⟨u, hu, eu⟩ := x_31 (xs (5 * c))
      rw [eu]
      have hc : c < 512 := by omega
      rcases (show u = 0 ∨ u = 1 ∨ u = 2 ∨ u = 3 ∨ u = 4 ∨ u = 5 ∨ u = 6 ∨ u = 7 ∨ u = 8 ∨ u = 9 ∨ u = 10 ∨ u = 11 ∨ u = 12 ∨ u = 13 ∨ u = 14 ∨ u = 15 ∨ u = 16 ∨ u = 17 ∨ u = 18 ∨ u = 19 ∨ u = 20 ∨ u = 21 ∨ u = 22 ∨ u = 23 ∨ u = 24 ∨ 24 < u by omega) with rfl | rfl | rfl | rfl | rfl | rfl | rfl | rfl | rfl | rfl | rfl | rfl | rfl | rfl | rfl | rfl | rfl | rfl | rfl | rfl | rfl | rfl | rfl | rfl | rfl | h24
      · exact mj_tblIn C dL_law__39 (off := 113) (tgt := 152) (by decide +kernel) (by decide +kernel) (by decide +kernel) (by decide) (lk_setLast hst C Sc S c μ hc hc5 hR hM hA h60 fin)
      · exact mj_tblIn C dL_law__39 (off := 181) (tgt := 220) (by decide +kernel) (by decide +kernel) (by decide +kernel) (by decide) (lk_converter hst C Sc S c μ hc hc5 hR hM hA h60 fin)
      · exact mj_tblIn C dL_law__39 (off := 273) (tgt := 312) (by decide +kernel) (by decide +kernel) (by decide +kernel) (by decide) (lk_withdraw hst C Sc S c μ hc hc5 hR hM hA h60 fin)
      · exact mj_tblIn C dL_law__39 (off := 329) (tgt := 368) (by decide +kernel) (by decide +kernel) (by decide +kernel) (by decide) (lk_law hst C Sc S c μ hc hc5 hR hM hA h60 fin)
      · exact mj_tblIn C dL_law__39 (off := 401) (tgt := 440) (by decide +kernel) (by decide +kernel) (by decide +kernel) (by decide) (lk_quality hst C Sc S c μ hc hc5 hR hM hA h60 fin)
      · exact mj_tblIn C dL_law__39 (off := 469) (tgt := 508) (by decide +kernel) (by decide +kernel) (by decide +kernel) (by decide) (lk_qualityByAll hst C Sc S c μ hc hc5 hR hM hA h60 fin)
      · exact mj_tblIn C dL_law__39 (off := 537) (tgt := 576) (by decide +kernel) (by decide +kernel) (by decide +kernel) (by decide) (lk_cost hst C Sc S c μ hc hc5 hR hM hA h60 fin)
      · exact mj_tblIn C dL_law__39 (off := 605) (tgt := 644) (by decide +kernel) (by decide +kernel) (by decide +kernel) (by decide) (lk_stepAt hst C Sc S c μ hc hc5 hR hM hA h60 fin)
      · exact mj_tblIn C dL_law__39 (off := 685) (tgt := 724) (by decide +kernel) (by decide +kernel) (by decide +kernel) (by decide) (lk_file hst C Sc S c μ hc hc5 hR hM hA h60 fin)
      · exact mj_tblIn C dL_law__39 (off := 765) (tgt := 804) (by decide +kernel) (by decide +kernel) (by decide +kernel) (by decide) (lk_hold hst C Sc S c μ hc hc5 hR hM hA h60 fin)
      · exact mj_tblIn C dL_law__39 (off := 856) (tgt := 895) (by decide +kernel) (by decide +kernel) (by decide +kernel) (by decide) (lk_read hst C Sc S c μ hc hc5 hR hM hA h60 fin)
      · exact mj_tblIn C dL_law__39 (off := 912) (tgt := 951) (by decide +kernel) (by decide +kernel) (by decide +kernel) (by decide) (lk_move hst C Sc S c μ hc hc5 hR hM hA h60 fin)
      · exact mj_tblIn C dL_law__39 (off := 980) (tgt := 1019) (by decide +kernel) (by decide +kernel) (by decide +kernel) (by decide) (lk_moveAhead hst C Sc S c μ hc hc5 hR hM hA h60 fin)
      · exact mj_tblIn C dL_law__39 (off := 993) (tgt := 1032) (by decide +kernel) (by decide +kernel) (by decide +kernel) (by decide) (lk_haven hst C Sc S c μ hc hc5 hR hM hA h60 fin)
      · exact mj_tblIn C dL_law__39 (off := 1049) (tgt := 1088) (by decide +kernel) (by decide +kernel) (by decide +kernel) (by decide) (lk_isSafe hst C Sc S c μ hc hc5 hR hM hA h60 fin)
      · exact mj_tblIn C dL_law__39 (off := 1112) (tgt := 1151) (by decide +kernel) (by decide +kernel) (by decide +kernel) (by decide) (lk_stateOf hst C Sc S c μ hc hc5 hR hM hA h60 fin)
      · exact mj_tblIn C dL_law__39 (off := 1168) (tgt := 1207) (by decide +kernel) (by decide +kernel) (by decide +kernel) (by decide) (lk_formatOf hst C Sc S c μ hc hc5 hR hM hA h60 fin)
      · exact mj_tblIn C dL_law__39 (off := 1224) (tgt := 1263) (by decide +kernel) (by decide +kernel) (by decide +kernel) (by decide) (lk_qualityOf hst C Sc S c μ hc hc5 hR hM hA h60 fin)
      · exact mj_tblIn C dL_law__39 (off := 1280) (tgt := 1319) (by decide +kernel) (by decide +kernel) (by decide +kernel) (by decide) (lk_endOf hst C Sc S c μ hc hc5 hR hM hA h60 fin)
      · exact mj_tblIn C dL_law__39 (off := 1336) (tgt := 1375) (by decide +kernel) (by decide +kernel) (by decide +kernel) (by decide) (lk_setBudget hst C Sc S c μ hc hc5 hR hM hA h60 fin)
      · exact mj_tblIn C dL_law__39 (off := 1392) (tgt := 1431) (by decide +kernel) (by decide +kernel) (by decide +kernel) (by decide) (lk_left hst C Sc S c μ hc hc5 hR hM hA h60 fin)
      · exact mj_tblIn C dL_law__39 (off := 1405) (tgt := 1444) (by decide +kernel) (by decide +kernel) (by decide +kernel) (by decide) (lk_begin hst C Sc S c μ hc hc5 hR hM hA h60 fin)
      · exact mj_tblIn C dL_law__39 (off := 1449) (tgt := 1488) (by decide +kernel) (by decide +kernel) (by decide +kernel) (by decide) (lk_year hst C Sc S c μ hc hc5 hR hM hA h60 fin)
      · exact mj_tblIn C dL_law__39 (off := 1462) (tgt := 1501) (by decide +kernel) (by decide +kernel) (by decide +kernel) (by decide) (lk_overdue hst C Sc S c μ hc hc5 hR hM hA h60 fin)
      · exact mj_tblIn C dL_law__39 (off := 1475) (tgt := 1514) (by decide +kernel) (by decide +kernel) (by decide +kernel) (by decide) (lk_promise hst C Sc S c μ hc hc5 hR hM hA h60 fin)
      · exact mj_tblOut C dL_law__39 (tgt := 1582) (Or.inr (by rw [nI_toInt (by omega)]; omega)) (by decide) (fin S μ none none _ _ hR hM hA h60 (by omega) (by omega))
    · exact law_out C Sc hL c (by omega) hc5 μ
def mu0 : jM := (fun x => if x = 61 then 1 else 0, fun _ _ _ => 0, fun _ _ _ => none, fun _ _ _ => 0)
theorem mu0_N (x : Nat) : mN mu0 x = if x = 61 then 1 else 0 := rfl
theorem V0_start : V0 (nw mu0 0) (nw mu0 0) 0 := by
  refine ⟨?_, fun g hg => ?_, fun x hx hx2 => ?_, fun g hg => absurd hg (Nat.not_lt_zero g), fun k y z hk => ?_, fun k y z hk hk2 => ?_, xF.rf⟩
  · rw [mN_nw, if_pos rfl, mu0_N, if_neg (by decide)]
  · rw [mN_nw, if_neg (by omega), mu0_N, if_neg (by omega), if_neg (Nat.not_lt_zero g)]
  · rw [mN_nw, if_neg (by omega), mu0_N, if_neg (by omega)]
  · rw [mI_nw]
    split
    · rfl
    · rfl
  · rw [mP_nw, if_neg (by omega)]
    rfl
theorem mI0_start {μ : jM} (hF : xF (nw mu0 0) μ) : mI0 (nw μ 20) (nw μ 20) 0 := by
  have n : ∀ x, 20 ≤ x → x ≠ 61 → mN μ x = 0 := fun x hx q => (hF x hx).1.trans (by rw [mN_nw, if_neg (by omega), mu0_N, if_neg q])
  have m : ∀ x y z, 20 ≤ x → mI μ x y z = 0 := fun x y z hx => ((hF x hx).2 y z).1.trans (by rw [mI_nw, if_neg (by omega)]; rfl)
  refine ⟨?_, fun g hg => ?_, fun g hg => absurd hg (Nat.not_lt_zero g), fun k y z hk hk2 => ?_, mF.rf⟩
  · rw [mN_nw, if_pos rfl, n 20 (by omega) (by omega)]
  · rw [mN_nw, if_neg (by omega), n _ (by omega) (by omega), if_neg (Nat.not_lt_zero g)]
  · rw [mI_nw]
    split
    · rfl
    · exact m k y z hk

theorem mR.kept60 {S : jS} {μ μ' : jM} (h : mR S μ) (hF : ∀ kd, 20 ≤ kd → kd < 50 → eqK μ μ' kd) : mR S μ' := by
  have hi : ∀ kd y z, 20 ≤ kd → kd < 50 → mI μ' kd y z = mI μ kd y z := fun kd y z hk h5 => ((hF kd hk h5).2 y z).1
  have hp : ∀ kd y z, 20 ≤ kd → kd < 50 → mP μ' kd y z = mP μ kd y z := fun kd y z hk h5 => ((hF kd hk h5).2 y z).2.1
  have hn : ∀ kd, 20 ≤ kd → kd < 50 → mN μ' kd = mN μ kd := fun kd hk h5 => (hF kd hk h5).1
  obtain ⟨h1, ⟨a1, a2, a3, a4, a5⟩, h3, h4, h5⟩ := h
  have e20 : ∀ z, mI μ' 20 0 z = mI μ 20 0 z := fun z => hi _ _ _ (by omega) (by omega)
  refine ⟨⟨by rw [hn 20 (by omega) (by omega)]; exact h1.1, fun f hf => ⟨by rw [hn _ (by omega) (by omega)]; exact (h1.2 f hf).1, by rw [hp _ _ _ (by omega) (by omega)]; exact (h1.2 f hf).2⟩⟩, ⟨?_, ?_, ?_, ?_, ?_⟩, fun a i ha hi' => ?_, ?_, fun j hj => ?_⟩
  · rw [e20]; exact a1
  · rw [e20]; exact a2
  · rw [e20]; exact a3
  · rw [e20]; exact a4
  · rw [e20]; exact a5
  · rw [hi _ _ _ (by omega) (by omega)]; exact h3 a i ha hi'
  · rw [e20]
    refine h4.imp id (fun h => ⟨h.1, fun a ha b hb => ?_⟩)
    obtain ⟨q1, q2, q3, q4, q5⟩ := h.2 a ha b hb
    exact ⟨by rw [hi _ _ _ (by omega) (by omega)]; exact q1, by rw [hi _ _ _ (by omega) (by omega)]; exact q2, by rw [hi _ _ _ (by omega) (by omega)]; exact q3, q4, fun k hk => by rw [hi _ _ _ (by omega) (by omega)]; exact q5 k hk⟩
  · rw [hi _ _ _ (by omega) (by omega)]; exact h5 j hj
set_option maxHeartbeats 2000000 in
set_option maxRecDepth 20000 in
theorem law_body {l : Launch} (hst : l.stackTraces = false) {J : Nat → List (Option jV) → List jV → jM → Nat → Nat → Prop} (C : jCtx l J cL_law_ 7 RL room_1 (some FieldType.boolean) 3 [] (fun _ _ => True) (fun _ _ => False) 0 0) {L9 : Nat} {xs : Nat → Int32} (Sc : jSc J cL_law_ L9 xs) (hL : L9 ≤ 2560) : J 0 [some (aR 61 0), none, none, none, none, none, none] [] mu0 0 0 := by
  refine mj_new (ci := 5) (kd := 0) (pc' := 3) C dL_law__0 rfl rfl (by decide) (by decide) kl_L_8 kt_X5 kn_X5 (by decide) (by decide) ?_
  rw [show mN mu0 0 = 0 from rfl]
  refine mj_dup (pc' := 4) C dL_law__3 rfl rfl ?_
  refine mj_callI_0 (pc' := 7) C (c_X5_init) dL_law__4 rfl km_L_86 ki_yX5_init kn_X5 kc_yX5_init rfl ⟨by decide, by decide, by decide +kernel⟩ ⟨by decide, by decide⟩ (Nat.le_of_ble_eq_true rfl) ⟨by decide, by decide⟩ ⟨rfl, V0_start⟩ (fun r μ4 hq4 hm4 => ?_)
  obtain ⟨rfl, hR4, hF4⟩ := hq4
  dsimp only [Option.toList, List.nil_append, List.cons_append]
  refine mj_astore_n_1 (pc' := 8) C dL_law__7 rfl (by decide) rfl ?_
  refine mj_new (ci := 6) (kd := 20) (pc' := 11) C dL_law__8 rfl rfl (by decide) (by decide) kl_L_87 kt_X6 kn_X6 (by decide) (by decide) ?_
  rw [show mN μ4 20 = 0 from (hF4 20 (by omega)).1]
  refine mj_dup (pc' := 12) C dL_law__11 rfl rfl ?_
  refine mj_callI_0 (pc' := 15) C (c_X6_init) dL_law__12 rfl km_L_89 ki_yX6_init kn_X6 kc_yX6_init rfl ⟨by decide, by decide, by decide +kernel⟩ ⟨by decide, by decide⟩ (Nat.le_of_ble_eq_true rfl) ⟨by decide, by decide⟩ ⟨rfl, mI0_start hF4⟩ (fun r μ12 hq12 hm12 => ?_)
  obtain ⟨rfl, hM12, hF12⟩ := hq12
  dsimp only [Option.toList, List.nil_append, List.cons_append]
  have hR12 : xR S0 μ12 := (hR4.kept (fun kd hk => eqK_nw (by omega))).kept (fun kd hk => hF12 kd (Or.inl hk))
  have z12 : mN μ12 60 = 0 := (hF12 60 (Or.inr (by omega))).1.trans ((show mN (nw μ4 20) 60 = mN μ4 60 by rw [mN_nw, if_neg (by decide)]).trans (hF4 60 (by omega)).1)
  refine mj_astore_n_2 (pc' := 16) C dL_law__15 rfl (by decide) rfl ?_
  refine mj_iconst (pc' := 17) (v := 1) C dL_law__16 rfl rfl ?_
  refine mj_newa (kd := 60) (pc' := 19) C dL_law__17 rfl rfl rfl (by decide) (by decide) ⟨by decide, by decide, fun _ h9 => by cases h9⟩ (by decide) rfl ka_long (by decide) (by decide) (by decide) ?_
  rw [z12]
  refine mj_astore_n_3 (pc' := 20) C dL_law__19 rfl (by decide) rfl ?_
  refine mj_iconst (pc' := 21) (v := 0) C dL_law__20 rfl rfl ?_
  refine mj_istore_4 (pc' := 23) C dL_law__21 rfl (by decide) rfl ?_
  refine jkn (J := J) (k' := 196 + 6 * 0) (n' := 3380 + 60 * 0) rfl rfl ?_
  exact law_loop hst C Sc hL 513 0 S0 (nw μ12 60) (by omega) (Or.inl rfl) (hR12.kept (fun kd hk => eqK_nw (by omega))) (hM12.kept60 (fun kd hk hk2 => eqK_nw (by omega))) A_0 (by rw [mN_nw, if_pos rfl, z12])