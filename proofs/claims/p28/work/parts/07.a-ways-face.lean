/-! THE CLASS: METHODS OF THE FACE THAT ASK FOR WAYS -/
theorem fF_of {S : jS} (hW : sW S) {i : Nat} (hi : i < sn S 0) : fF S i < 10 ∧ sf S 9 i = nI (fF S i) := by
  obtain ⟨g, hg, eg⟩ := (hW.2.2.1 i hi).1
  unfold fF
  rw [eg, ix_nI (by omega)]
  exact ⟨hg, rfl⟩
theorem fL_of {S : jS} (hW : sW S) {i : Nat} (hi : i < sn S 0) : fL S i < 5 ∧ sf S 11 i = nI (fL S i) := by
  obtain ⟨g, hg, eg⟩ := (hW.2.2.1 i hi).2.1
  unfold fL
  rw [eg, ix_nI (by omega)]
  exact ⟨hg, rfl⟩
theorem xR.lw {S : jS} {μ : jM} (h : xR S μ) (hW : sW S) {i : Nat} (hi : i < sn S 0) : mP μ 12 i 1 = some (10, fL S i) := by
  obtain ⟨u, hu, eu, pu⟩ := h.flw hi
  have e : fL S i = u := by unfold fL; rw [eu]; exact ix_nI (by omega)
  rw [e]
  exact pu
/-- a quality along a way, by numbers -/
theorem alg_N {S : jS} (hW : sW S) : ∀ (w : List Nat) (u : Nat), (∀ k ∈ w, k < sn S 1) → u ≤ 1000 → alg S w (nI u) = nI (qN S w u)
  | [], _, _, _ => rfl
  | k :: w, u, h, hu => by
    show alg S w (stQ S k (nI u)) = _
    rw [stQ_N hW (h k List.mem_cons_self) hu]
    exact alg_N hW w _ (fun j hj => h j (List.mem_cons_of_mem _ hj)) (Nat.le_trans (qS_le S k u) hu)
theorem bw_mem {S : jS} (hW : sW S) {a b : Nat} : ∀ k ∈ bw (best S a b), k < sn S 1 := by
  intro k hk
  cases hb : best S a b with
  | none => rw [hb] at hk; cases hk
  | some e =>
    obtain ⟨w, rfl, hv⟩ := best_of hW hb
    rw [hb] at hk
    exact okw_lt w hv.1 k hk
/-- the quality of a file behind a way -/
theorem alg_b {S : jS} (hW : sW S) {a b u : Nat} (hu : u ≤ 1000) : ∃ v, v ≤ 1000 ∧ alg S (bw (best S a b)) (nI u) = nI v := ⟨_, Nat.le_trans (qN_le S _ u) hu, alg_N hW _ u (bw_mem hW) hu⟩
theorem nI_m1 {u : Nat} (h : u < 2 ^ 31) : nI u ≠ -1 := by
  intro q
  have e2 := congrArg Int32.toInt q
  rw [nI_toInt h] at e2
  have e3 : ((-1 : Int32)).toInt = -1 := by decide
  rw [e3] at e2
  omega
theorem m1_lt {u : Nat} (h : u < 2 ^ 31) : (-1 : Int32) < nI u := by
  rw [Int32.lt_iff_toInt_lt, nI_toInt h]
  have e3 : ((-1 : Int32)).toInt = -1 := by decide
  omega
theorem sW_12 {S : jS} (h : sW S) {i u : Nat} (hu : u ≤ 1000) : sW (su S 12 i (nI u)) := by
  obtain ⟨h1, h2, h3, h4, h5⟩ := h
  refine ⟨h1, fun c hc => ?_, fun j hj => ?_, fun j hj => ?_, ?_⟩
  · simpa [sf_su] using h2 c hc
  · obtain ⟨a1, a2, a3, a4, a5⟩ := h3 j hj
    refine ⟨by simpa [sf_su] using a1, by simpa [sf_su] using a2, ?_, by simpa [sf_su] using a4, by simpa [sf_su] using a5⟩
    rw [sf_su]
    split
    · exact ⟨u, hu, rfl⟩
    · exact a3
  · simpa [sf_su] using h4 j hj
  · simpa [sf_su] using h5
theorem sW_9 {S : jS} (h : sW S) {i u : Nat} (hu : u < 10) : sW (su S 9 i (nI u)) := by
  obtain ⟨h1, h2, h3, h4, h5⟩ := h
  refine ⟨h1, fun c hc => ?_, fun j hj => ?_, fun j hj => ?_, ?_⟩
  · simpa [sf_su] using h2 c hc
  · obtain ⟨a1, a2, a3, a4, a5⟩ := h3 j hj
    refine ⟨?_, by simpa [sf_su] using a2, by simpa [sf_su] using a3, by simpa [sf_su] using a4, by simpa [sf_su] using a5⟩
    rw [sf_su]
    split
    · exact ⟨u, hu, rfl⟩
    · exact a1
  · simpa [sf_su] using h4 j hj
  · simpa [sf_su] using h5
theorem tk_W {S : jS} (h : sW S) {i j : Nat} (hi : i < sn S 0) (hj : j < 10) : sW (tk S i j) := by
  obtain ⟨u, hu, eu⟩ := (h.2.2.1 i hi).2.2.1
  obtain ⟨v, hv, ev⟩ := alg_b h (a := fF S i) (b := j) hu
  unfold tk
  rw [eu, ev]
  exact sW_9 (sW_12 (sW_x h (by omega)) hv) hj
/-! havens -/
theorem hv_eq {S : jS} (hW : sW S) {i : Nat} (hi : i < sn S 0) : ∀ n, ((List.range n).foldl (hv1 S i) (-1, -1, -1)).1 = ((List.range n).foldl (hv1 S i) (-1, -1, 0)).1 ∧ ((List.range n).foldl (hv1 S i) (-1, -1, -1)).2.1 = ((List.range n).foldl (hv1 S i) (-1, -1, 0)).2.1 ∧ (((List.range n).foldl (hv1 S i) (-1, -1, 0)).2.1 ≠ -1 → (List.range n).foldl (hv1 S i) (-1, -1, -1) = (List.range n).foldl (hv1 S i) (-1, -1, 0)) := by
  obtain ⟨u, hu, eu⟩ := (hW.2.2.1 i hi).2.2.1
  intro n
  induction n with
  | zero => exact ⟨rfl, rfl, fun h => absurd rfl h⟩
  | succ n ih =>
    rw [List.range_succ, List.foldl_append, List.foldl_append]
    simp only [List.foldl_cons, List.foldl_nil]
    generalize (List.range n).foldl (hv1 S i) (-1, -1, -1) = t' at ih ⊢
    generalize (List.range n).foldl (hv1 S i) (-1, -1, 0) = t at ih ⊢
    obtain ⟨i1, i2, i3⟩ := ih
    by_cases q : t.2.1 = -1
    · obtain ⟨v, hv, ev⟩ := alg_b hW (a := fF S i) (b := n) hu
      rw [← eu] at ev
      have h1 := nI_m1 (u := v) (by omega)
      have h2 := m1_lt (u := v) (by omega)
      unfold hv1
      rw [i2, q, ev]
      simp only [h1, h2, true_or, and_true, false_and, or_false]
      split
      · exact ⟨rfl, rfl, fun _ => rfl⟩
      · exact ⟨i1, by rw [i2, q], fun h => absurd q h⟩
    · rw [i3 q]
      exact ⟨rfl, rfl, fun _ => rfl⟩
noncomputable def hd' (S : jS) (i n : Nat) : Int32 × Int32 × Int32 := (List.range n).foldl (hv1 S i) (-1, -1, -1)
theorem hd_s (S : jS) (i n : Nat) : hd' S i (n + 1) = hv1 S i (hd' S i n) n := by
  unfold hd'
  rw [List.range_succ, List.foldl_append]
  rfl
theorem hv_k {S : jS} (hW : sW S) {i : Nat} (hi : i < sn S 0) (hs : sf S 15 i = 0) : hv S i = (hd' S i 10).1 := by
  unfold hv
  rw [if_pos hs]
  exact (hv_eq hW hi 10).1.symm
theorem hv_n {S : jS} {i : Nat} (hs : ¬ sf S 15 i = 0) : hv S i = -1 := if_neg hs
/-- a haven is a format -/
theorem hd_in (S : jS) (i : Nat) : ∀ n, (hd' S i n).1 = -1 ∨ ∃ j, j < n ∧ (hd' S i n).1 = nI j
  | 0 => Or.inl rfl
  | n + 1 => by
    rw [hd_s]
    unfold hv1
    split
    · exact Or.inr ⟨n, Nat.lt_succ_self n, rfl⟩
    · exact (hd_in S i n).imp id (fun ⟨j, h1, h2⟩ => ⟨j, by omega, h2⟩)
theorem imin_s (x : Int32) : imin 100 x = if 100 < x then 100 else x := by
  unfold imin
  simp only [Int32.lt_iff_toInt_lt]
  by_cases h1 : x.toInt < (100 : Int32).toInt
  · rw [if_pos h1, if_neg (by omega)]
  · rw [if_neg h1]
    by_cases h2 : (100 : Int32).toInt < x.toInt
    · rw [if_pos h2]
    · rw [if_neg h2]
      exact Int32.toInt_inj.mp (by omega)
theorem span_x (S : jS) (j : Nat) : (if sf S 0 j = -1 then (100 : Int32) else imin 100 (sf S 0 j - sf S 17 2)) = span S j := by
  unfold span
  by_cases h : sf S 0 j = -1
  · rw [if_pos h, if_pos (Or.inl h)]
  · rw [if_neg h, imin_s]
    by_cases h2 : 100 < sf S 0 j - sf S 17 2
    · rw [if_pos h2, if_pos (Or.inr h2)]
    · rw [if_neg h2, if_neg (fun q => q.elim h h2)]

set_option maxRecDepth 20000 in
theorem c_X5_quality {l : Launch} (hst : l.stackTraces = false) (S : jS) (a b : Int32) : jMet l yX5_quality cX5_quality 3 (some FieldType.int) 17 540 2 12 (fun avs μ => avs = [aR 0 0, aI a, aI b] ∧ xR S μ ∧ sW S) (fun avs μ r μ' => (o_quality S a b).1 = 0 ∧ r = some (aI (o_quality S a b).2.1) ∧ xR (o_quality S a b).2.2 μ' ∧ xF μ μ') (fun avs μ E μ' => (o_quality S a b).1 ≠ 0 ∧ E = exn (o_quality S a b).1 ∧ xR S μ' ∧ xF μ μ') := by
  refine jMet_of hst (by decide) ?_
  intro avs μ J C hav hpre
  obtain ⟨rfl, hR, hW⟩ := hpre
  refine ⟨Nat.le_of_ble_eq_true rfl, ?_⟩
  show J 0 [some (aR 0 0), some (aI a), some (aI b)] [] μ 0 0
  have hW0 := hW.1.1
  have hW1 := hW.1.2
  refine mj_iload_n (pc' := 1) C dX5_quality_0 rfl rfl ?_
  refine mj_callSX_1 (pc' := 4) C (c_X5_requireFormat hst a) dX5_quality_1 rfl km_X5_40 ks_yX5_requireFormat kn_X5 kc_yX5_requireFormat ⟨by decide, by decide, by decide +kernel⟩ ⟨by decide, by decide⟩ (Nat.le_of_ble_eq_true rfl) ⟨by decide, by decide⟩ rfl (fun r1 μ1 hq1 hm1 => ?_) (fun E μ9 h9 => ?_) (by decide) (by decide)
  · obtain ⟨hb1, rfl, hq9⟩ := hq1
    have hq9 := hq9.symm
    subst hq9
    dsimp only [Option.toList, List.nil_append, List.cons_append]
    obtain ⟨i, hi, rfl, ei⟩ := bad_of hb1 (by decide)
    refine mj_iload_n (pc' := 5) C dX5_quality_4 rfl rfl ?_
    refine mj_callSX_1 (pc' := 8) C (c_X5_requireFormat hst b) dX5_quality_5 rfl km_X5_40 ks_yX5_requireFormat kn_X5 kc_yX5_requireFormat ⟨by decide, by decide, by decide +kernel⟩ ⟨by decide, by decide⟩ (Nat.le_of_ble_eq_true rfl) ⟨by decide, by decide⟩ rfl (fun r5 μ5 hq5 hm5 => ?_) (fun E μ9 h9 => ?_) (by decide) (by decide)
    · obtain ⟨hb5, rfl, hq9⟩ := hq5
      have hq9 := hq9.symm
      subst hq9
      dsimp only [Option.toList, List.nil_append, List.cons_append]
      obtain ⟨j, hj, rfl, ej⟩ := bad_of hb5 (by decide)
      refine mj_aload_n (pc' := 9) C dX5_quality_8 rfl rfl ?_
      refine mj_getR (pc' := 12) C dX5_quality_9 rfl (ci := 5) (f := 3) rfl (by decide) (by decide) (fun _ => rfl) (by decide) kf_X5_28 hR.B.l0 hR.B.p03 ?_
      refine mj_iload_n (pc' := 13) C dX5_quality_12 rfl rfl ?_
      refine mj_callVN_1 (ci := 3) (pc' := 16) C (c_X3_waysFrom hst S i) dX5_quality_13 rfl km_X5_121 ki_yX3_waysFrom kz_yX3_waysFrom kn_X3 kc_yX3_waysFrom rfl (by decide) (by decide) ⟨rfl, by decide, by decide, by decide +kernel⟩ ⟨by decide, by decide⟩ (Nat.le_of_ble_eq_true rfl) ⟨by decide, by decide⟩ ⟨rfl, hR, hW, hi⟩ (fun r13 μ13 hq13 hm13 => ?_) (fun _ _ h9 => h9)
      obtain ⟨rfl, hR13, hF13, hT13, hc13, hs13⟩ := hq13
      dsimp only [Option.toList, List.nil_append, List.cons_append]
      have hR := hR13
      refine mj_getR (pc' := 19) C dX5_quality_16 rfl (ci := 0) (f := 0) rfl (by decide) (by decide) (fun _ => rfl) (by decide) kf_X5_125 (hR.B.l11 (by first | assumption | omega)) (hR.B.pq (by first | assumption | omega)) ?_
      refine mj_iload_n (pc' := 20) C dX5_quality_19 rfl rfl ?_
      refine mj_ialdV (pc' := 21) C dX5_quality_20 rfl rfl (by decide) (by decide) (hR.B.l14 (by first | assumption | omega)) rfl (by first | assumption | omega) (hT13 j hj).1 ?_
      refine mj_iret C dX5_quality_21 (by decide) (by decide) (by decide) ?_
      exact ret_of (o := o_quality S (nI i) (nI j)) (by unfold o_quality; rw [if_neg (fun h => h.elim hb1 hb5), ei, ej]) hR hF13
    · obtain ⟨hb, rfl, rfl⟩ := h9
      exact thr_of (o := o_quality S (nI i) b) (by unfold o_quality; rw [if_pos (Or.inr hb)]) (by decide) hR xF.rf
  · obtain ⟨hb, rfl, rfl⟩ := h9
    exact thr_of (o := o_quality S a b) (by unfold o_quality; rw [if_pos (Or.inl hb)]) (by decide) hR xF.rf

set_option maxRecDepth 20000 in
theorem c_X5_cost {l : Launch} (hst : l.stackTraces = false) (S : jS) (a b : Int32) : jMet l yX5_cost cX5_cost 3 (some FieldType.int) 17 540 2 12 (fun avs μ => avs = [aR 0 0, aI a, aI b] ∧ xR S μ ∧ sW S) (fun avs μ r μ' => (o_cost S a b).1 = 0 ∧ r = some (aI (o_cost S a b).2.1) ∧ xR (o_cost S a b).2.2 μ' ∧ xF μ μ') (fun avs μ E μ' => (o_cost S a b).1 ≠ 0 ∧ E = exn (o_cost S a b).1 ∧ xR S μ' ∧ xF μ μ') := by
  refine jMet_of hst (by decide) ?_
  intro avs μ J C hav hpre
  obtain ⟨rfl, hR, hW⟩ := hpre
  refine ⟨Nat.le_of_ble_eq_true rfl, ?_⟩
  show J 0 [some (aR 0 0), some (aI a), some (aI b)] [] μ 0 0
  have hW0 := hW.1.1
  have hW1 := hW.1.2
  refine mj_iload_n (pc' := 1) C dX5_cost_0 rfl rfl ?_
  refine mj_callSX_1 (pc' := 4) C (c_X5_requireFormat hst a) dX5_cost_1 rfl km_X5_40 ks_yX5_requireFormat kn_X5 kc_yX5_requireFormat ⟨by decide, by decide, by decide +kernel⟩ ⟨by decide, by decide⟩ (Nat.le_of_ble_eq_true rfl) ⟨by decide, by decide⟩ rfl (fun r1 μ1 hq1 hm1 => ?_) (fun E μ9 h9 => ?_) (by decide) (by decide)
  · obtain ⟨hb1, rfl, hq9⟩ := hq1
    have hq9 := hq9.symm
    subst hq9
    dsimp only [Option.toList, List.nil_append, List.cons_append]
    obtain ⟨i, hi, rfl, ei⟩ := bad_of hb1 (by decide)
    refine mj_iload_n (pc' := 5) C dX5_cost_4 rfl rfl ?_
    refine mj_callSX_1 (pc' := 8) C (c_X5_requireFormat hst b) dX5_cost_5 rfl km_X5_40 ks_yX5_requireFormat kn_X5 kc_yX5_requireFormat ⟨by decide, by decide, by decide +kernel⟩ ⟨by decide, by decide⟩ (Nat.le_of_ble_eq_true rfl) ⟨by decide, by decide⟩ rfl (fun r5 μ5 hq5 hm5 => ?_) (fun E μ9 h9 => ?_) (by decide) (by decide)
    · obtain ⟨hb5, rfl, hq9⟩ := hq5
      have hq9 := hq9.symm
      subst hq9
      dsimp only [Option.toList, List.nil_append, List.cons_append]
      obtain ⟨j, hj, rfl, ej⟩ := bad_of hb5 (by decide)
      refine mj_aload_n (pc' := 9) C dX5_cost_8 rfl rfl ?_
      refine mj_getR (pc' := 12) C dX5_cost_9 rfl (ci := 5) (f := 3) rfl (by decide) (by decide) (fun _ => rfl) (by decide) kf_X5_28 hR.B.l0 hR.B.p03 ?_
      refine mj_iload_n (pc' := 13) C dX5_cost_12 rfl rfl ?_
      refine mj_callVN_1 (ci := 3) (pc' := 16) C (c_X3_waysFrom hst S i) dX5_cost_13 rfl km_X5_121 ki_yX3_waysFrom kz_yX3_waysFrom kn_X3 kc_yX3_waysFrom rfl (by decide) (by decide) ⟨rfl, by decide, by decide, by decide +kernel⟩ ⟨by decide, by decide⟩ (Nat.le_of_ble_eq_true rfl) ⟨by decide, by decide⟩ ⟨rfl, hR, hW, hi⟩ (fun r13 μ13 hq13 hm13 => ?_) (fun _ _ h9 => h9)
      obtain ⟨rfl, hR13, hF13, hT13, hc13, hs13⟩ := hq13
      dsimp only [Option.toList, List.nil_append, List.cons_append]
      have hR := hR13
      refine mj_getR (pc' := 19) C dX5_cost_16 rfl (ci := 0) (f := 1) rfl (by decide) (by decide) (fun _ => rfl) (by decide) kf_X5_134 (hR.B.l11 (by first | assumption | omega)) (hR.B.pc (by first | assumption | omega)) ?_
      refine mj_iload_n (pc' := 20) C dX5_cost_19 rfl rfl ?_
      refine mj_ialdV (pc' := 21) C dX5_cost_20 rfl rfl (by decide) (by decide) (hR.B.l15 (by first | assumption | omega)) rfl (by first | assumption | omega) (hT13 j hj).2.1 ?_
      refine mj_iret C dX5_cost_21 (by decide) (by decide) (by decide) ?_
      exact ret_of (o := o_cost S (nI i) (nI j)) (by unfold o_cost; rw [if_neg (fun h => h.elim hb1 hb5), ei, ej]) hR hF13
    · obtain ⟨hb, rfl, rfl⟩ := h9
      exact thr_of (o := o_cost S (nI i) b) (by unfold o_cost; rw [if_pos (Or.inr hb)]) (by decide) hR xF.rf
  · obtain ⟨hb, rfl, rfl⟩ := h9
    exact thr_of (o := o_cost S a b) (by unfold o_cost; rw [if_pos (Or.inl hb)]) (by decide) hR xF.rf

set_option maxRecDepth 20000 in
theorem c_X5_qualityByAll {l : Launch} (hst : l.stackTraces = false) (S : jS) (a b : Int32) : jMet l yX5_qualityByAll cX5_qualityByAll 3 (some FieldType.int) 17 540 2 12 (fun avs μ => avs = [aR 0 0, aI a, aI b] ∧ xR S μ ∧ sW S) (fun avs μ r μ' => (o_byAll S a b).1 = 0 ∧ r = some (aI (o_byAll S a b).2.1) ∧ xR (o_byAll S a b).2.2 μ' ∧ xF μ μ') (fun avs μ E μ' => (o_byAll S a b).1 ≠ 0 ∧ E = exn (o_byAll S a b).1 ∧ xR S μ' ∧ xF μ μ') := by
  refine jMet_of hst (by decide) ?_
  intro avs μ J C hav hpre
  obtain ⟨rfl, hR, hW⟩ := hpre
  refine ⟨Nat.le_of_ble_eq_true rfl, ?_⟩
  show J 0 [some (aR 0 0), some (aI a), some (aI b)] [] μ 0 0
  have hW0 := hW.1.1
  have hW1 := hW.1.2
  refine mj_iload_n (pc' := 1) C dX5_qualityByAll_0 rfl rfl ?_
  refine mj_callSX_1 (pc' := 4) C (c_X5_requireFormat hst a) dX5_qualityByAll_1 rfl km_X5_40 ks_yX5_requireFormat kn_X5 kc_yX5_requireFormat ⟨by decide, by decide, by decide +kernel⟩ ⟨by decide, by decide⟩ (Nat.le_of_ble_eq_true rfl) ⟨by decide, by decide⟩ rfl (fun r1 μ1 hq1 hm1 => ?_) (fun E μ9 h9 => ?_) (by decide) (by decide)
  · obtain ⟨hb1, rfl, hq9⟩ := hq1
    have hq9 := hq9.symm
    subst hq9
    dsimp only [Option.toList, List.nil_append, List.cons_append]
    obtain ⟨i, hi, rfl, ei⟩ := bad_of hb1 (by decide)
    refine mj_iload_n (pc' := 5) C dX5_qualityByAll_4 rfl rfl ?_
    refine mj_callSX_1 (pc' := 8) C (c_X5_requireFormat hst b) dX5_qualityByAll_5 rfl km_X5_40 ks_yX5_requireFormat kn_X5 kc_yX5_requireFormat ⟨by decide, by decide, by decide +kernel⟩ ⟨by decide, by decide⟩ (Nat.le_of_ble_eq_true rfl) ⟨by decide, by decide⟩ rfl (fun r5 μ5 hq5 hm5 => ?_) (fun E μ9 h9 => ?_) (by decide) (by decide)
    · obtain ⟨hb5, rfl, hq9⟩ := hq5
      have hq9 := hq9.symm
      subst hq9
      dsimp only [Option.toList, List.nil_append, List.cons_append]
      obtain ⟨j, hj, rfl, ej⟩ := bad_of hb5 (by decide)
      refine mj_aload_n (pc' := 9) C dX5_qualityByAll_8 rfl rfl ?_
      refine mj_getR (pc' := 12) C dX5_qualityByAll_9 rfl (ci := 5) (f := 3) rfl (by decide) (by decide) (fun _ => rfl) (by decide) kf_X5_28 hR.B.l0 hR.B.p03 ?_
      refine mj_iload_n (pc' := 13) C dX5_qualityByAll_12 rfl rfl ?_
      refine mj_iload_n (pc' := 14) C dX5_qualityByAll_13 rfl rfl ?_
      refine mj_callVN_2 (ci := 3) (pc' := 17) C (c_X3_greatestOfAllWays hst S i j) dX5_qualityByAll_14 rfl km_X5_130 ki_yX3_greatestOfAllWays kz_yX3_greatestOfAllWays kn_X3 kc_yX3_greatestOfAllWays rfl (by decide) (by decide) ⟨rfl, by decide, by decide, by decide +kernel⟩ ⟨by decide, by decide⟩ (Nat.le_of_ble_eq_true rfl) ⟨by decide, by decide⟩ ⟨rfl, hR, hW, hi, hj⟩ (fun r14 μ14 hq14 hm14 => ?_) (fun _ _ h9 => h9)
      obtain ⟨rfl, hq9⟩ := hq14
      have hq9 := hq9.symm
      subst hq9
      dsimp only [Option.toList, List.nil_append, List.cons_append]
      refine mj_iret C dX5_qualityByAll_17 (by decide) (by decide) (by decide) ?_
      exact ret_of (o := o_byAll S (nI i) (nI j)) (by unfold o_byAll; rw [if_neg (fun h => h.elim hb1 hb5), ei, ej]) hR xF.rf
    · obtain ⟨hb, rfl, rfl⟩ := h9
      exact thr_of (o := o_byAll S (nI i) b) (by unfold o_byAll; rw [if_pos (Or.inr hb)]) (by decide) hR xF.rf
  · obtain ⟨hb, rfl, rfl⟩ := h9
    exact thr_of (o := o_byAll S a b) (by unfold o_byAll; rw [if_pos (Or.inl hb)]) (by decide) hR xF.rf

set_option maxRecDepth 20000 in
theorem c_X5_stepAt {l : Launch} (hst : l.stackTraces = false) (S : jS) (a b p : Int32) : jMet l yX5_stepAt cX5_stepAt 5 (some FieldType.int) 17 540 3 18 (fun avs μ => avs = [aR 0 0, aI a, aI b, aI p] ∧ xR S μ ∧ sW S) (fun avs μ r μ' => (o_stepAt S a b p).1 = 0 ∧ r = some (aI (o_stepAt S a b p).2.1) ∧ xR (o_stepAt S a b p).2.2 μ' ∧ xF μ μ') (fun avs μ E μ' => (o_stepAt S a b p).1 ≠ 0 ∧ E = exn (o_stepAt S a b p).1 ∧ xR S μ' ∧ xF μ μ') := by
  refine jMet_of hst (by decide) ?_
  intro avs μ J C hav hpre
  obtain ⟨rfl, hR, hW⟩ := hpre
  refine ⟨Nat.le_of_ble_eq_true rfl, ?_⟩
  show J 0 [some (aR 0 0), some (aI a), some (aI b), some (aI p), none] [] μ 0 0
  have hW0 := hW.1.1
  have hW1 := hW.1.2
  refine mj_iload_n (pc' := 1) C dX5_stepAt_0 rfl rfl ?_
  refine mj_callSX_1 (pc' := 4) C (c_X5_requireFormat hst a) dX5_stepAt_1 rfl km_X5_40 ks_yX5_requireFormat kn_X5 kc_yX5_requireFormat ⟨by decide, by decide, by decide +kernel⟩ ⟨by decide, by decide⟩ (Nat.le_of_ble_eq_true rfl) ⟨by decide, by decide⟩ rfl (fun r1 μ1 hq1 hm1 => ?_) (fun E μ9 h9 => ?_) (by decide) (by decide)
  · obtain ⟨hb1, rfl, hq9⟩ := hq1
    have hq9 := hq9.symm
    subst hq9
    dsimp only [Option.toList, List.nil_append, List.cons_append]
    obtain ⟨i, hi, rfl, ei⟩ := bad_of hb1 (by decide)
    refine mj_iload_n (pc' := 5) C dX5_stepAt_4 rfl rfl ?_
    refine mj_callSX_1 (pc' := 8) C (c_X5_requireFormat hst b) dX5_stepAt_5 rfl km_X5_40 ks_yX5_requireFormat kn_X5 kc_yX5_requireFormat ⟨by decide, by decide, by decide +kernel⟩ ⟨by decide, by decide⟩ (Nat.le_of_ble_eq_true rfl) ⟨by decide, by decide⟩ rfl (fun r5 μ5 hq5 hm5 => ?_) (fun E μ9 h9 => ?_) (by decide) (by decide)
    · obtain ⟨hb5, rfl, hq9⟩ := hq5
      have hq9 := hq9.symm
      subst hq9
      dsimp only [Option.toList, List.nil_append, List.cons_append]
      obtain ⟨j, hj, rfl, ej⟩ := bad_of hb5 (by decide)
      refine mj_iload_n (pc' := 9) C dX5_stepAt_8 rfl rfl ?_
      refine mj_if_ge (tgt := 22) (pc' := 12) C dX5_stepAt_9 (by decide) rfl (fun h9 => ?_) (fun h9 => ?_)
      · refine mj_aload_n (pc' := 23) C dX5_stepAt_22 rfl rfl ?_
        refine mj_getR (pc' := 26) C dX5_stepAt_23 rfl (ci := 5) (f := 3) rfl (by decide) (by decide) (fun _ => rfl) (by decide) kf_X5_28 hR.B.l0 hR.B.p03 ?_
        refine mj_iload_n (pc' := 27) C dX5_stepAt_26 rfl rfl ?_
        refine mj_callVN_1 (ci := 3) (pc' := 30) C (c_X3_waysFrom hst S i) dX5_stepAt_27 rfl km_X5_121 ki_yX3_waysFrom kz_yX3_waysFrom kn_X3 kc_yX3_waysFrom rfl (by decide) (by decide) ⟨rfl, by decide, by decide, by decide +kernel⟩ ⟨by decide, by decide⟩ (Nat.le_of_ble_eq_true rfl) ⟨by decide, by decide⟩ ⟨rfl, hR, hW, hi⟩ (fun r27 μ27 hq27 hm27 => ?_) (fun _ _ h9 => h9)
        obtain ⟨rfl, hR27, hF27, hT27, hc27, hs27⟩ := hq27
        dsimp only [Option.toList, List.nil_append, List.cons_append]
        have hR := hR27
        refine mj_astore_4 (pc' := 32) C dX5_stepAt_30 rfl (by decide) rfl ?_
        refine mj_iload_n (pc' := 33) C dX5_stepAt_32 rfl rfl ?_
        refine mj_aload (pc' := 35) C dX5_stepAt_33 rfl rfl ?_
        refine mj_getR (pc' := 38) C dX5_stepAt_35 rfl (ci := 0) (f := 2) rfl (by decide) (by decide) (fun _ => rfl) (by decide) kf_X5_139 (hR.B.l11 (by first | assumption | omega)) (hR.B.pl (by first | assumption | omega)) ?_
        refine mj_iload_n (pc' := 39) C dX5_stepAt_38 rfl rfl ?_
        refine mj_ialdV (pc' := 40) C dX5_stepAt_39 rfl rfl (by decide) (by decide) (hR.B.l16 (by first | assumption | omega)) rfl (by first | assumption | omega) (hT27 j hj).2.2.1 ?_
        refine mj_icmp_ge (tgt := 55) (pc' := 43) C dX5_stepAt_40 (by decide) rfl (fun h40 => ?_) (fun h40 => ?_)
        · have hv : o_stepAt S (nI i) (nI j) p = (0, -1, S) := by unfold o_stepAt; rw [if_neg (fun h => h.elim hb1 (fun h => h.elim hb5 (fun h => absurd h (Int32.not_lt.mpr h9)))), ei, ej, if_neg (Int32.not_lt.mpr h40)]
          refine mj_iconst (pc' := 56) (v := (-1)) C dX5_stepAt_55 rfl rfl ?_
          refine mj_iret C dX5_stepAt_56 (by decide) (by decide) (by decide) ?_
          exact ret_of hv hR hF27
        · obtain ⟨k, hk, rfl⟩ : ∃ k, k < (bw (best S i j)).length ∧ p = nI k := by
            obtain ⟨k, hk, e1⟩ := nI_of (Int32.not_lt.mpr h9)
            have hl := bw_le hW i j
            refine ⟨k, ?_, e1⟩
            rw [e1] at h40
            exact (nI_ltI hk (by omega)).mp (Int32.not_le.mp h40)
          have hl := bw_le hW i j
          have hv : o_stepAt S (nI i) (nI j) (nI k) = (0, nI ((bw (best S i j)).getD k 0), S) := by unfold o_stepAt; rw [if_neg (fun h => h.elim hb1 (fun h => h.elim hb5 (fun h => absurd h (Int32.not_lt.mpr h9)))), ei, ej, if_pos (nI_lt hk (by omega)), ix_nI (by omega)]
          refine mj_aload (pc' := 45) C dX5_stepAt_43 rfl rfl ?_
          refine mj_getR (pc' := 48) C dX5_stepAt_45 rfl (ci := 0) (f := 3) rfl (by decide) (by decide) (fun _ => rfl) (by decide) kf_X5_142 (hR.B.l11 (by first | assumption | omega)) (hR.B.ps (by first | assumption | omega)) ?_
          refine mj_iload_n (pc' := 49) C dX5_stepAt_48 rfl rfl ?_
          refine mj_aald (pc' := 50) C dX5_stepAt_49 rfl rfl (by decide) rfl (fun _ _ => rfl) (by decide) (by decide) (hR.B.l17 (by first | assumption | omega)) rfl (by first | assumption | omega) (hR.B.p17 (by first | assumption | omega) (by first | assumption | omega)) ?_
          refine mj_iload_n (pc' := 51) C dX5_stepAt_50 rfl rfl ?_
          refine mj_ialdV (pc' := 52) C dX5_stepAt_51 rfl rfl (by decide) (by decide) (hR.B.l18 (by first | assumption | omega)) rfl (by first | assumption | omega) ((hT27 j hj).2.2.2.2 k hk) ?_
          refine mj_goto (pc' := 56) C dX5_stepAt_52 (by decide) ?_
          refine mj_iret C dX5_stepAt_56 (by decide) (by decide) (by decide) ?_
          exact ret_of hv hR hF27
      · refine mj_throw C (text := "there is no such place") (names := ["java/lang/RuntimeException", "java/lang/Exception"]) dX5_stepAt_12 dX5_stepAt_15 dX5_stepAt_16 dX5_stepAt_18 dX5_stepAt_21 rfl rfl kl_X5_78 kn_IOOBE thrw_1 thrk_1 (by decide) (by decide) (by decide) (by decide) (by decide) (by decide) (by decide) ?_
        exact thr_of (o := o_stepAt S (nI i) (nI j) p) (c := 1) (by unfold o_stepAt; rw [if_pos (Or.inr (Or.inr (Int32.not_le.mp h9)))]) (by decide) hR xF.rf
    · obtain ⟨hb, rfl, rfl⟩ := h9
      exact thr_of (o := o_stepAt S (nI i) b p) (by unfold o_stepAt; rw [if_pos (Or.inr (Or.inl hb))]) (by decide) hR xF.rf
  · obtain ⟨hb, rfl, rfl⟩ := h9
    exact thr_of (o := o_stepAt S a b p) (by unfold o_stepAt; rw [if_pos (Or.inl hb)]) (by decide) hR xF.rf

set_option maxRecDepth 20000 in
theorem c_X5_costOfMove {l : Launch} (hst : l.stackTraces = false) (S : jS) (i j : Nat) : jMet l yX5_costOfMove cX5_costOfMove 3 (some FieldType.int) 17 540 0 0 (fun avs μ => avs = [aR 0 0, aR 12 i, aI (nI j)] ∧ xR S μ ∧ sW S ∧ i < sn S 0 ∧ j < 10) (fun avs μ r μ' => r = some (aI (sf S 10 i * bc (best S (fF S i) j))) ∧ xR S μ' ∧ xF μ μ' ∧ (mI μ 11 (fF S i) 4 ≠ 0 → μ' = μ)) (fun avs μ E μ' => False) := by
  refine jMet_of hst (by decide) ?_
  intro avs μ J C hav hpre
  obtain ⟨rfl, hR, hW, hi, hj⟩ := hpre
  refine ⟨Nat.le_of_ble_eq_true rfl, ?_⟩
  show J 0 [some (aR 0 0), some (aR 12 i), some (aI (nI j))] [] μ 0 0
  have hW0 := hW.1.1
  have hW1 := hW.1.2
  obtain ⟨hg, eg⟩ := fF_of hW hi
  refine mj_aload_n (pc' := 1) C dX5_costOfMove_0 rfl rfl ?_
  refine mj_getV (pc' := 4) C dX5_costOfMove_1 rfl (ci := 4) (f := 0) rfl (by decide) (by decide) (fun _ => rfl) (by decide) kf_X5_254 (hR.l12 (by first | assumption | omega)) (hR.fsz (by first | assumption | omega)) ?_
  refine mj_aload_n (pc' := 5) C dX5_costOfMove_4 rfl rfl ?_
  refine mj_getR (pc' := 8) C dX5_costOfMove_5 rfl (ci := 5) (f := 3) rfl (by decide) (by decide) (fun _ => rfl) (by decide) kf_X5_28 hR.B.l0 hR.B.p03 ?_
  refine mj_aload_n (pc' := 9) C dX5_costOfMove_8 rfl rfl ?_
  refine mj_getV (pc' := 12) C dX5_costOfMove_9 rfl (ci := 4) (f := 3) rfl (by decide) (by decide) (fun _ => rfl) (by decide) kf_X5_165 (hR.l12 (by first | assumption | omega)) ((hR.ffm (by first | assumption | omega)).trans eg) ?_
  refine mj_callVN_1 (ci := 3) (pc' := 15) C (c_X3_waysFrom hst S (fF S i)) dX5_costOfMove_12 rfl km_X5_121 ki_yX3_waysFrom kz_yX3_waysFrom kn_X3 kc_yX3_waysFrom rfl (by decide) (by decide) ⟨rfl, by decide, by decide, by decide +kernel⟩ ⟨by decide, by decide⟩ (Nat.le_of_ble_eq_true rfl) ⟨by decide, by decide⟩ ⟨rfl, hR, hW, hg⟩ (fun r12 μ12 hq12 hm12 => ?_) (fun _ _ h9 => h9)
  obtain ⟨rfl, hR12, hF12, hT12, hc12, hs12⟩ := hq12
  dsimp only [Option.toList, List.nil_append, List.cons_append]
  have hR := hR12
  refine mj_getR (pc' := 18) C dX5_costOfMove_15 rfl (ci := 0) (f := 1) rfl (by decide) (by decide) (fun _ => rfl) (by decide) kf_X5_134 (hR.B.l11 (by first | assumption | omega)) (hR.B.pc (by first | assumption | omega)) ?_
  refine mj_iload_n (pc' := 19) C dX5_costOfMove_18 rfl rfl ?_
  refine mj_ialdV (pc' := 20) C dX5_costOfMove_19 rfl rfl (by decide) (by decide) (hR.B.l15 (by first | assumption | omega)) rfl (by first | assumption | omega) (hT12 j hj).2.1 ?_
  refine mj_imul (pc' := 21) C dX5_costOfMove_20 rfl ?_
  refine mj_iret C dX5_costOfMove_21 (by decide) (by decide) (by decide) ?_
  exact ⟨rfl, hR, hF12, hs12⟩

set_option maxRecDepth 20000 in
theorem c_X5_take {l : Launch} (hst : l.stackTraces = false) (S : jS) (i j : Nat) : jMet l yX5_take cX5_take 4 none 18 580 0 0 (fun avs μ => avs = [aR 0 0, aR 12 i, aI (nI j)] ∧ xR S μ ∧ sW S ∧ i < sn S 0 ∧ j < 10) (fun avs μ r μ' => r = none ∧ xR (tk S i j) μ' ∧ xF μ μ') (fun avs μ E μ' => False) := by
  refine jMet_of hst (by decide) ?_
  intro avs μ J C hav hpre
  obtain ⟨rfl, hR, hW, hi, hj⟩ := hpre
  refine ⟨Nat.le_of_ble_eq_true rfl, ?_⟩
  show J 0 [some (aR 0 0), some (aR 12 i), some (aI (nI j)), none] [] μ 0 0
  have hW0 := hW.1.1
  have hW1 := hW.1.2
  obtain ⟨hg, eg⟩ := fF_of hW hi
  have hcK : cK S (su S 17 1 (sf S 17 1 - sf S 10 i * bc (best S (fF S i) j))) := cK_su (by omega)
  refine mj_aload_n (pc' := 1) C dX5_take_0 rfl rfl ?_
  refine mj_getR (pc' := 4) C dX5_take_1 rfl (ci := 5) (f := 3) rfl (by decide) (by decide) (fun _ => rfl) (by decide) kf_X5_28 hR.B.l0 hR.B.p03 ?_
  refine mj_aload_n (pc' := 5) C dX5_take_4 rfl rfl ?_
  refine mj_getV (pc' := 8) C dX5_take_5 rfl (ci := 4) (f := 3) rfl (by decide) (by decide) (fun _ => rfl) (by decide) kf_X5_165 (hR.l12 (by first | assumption | omega)) ((hR.ffm (by first | assumption | omega)).trans eg) ?_
  refine mj_callVN_1 (ci := 3) (pc' := 11) C (c_X3_waysFrom hst S (fF S i)) dX5_take_8 rfl km_X5_121 ki_yX3_waysFrom kz_yX3_waysFrom kn_X3 kc_yX3_waysFrom rfl (by decide) (by decide) ⟨rfl, by decide, by decide, by decide +kernel⟩ ⟨by decide, by decide⟩ (Nat.le_of_ble_eq_true rfl) ⟨by decide, by decide⟩ ⟨rfl, hR, hW, hg⟩ (fun r8 μ8 hq8 hm8 => ?_) (fun _ _ h9 => h9)
  obtain ⟨rfl, hR8, hF8, hT8, hc8, hs8⟩ := hq8
  dsimp only [Option.toList, List.nil_append, List.cons_append]
  have hR := hR8
  refine mj_astore_n_3 (pc' := 12) C dX5_take_11 rfl (by decide) rfl ?_
  refine mj_aload_n (pc' := 13) C dX5_take_12 rfl rfl ?_
  refine mj_dup (pc' := 14) C dX5_take_13 rfl rfl ?_
  refine mj_getV (pc' := 17) C dX5_take_14 rfl (ci := 5) (f := 7) rfl (by decide) (by decide) (fun _ => rfl) (by decide) kf_X5_36 hR.B.l0 hR.uns ?_
  refine mj_aload_n (pc' := 18) C dX5_take_17 rfl rfl ?_
  refine mj_aload_n (pc' := 19) C dX5_take_18 rfl rfl ?_
  refine mj_iload_n (pc' := 20) C dX5_take_19 rfl rfl ?_
  refine mj_callVN_2 (ci := 5) (pc' := 23) C (c_X5_costOfMove hst S i j) dX5_take_20 rfl km_X5_183 ki_yX5_costOfMove kz_yX5_costOfMove kn_X5 kc_yX5_costOfMove rfl (by decide) (by decide) ⟨rfl, by decide, by decide, by decide +kernel⟩ ⟨by decide, by decide⟩ (Nat.le_of_ble_eq_true rfl) ⟨by decide, by decide⟩ ⟨rfl, hR, hW, hi, hj⟩ (fun r20 μ20 hq20 hm20 => ?_) (fun _ _ h9 => h9)
  obtain ⟨rfl, -, -, hs20⟩ := hq20
  dsimp only [Option.toList, List.nil_append, List.cons_append]
  have hs20 := (hs20 (by rw [hc8]; decide)).symm
  subst hs20
  refine mj_isub (pc' := 24) C dX5_take_23 rfl ?_
  refine mj_putI (pc' := 27) C dX5_take_24 rfl (ci := 5) (f := 7) rfl (by decide) (by decide) rfl (fun _ _ => rfl) (by decide) kf_X5_36 rfl rfl hR.B.l0 ?_
  have hR := xR_vault (v := sf S 17 1 - sf S 10 i * bc (best S (fF S i) j)) hR (a := 1) (f := 7) (by omega)
  have hF := xF_sI (a := 0) (b := 0) (c := 7) (v := sf S 17 1 - sf S 10 i * bc (best S (fF S i) j)) (by decide) hF8
  have hT : xTab (sI μ8 0 0 7 (sf S 17 1 - sf S 10 i * bc (best S (fF S i) j))) (fF S i) (best (su S 17 1 (sf S 17 1 - sf S 10 i * bc (best S (fF S i) j))) (fF S i)) := by rw [best_cK hcK]; exact xTab_same hT8 (fun kd z h => mI_sI_n _ _ _ _ _ (by omega)) (fun b z h => mI_sI_n _ _ _ _ _ (by omega))
  refine mj_aload_n (pc' := 28) C dX5_take_27 rfl rfl ?_
  refine mj_aload_n (pc' := 29) C dX5_take_28 rfl rfl ?_
  refine mj_getR (pc' := 32) C dX5_take_29 rfl (ci := 5) (f := 3) rfl (by decide) (by decide) (fun _ => rfl) (by decide) kf_X5_28 hR.B.l0 hR.B.p03 ?_
  refine mj_aload_n (pc' := 33) C dX5_take_32 rfl rfl ?_
  refine mj_iload_n (pc' := 34) C dX5_take_33 rfl rfl ?_
  refine mj_aload_n (pc' := 35) C dX5_take_34 rfl rfl ?_
  refine mj_getV (pc' := 38) C dX5_take_35 rfl (ci := 4) (f := 4) rfl (by decide) (by decide) (fun _ => rfl) (by decide) kf_X5_168 (hR.l12 (by first | assumption | omega)) (hR.fq (by first | assumption | omega)) ?_
  refine mj_callVN_3 (ci := 3) (pc' := 41) C (c_X3_qualityBehind hst (su S 17 1 (sf S 17 1 - sf S 10 i * bc (best S (fF S i) j))) (fF S i) j (sf S 12 i)) dX5_take_38 rfl km_X5_247 ki_yX3_qualityBehind kz_yX3_qualityBehind kn_X3 kc_yX3_qualityBehind rfl (by decide) (by decide) ⟨rfl, by decide, by decide, by decide +kernel⟩ ⟨by decide, by decide⟩ (Nat.le_of_ble_eq_true rfl) ⟨by decide, by decide⟩ ⟨rfl, hR, sW_x hW (by omega), ⟨hg, hj⟩, hT⟩ (fun r38 μ38 hq38 hm38 => ?_) (fun _ _ h9 => h9)
  obtain ⟨rfl, hq9⟩ := hq38
  have hq9 := hq9.symm
  subst hq9
  dsimp only [Option.toList, List.nil_append, List.cons_append]
  rw [best_cK hcK, alg_cK hcK]
  refine mj_putI (pc' := 44) C dX5_take_41 rfl (ci := 4) (f := 4) rfl (by decide) (by decide) rfl (fun _ _ => rfl) (by decide) kf_X5_168 rfl rfl (hR.l12 (by first | assumption | omega)) ?_
  refine mj_aload_n (pc' := 45) C dX5_take_44 rfl rfl ?_
  refine mj_iload_n (pc' := 46) C dX5_take_45 rfl rfl ?_
  refine mj_putI (pc' := 49) C dX5_take_46 rfl (ci := 4) (f := 3) rfl (by decide) (by decide) rfl (fun _ _ => rfl) (by decide) kf_X5_165 rfl rfl (hR.l12 (by first | assumption | omega)) ?_
  refine mj_vret C dX5_take_49 (by decide) (by decide) (by decide) ?_
  exact ⟨rfl, xR_file (xR_file hR (by omega)) (by omega), xF_sI (by decide) (xF_sI (by decide) hF)⟩
