/-! THE LAW'S CALLS -/
theorem eqK_sG {μ : jM} {a b c kd : Nat} {v : Int64} (h : kd ≠ a) : eqK μ (sG μ a b c v) kd := ⟨rfl, fun y z => ⟨rfl, rfl, if_neg (fun q => h q.1)⟩⟩
/-- a call of the law's writes the class's things and the answer's row -/
def lF (μ μ' : jM) : Prop := (∀ kd, 20 ≤ kd → kd ≠ 60 → eqK μ μ' kd) ∧ mN μ' 60 = mN μ 60
theorem lF_x {μ μ' : jM} (h : xF μ μ') : lF μ μ' := ⟨fun kd hk _ => h kd hk, (h 60 (by omega)).1⟩
theorem lF_g {μ μ' : jM} {v : Int64} (h : xF μ μ') : lF μ (sG μ' 60 0 0 v) := ⟨fun kd hk h6 => (h kd hk).tr (eqK_sG h6), (h 60 (by omega)).1⟩
theorem xR_g {S : jS} {μ : jM} {v : Int64} (h : xR S μ) : xR S (sG μ 60 0 0 v) := xR.kept h (fun kd hk => eqK_sG (by omega))
def wret (o : Nat × Int32 × jS) (kc : Nat → Nat) (r : Option jV) (μ μ' : jM) : Prop := r = some (aI (nI (kc o.1))) ∧ (o.1 = 0 → mG μ' 60 0 0 = o.2.1.toInt64) ∧ xR o.2.2 μ' ∧ lF μ μ'
def wrev (o : Nat × Int32 × jS) (kc : Nat → Nat) (r : Option jV) (μ μ' : jM) : Prop := r = some (aI (nI (kc o.1))) ∧ xR o.2.2 μ' ∧ lF μ μ'
theorem wret_x {o : Nat × Int32 × jS} {kc : Nat → Nat} {S : jS} {c : Nat} {x : Int32} {μ μ' : jM} (h1 : o.1 = c) (h0 : o.1 ≠ 0) (hs : o.2.2 = S) (hx : x = nI (kc c)) (hR : xR S μ') (hF : xF μ μ') : wret o kc (some (aI x)) μ μ' := ⟨by rw [h1, hx], fun q => absurd q h0, by rw [hs]; exact hR, lF_x hF⟩
theorem wrev_x {o : Nat × Int32 × jS} {kc : Nat → Nat} {S : jS} {c : Nat} {x : Int32} {μ μ' : jM} (h1 : o.1 = c) (hs : o.2.2 = S) (hx : x = nI (kc c)) (hR : xR S μ') (hF : xF μ μ') : wrev o kc (some (aI x)) μ μ' := ⟨by rw [h1, hx], by rw [hs]; exact hR, lF_x hF⟩
theorem wret_0 {o : Nat × Int32 × jS} {kc : Nat → Nat} {x : Int32} {v : Int64} {μ μ1 : jM} (h1 : o.1 = 0) (hx : x = nI (kc 0)) (hv : v = o.2.1.toInt64) (hR : xR o.2.2 μ1) (hF : xF μ μ1) : wret o kc (some (aI x)) μ (sG μ1 60 0 0 v) := ⟨by rw [h1, hx], fun _ => by rw [mG_sG, if_pos ⟨rfl, rfl, rfl⟩, hv], xR_g hR, lF_g hF⟩
theorem o_hold_b (S : jS) (i v : Int32) : (o_hold S i v).2.1 = 0 ∨ (o_hold S i v).2.1 = 1 := by
  unfold o_hold
  split
  · exact Or.inl rfl
  · split
    · exact Or.inl rfl
    · show b1 _ = 0 ∨ b1 _ = 1
      unfold b1
      split
      · exact Or.inr rfl
      · exact Or.inl rfl
theorem o_isSafe_b (S : jS) (i : Int32) : (o_isSafe S i).2.1 = 0 ∨ (o_isSafe S i).2.1 = 1 := by
  unfold o_isSafe
  split
  · exact Or.inl rfl
  · show b1 _ = 0 ∨ b1 _ = 1
    unfold b1
    split
    · exact Or.inr rfl
    · exact Or.inl rfl

theorem o_setLast_c (S : jS) (f u : Int32) : (o_setLast S f u).1 = 0 ∨ ((o_setLast S f u).1 = 1 ∧ (o_setLast S f u).2.2 = S) ∨ ((o_setLast S f u).1 = 2 ∧ (o_setLast S f u).2.2 = S) ∨ ((o_setLast S f u).1 = 3 ∧ (o_setLast S f u).2.2 = S) := by
  unfold o_setLast
  split
  · exact Or.inr (Or.inl ⟨rfl, rfl⟩)
  · skip
    split
    · exact Or.inr (Or.inr (Or.inl ⟨rfl, rfl⟩))
    · skip
      split
      · exact Or.inr (Or.inr (Or.inr (⟨rfl, rfl⟩)))
      · exact Or.inl rfl

theorem o_converter_c (S : jS) (a b lo co : Int32) : (o_converter S a b lo co).1 = 0 ∨ ((o_converter S a b lo co).1 = 1 ∧ (o_converter S a b lo co).2.2 = S) ∨ ((o_converter S a b lo co).1 = 2 ∧ (o_converter S a b lo co).2.2 = S) ∨ ((o_converter S a b lo co).1 = 3 ∧ (o_converter S a b lo co).2.2 = S) := by
  unfold o_converter
  split
  · exact Or.inr (Or.inl ⟨rfl, rfl⟩)
  · skip
    split
    · exact Or.inr (Or.inr (Or.inl ⟨rfl, rfl⟩))
    · skip
      split
      · exact Or.inr (Or.inr (Or.inr (⟨rfl, rfl⟩)))
      · exact Or.inl rfl

theorem o_withdraw_c (S : jS) (c : Int32) : (o_withdraw S c).1 = 0 ∨ ((o_withdraw S c).1 = 1 ∧ (o_withdraw S c).2.2 = S) ∨ ((o_withdraw S c).1 = 3 ∧ (o_withdraw S c).2.2 = S) := by
  unfold o_withdraw
  split
  · exact Or.inr (Or.inl ⟨rfl, rfl⟩)
  · skip
    split
    · exact Or.inr (Or.inr (⟨rfl, rfl⟩))
    · exact Or.inl rfl

theorem o_law_c (S : jS) (j y w q : Int32) : (o_law S j y w q).1 = 0 ∨ ((o_law S j y w q).1 = 1 ∧ (o_law S j y w q).2.2 = S) ∨ ((o_law S j y w q).1 = 2 ∧ (o_law S j y w q).2.2 = S) := by
  unfold o_law
  split
  · exact Or.inr (Or.inl ⟨rfl, rfl⟩)
  · skip
    split
    · exact Or.inr (Or.inr (⟨rfl, rfl⟩))
    · exact Or.inl rfl

theorem o_quality_c (S : jS) (a b : Int32) : (o_quality S a b).1 = 0 ∨ ((o_quality S a b).1 = 1 ∧ (o_quality S a b).2.2 = S) := by
  unfold o_quality
  split
  · exact Or.inr (⟨rfl, rfl⟩)
  · exact Or.inl rfl

theorem o_byAll_c (S : jS) (a b : Int32) : (o_byAll S a b).1 = 0 ∨ ((o_byAll S a b).1 = 1 ∧ (o_byAll S a b).2.2 = S) := by
  unfold o_byAll
  split
  · exact Or.inr (⟨rfl, rfl⟩)
  · exact Or.inl rfl

theorem o_cost_c (S : jS) (a b : Int32) : (o_cost S a b).1 = 0 ∨ ((o_cost S a b).1 = 1 ∧ (o_cost S a b).2.2 = S) := by
  unfold o_cost
  split
  · exact Or.inr (⟨rfl, rfl⟩)
  · exact Or.inl rfl

theorem o_stepAt_c (S : jS) (a b p : Int32) : (o_stepAt S a b p).1 = 0 ∨ ((o_stepAt S a b p).1 = 1 ∧ (o_stepAt S a b p).2.2 = S) := by
  unfold o_stepAt
  split
  · exact Or.inr (⟨rfl, rfl⟩)
  · exact Or.inl rfl

theorem o_file_c (S : jS) (f sz x : Int32) : (o_file S f sz x).1 = 0 ∨ ((o_file S f sz x).1 = 1 ∧ (o_file S f sz x).2.2 = S) ∨ ((o_file S f sz x).1 = 2 ∧ (o_file S f sz x).2.2 = S) ∨ ((o_file S f sz x).1 = 3 ∧ (o_file S f sz x).2.2 = S) := by
  unfold o_file
  split
  · exact Or.inr (Or.inl ⟨rfl, rfl⟩)
  · skip
    split
    · exact Or.inr (Or.inr (Or.inl ⟨rfl, rfl⟩))
    · skip
      split
      · exact Or.inr (Or.inr (Or.inr (⟨rfl, rfl⟩)))
      · exact Or.inl rfl

theorem o_hold_c (S : jS) (i v : Int32) : (o_hold S i v).1 = 0 ∨ ((o_hold S i v).1 = 1 ∧ (o_hold S i v).2.2 = S) ∨ ((o_hold S i v).1 = 3 ∧ (o_hold S i v).2.2 = S) := by
  unfold o_hold
  split
  · exact Or.inr (Or.inl ⟨rfl, rfl⟩)
  · skip
    split
    · exact Or.inr (Or.inr (⟨rfl, rfl⟩))
    · exact Or.inl rfl

theorem o_read_c (S : jS) (i : Int32) : (o_read S i).1 = 0 ∨ ((o_read S i).1 = 1 ∧ (o_read S i).2.2 = S) ∨ ((o_read S i).1 = 3 ∧ (o_read S i).2.2 = S) := by
  unfold o_read
  split
  · exact Or.inr (Or.inl ⟨rfl, rfl⟩)
  · skip
    split
    · exact Or.inr (Or.inr (⟨rfl, rfl⟩))
    · exact Or.inl rfl

theorem o_move_c (S : jS) (x f : Int32) : (o_move S x f).1 = 0 ∨ ((o_move S x f).1 = 1 ∧ (o_move S x f).2.2 = S) ∨ ((o_move S x f).1 = 2 ∧ (o_move S x f).2.2 = S) ∨ ((o_move S x f).1 = 3 ∧ (o_move S x f).2.2 = S) := by
  unfold o_move
  split
  · exact Or.inr (Or.inl ⟨rfl, rfl⟩)
  · skip
    split
    · exact Or.inr (Or.inr (Or.inl ⟨rfl, rfl⟩))
    · skip
      split
      · exact Or.inr (Or.inr (Or.inr (⟨rfl, rfl⟩)))
      · exact Or.inl rfl

theorem o_haven_c (S : jS) (x : Int32) : (o_haven S x).1 = 0 ∨ ((o_haven S x).1 = 1 ∧ (o_haven S x).2.2 = S) := by
  unfold o_haven
  split
  · exact Or.inr (⟨rfl, rfl⟩)
  · exact Or.inl rfl

theorem o_isSafe_c (S : jS) (i : Int32) : (o_isSafe S i).1 = 0 ∨ ((o_isSafe S i).1 = 1 ∧ (o_isSafe S i).2.2 = S) := by
  unfold o_isSafe
  split
  · exact Or.inr (⟨rfl, rfl⟩)
  · exact Or.inl rfl

theorem o_get_c (S : jS) (a : Nat) (i : Int32) : (o_get S a i).1 = 0 ∨ ((o_get S a i).1 = 1 ∧ (o_get S a i).2.2 = S) := by
  unfold o_get
  split
  · exact Or.inr (⟨rfl, rfl⟩)
  · exact Or.inl rfl

theorem o_setBudget_c (S : jS) (b : Int32) : (o_setBudget S b).1 = 0 ∨ ((o_setBudget S b).1 = 2 ∧ (o_setBudget S b).2.2 = S) := by
  unfold o_setBudget
  split
  · exact Or.inr (⟨rfl, rfl⟩)
  · exact Or.inl rfl

theorem o_begin_c (S : jS) : (o_begin S).1 = 0 ∨ ((o_begin S).1 = 3 ∧ (o_begin S).2.2 = S) := by
  unfold o_begin
  split
  · exact Or.inr (⟨rfl, rfl⟩)
  · exact Or.inl rfl

theorem o_promise_c (S : jS) (f x : Int32) : (o_promise S f x).1 = 0 ∨ ((o_promise S f x).1 = 1 ∧ (o_promise S f x).2.2 = S) := by
  unfold o_promise
  split
  · exact Or.inr (⟨rfl, rfl⟩)
  · exact Or.inl rfl

set_option maxHeartbeats 1000000 in
set_option maxRecDepth 20000 in
theorem c_L_setLast {l : Launch} (hst : l.stackTraces = false) (S : jS) (f u : Int32) : jMetN l yL_setLast (.codeWith yL_setLast cL_setLast 5 (some FieldType.int) [(0, 10, 13, 13), (0, 10, 17, 15), (0, 10, 21, 17)]) 9 220 3 18 (fun avs μ => avs = [aR 0 0, aI f, aI u, aR 60 0] ∧ xR S μ ∧ sW S ∧ 0 < mN μ 60) (fun avs μ r μ' => wret (o_setLast S f u) kA r μ μ') := by
  refine jMetW_of (by decide) kc_yL_setLast ?_
  intro avs μ J C hav hpre
  obtain ⟨rfl, hR, hW, h6⟩ := hpre
  refine ⟨Nat.le_of_ble_eq_true rfl, ?_⟩
  show J 0 [some (aR 0 0), some (aI f), some (aI u), some (aR 60 0), none] [] μ 0 0
  refine mj_aload_n (pc' := 1) C dL_setLast_0 rfl rfl ?_
  refine mj_iconst (pc' := 2) (v := 0) C dL_setLast_1 rfl rfl ?_
  refine mj_aload_n (pc' := 3) C dL_setLast_2 rfl rfl ?_
  refine mj_iload_n (pc' := 4) C dL_setLast_3 rfl rfl ?_
  refine mj_iload_n (pc' := 5) C dL_setLast_4 rfl rfl ?_
  refine mj_callVC_2 (ci := 5) (pc' := 8) C (c_X5_setLast hst S f u) dL_setLast_5 rfl km_L_7 ki_yX5_setLast kz_yX5_setLast kn_X5 kc_yX5_setLast rfl (by decide) (by decide) ⟨rfl, by decide, by decide, by decide +kernel⟩ ⟨by decide, by decide⟩ (Nat.le_of_ble_eq_true rfl) ⟨by decide, by decide⟩ ⟨rfl, hR, hW⟩ (fun r5 μ5 hq5 hm5 => ?_) (fun E μ9 h9 => ?_)
  · obtain ⟨h1, rfl, hR1, hF1⟩ := hq5
    dsimp only [Option.toList, List.nil_append, List.cons_append]
    refine mj_i2l (pc' := 9) C dL_setLast_8 rfl ?_
    refine mj_last (pc' := 10) C dL_setLast_9 rfl rfl (by decide) (by decide) (by first | exact h6 | exact Nat.lt_of_lt_of_le h6 (hm5 60)) (rfl : (0 : Int32) = nI 0) (by decide) ?_
    refine mj_goto (pc' := 25) C dL_setLast_10 (by decide) ?_
    refine mj_iconst (pc' := 26) (v := 0) C dL_setLast_25 rfl rfl ?_
    refine mj_iret C dL_setLast_26 (by decide) (by decide) (by decide) ?_
    exact wret_0 h1 rfl rfl hR1 hF1
  · obtain ⟨h0, rfl, hR9, hF9⟩ := h9
    rcases o_setLast_c S f u with h1 | ⟨h1, hs⟩ | ⟨h1, hs⟩ | ⟨h1, hs⟩
    · exact absurd h1 h0
    · rw [h1]
      refine ⟨[], (0, 10, 13, 13), [(0, 10, 17, 15), (0, 10, 21, 17)], 4, 2, rfl, (fun z hz => nomatch hz), ⟨by decide, by decide⟩, by decide, kl_L_13, kx_IOOBE, by decide, (by simp only [List.length_cons, List.length_nil]; omega), (by intro j w hj hw; obtain rfl : j = 3 := (by omega); cases Option.some.inj (Option.some.inj hw); exact (by decide : (1 : Nat) ≠ 2)), Or.inl ⟨dL_setLast_13, rfl⟩, ?_⟩
      show J 15 [some (aR 0 0), some (aI f), some (aI u), some (aR 60 0), none] [] μ9 _ _
      refine mj_iconst (pc' := 16) (v := 1) C dL_setLast_15 rfl rfl ?_
      refine mj_iret C dL_setLast_16 (by decide) (by decide) (by decide) ?_
      exact wret_x h1 h0 hs rfl hR9 hF9
    · rw [h1]
      refine ⟨[(0, 10, 13, 13)], (0, 10, 17, 15), [(0, 10, 21, 17)], 4, 2, rfl, (List.forall_mem_cons.mpr ⟨⟨by decide, _, kl_L_13, List.Mem.head _⟩, (fun z hz => nomatch hz)⟩), ⟨by decide, by decide⟩, by decide, kl_L_15, kx_IAE, by decide, (by simp only [List.length_cons, List.length_nil]; omega), (by intro j w hj hw; obtain rfl : j = 3 := (by omega); cases Option.some.inj (Option.some.inj hw); exact (by decide : (1 : Nat) ≠ 2)), Or.inl ⟨dL_setLast_17, rfl⟩, ?_⟩
      show J 19 [some (aR 0 0), some (aI f), some (aI u), some (aR 60 0), none] [] μ9 _ _
      refine mj_iconst (pc' := 20) (v := 2) C dL_setLast_19 rfl rfl ?_
      refine mj_iret C dL_setLast_20 (by decide) (by decide) (by decide) ?_
      exact wret_x h1 h0 hs rfl hR9 hF9
    · rw [h1]
      refine ⟨[(0, 10, 13, 13), (0, 10, 17, 15)], (0, 10, 21, 17), [], 4, 2, rfl, (List.forall_mem_cons.mpr ⟨⟨by decide, _, kl_L_13, List.Mem.tail _ (List.Mem.head _)⟩, (List.forall_mem_cons.mpr ⟨⟨by decide, _, kl_L_15, List.Mem.tail _ (List.Mem.tail _ (List.Mem.head _))⟩, (fun z hz => nomatch hz)⟩)⟩), ⟨by decide, by decide⟩, by decide, kl_L_17, kx_ISE, by decide, (by simp only [List.length_cons, List.length_nil]; omega), (by intro j w hj hw; obtain rfl : j = 3 := (by omega); cases Option.some.inj (Option.some.inj hw); exact (by decide : (1 : Nat) ≠ 2)), Or.inl ⟨dL_setLast_21, rfl⟩, ?_⟩
      show J 23 [some (aR 0 0), some (aI f), some (aI u), some (aR 60 0), none] [] μ9 _ _
      refine mj_iconst (pc' := 24) (v := 3) C dL_setLast_23 rfl rfl ?_
      refine mj_iret C dL_setLast_24 (by decide) (by decide) (by decide) ?_
      exact wret_x h1 h0 hs rfl hR9 hF9

set_option maxHeartbeats 1000000 in
set_option maxRecDepth 20000 in
theorem c_L_converter {l : Launch} (hst : l.stackTraces = false) (S : jS) (a b lo co : Int32) : jMetN l yL_converter (.codeWith yL_converter cL_converter 7 (some FieldType.int) [(0, 14, 17, 13), (0, 14, 21, 15), (0, 14, 25, 17)]) 10 260 6 60 (fun avs μ => avs = [aR 0 0, aI a, aI b, aI lo, aI co, aR 60 0] ∧ xR S μ ∧ sW S ∧ 0 < mN μ 60) (fun avs μ r μ' => wret (o_converter S a b lo co) kA r μ μ') := by
  refine jMetW_of (by decide) kc_yL_converter ?_
  intro avs μ J C hav hpre
  obtain ⟨rfl, hR, hW, h6⟩ := hpre
  refine ⟨Nat.le_of_ble_eq_true rfl, ?_⟩
  show J 0 [some (aR 0 0), some (aI a), some (aI b), some (aI lo), some (aI co), some (aR 60 0), none] [] μ 0 0
  refine mj_aload (pc' := 2) C dL_converter_0 rfl rfl ?_
  refine mj_iconst (pc' := 3) (v := 0) C dL_converter_2 rfl rfl ?_
  refine mj_aload_n (pc' := 4) C dL_converter_3 rfl rfl ?_
  refine mj_iload_n (pc' := 5) C dL_converter_4 rfl rfl ?_
  refine mj_iload_n (pc' := 6) C dL_converter_5 rfl rfl ?_
  refine mj_iload_n (pc' := 7) C dL_converter_6 rfl rfl ?_
  refine mj_iload (pc' := 9) C dL_converter_7 rfl rfl ?_
  refine mj_callVC_4 (ci := 5) (pc' := 12) C (c_X5_converter hst S a b lo co) dL_converter_9 rfl km_L_19 ki_yX5_converter kz_yX5_converter kn_X5 kc_yX5_converter rfl (by decide) (by decide) ⟨rfl, by decide, by decide, by decide +kernel⟩ ⟨by decide, by decide⟩ (Nat.le_of_ble_eq_true rfl) ⟨by decide, by decide⟩ ⟨rfl, hR, hW⟩ (fun r9 μ9 hq9 hm9 => ?_) (fun E μ9 h9 => ?_)
  · obtain ⟨h1, rfl, hR1, hF1⟩ := hq9
    dsimp only [Option.toList, List.nil_append, List.cons_append]
    refine mj_i2l (pc' := 13) C dL_converter_12 rfl ?_
    refine mj_last (pc' := 14) C dL_converter_13 rfl rfl (by decide) (by decide) (by first | exact h6 | exact Nat.lt_of_lt_of_le h6 (hm9 60)) (rfl : (0 : Int32) = nI 0) (by decide) ?_
    refine mj_goto (pc' := 29) C dL_converter_14 (by decide) ?_
    refine mj_iconst (pc' := 30) (v := 0) C dL_converter_29 rfl rfl ?_
    refine mj_iret C dL_converter_30 (by decide) (by decide) (by decide) ?_
    exact wret_0 h1 rfl rfl hR1 hF1
  · obtain ⟨h0, rfl, hR9, hF9⟩ := h9
    rcases o_converter_c S a b lo co with h1 | ⟨h1, hs⟩ | ⟨h1, hs⟩ | ⟨h1, hs⟩
    · exact absurd h1 h0
    · rw [h1]
      refine ⟨[], (0, 14, 17, 13), [(0, 14, 21, 15), (0, 14, 25, 17)], 6, 2, rfl, (fun z hz => nomatch hz), ⟨by decide, by decide⟩, by decide, kl_L_13, kx_IOOBE, by decide, (by simp only [List.length_cons, List.length_nil]; omega), (by intro j w hj hw; obtain rfl : j = 5 := (by omega); cases Option.some.inj (Option.some.inj hw); exact (by decide : (1 : Nat) ≠ 2)), Or.inl ⟨dL_converter_17, rfl⟩, ?_⟩
      show J 19 [some (aR 0 0), some (aI a), some (aI b), some (aI lo), some (aI co), some (aR 60 0), none] [] μ9 _ _
      refine mj_iconst (pc' := 20) (v := 1) C dL_converter_19 rfl rfl ?_
      refine mj_iret C dL_converter_20 (by decide) (by decide) (by decide) ?_
      exact wret_x h1 h0 hs rfl hR9 hF9
    · rw [h1]
      refine ⟨[(0, 14, 17, 13)], (0, 14, 21, 15), [(0, 14, 25, 17)], 6, 2, rfl, (List.forall_mem_cons.mpr ⟨⟨by decide, _, kl_L_13, List.Mem.head _⟩, (fun z hz => nomatch hz)⟩), ⟨by decide, by decide⟩, by decide, kl_L_15, kx_IAE, by decide, (by simp only [List.length_cons, List.length_nil]; omega), (by intro j w hj hw; obtain rfl : j = 5 := (by omega); cases Option.some.inj (Option.some.inj hw); exact (by decide : (1 : Nat) ≠ 2)), Or.inl ⟨dL_converter_21, rfl⟩, ?_⟩
      show J 23 [some (aR 0 0), some (aI a), some (aI b), some (aI lo), some (aI co), some (aR 60 0), none] [] μ9 _ _
      refine mj_iconst (pc' := 24) (v := 2) C dL_converter_23 rfl rfl ?_
      refine mj_iret C dL_converter_24 (by decide) (by decide) (by decide) ?_
      exact wret_x h1 h0 hs rfl hR9 hF9
    · rw [h1]
      refine ⟨[(0, 14, 17, 13), (0, 14, 21, 15)], (0, 14, 25, 17), [], 6, 2, rfl, (List.forall_mem_cons.mpr ⟨⟨by decide, _, kl_L_13, List.Mem.tail _ (List.Mem.head _)⟩, (List.forall_mem_cons.mpr ⟨⟨by decide, _, kl_L_15, List.Mem.tail _ (List.Mem.tail _ (List.Mem.head _))⟩, (fun z hz => nomatch hz)⟩)⟩), ⟨by decide, by decide⟩, by decide, kl_L_17, kx_ISE, by decide, (by simp only [List.length_cons, List.length_nil]; omega), (by intro j w hj hw; obtain rfl : j = 5 := (by omega); cases Option.some.inj (Option.some.inj hw); exact (by decide : (1 : Nat) ≠ 2)), Or.inl ⟨dL_converter_25, rfl⟩, ?_⟩
      show J 27 [some (aR 0 0), some (aI a), some (aI b), some (aI lo), some (aI co), some (aR 60 0), none] [] μ9 _ _
      refine mj_iconst (pc' := 28) (v := 3) C dL_converter_27 rfl rfl ?_
      refine mj_iret C dL_converter_28 (by decide) (by decide) (by decide) ?_
      exact wret_x h1 h0 hs rfl hR9 hF9

set_option maxHeartbeats 1000000 in
set_option maxRecDepth 20000 in
theorem c_L_withdraw {l : Launch} (hst : l.stackTraces = false) (S : jS) (c : Int32) : jMetN l yL_withdraw (.codeWith yL_withdraw cL_withdraw 4 (some FieldType.int) [(0, 9, 12, 13), (0, 9, 15, 17)]) 20 660 1 6 (fun avs μ => avs = [aR 0 0, aI c, aR 60 0] ∧ xR S μ ∧ sW S ∧ 0 < mN μ 60) (fun avs μ r μ' => wret (o_withdraw S c) kB r μ μ') := by
  refine jMetW_of (by decide) kc_yL_withdraw ?_
  intro avs μ J C hav hpre
  obtain ⟨rfl, hR, hW, h6⟩ := hpre
  refine ⟨Nat.le_of_ble_eq_true rfl, ?_⟩
  show J 0 [some (aR 0 0), some (aI c), some (aR 60 0), none] [] μ 0 0
  refine mj_aload_n (pc' := 1) C dL_withdraw_0 rfl rfl ?_
  refine mj_iconst (pc' := 2) (v := 0) C dL_withdraw_1 rfl rfl ?_
  refine mj_aload_n (pc' := 3) C dL_withdraw_2 rfl rfl ?_
  refine mj_iload_n (pc' := 4) C dL_withdraw_3 rfl rfl ?_
  refine mj_callVC_1 (ci := 5) (pc' := 7) C (c_X5_withdraw hst S c) dL_withdraw_4 rfl km_L_23 ki_yX5_withdraw kz_yX5_withdraw kn_X5 kc_yX5_withdraw rfl (by decide) (by decide) ⟨rfl, by decide, by decide, by decide +kernel⟩ ⟨by decide, by decide⟩ (Nat.le_of_ble_eq_true rfl) ⟨by decide, by decide⟩ ⟨rfl, hR, hW⟩ (fun r4 μ4 hq4 hm4 => ?_) (fun E μ9 h9 => ?_)
  · obtain ⟨h1, rfl, hR1, hF1⟩ := hq4
    dsimp only [Option.toList, List.nil_append, List.cons_append]
    refine mj_i2l (pc' := 8) C dL_withdraw_7 rfl ?_
    refine mj_last (pc' := 9) C dL_withdraw_8 rfl rfl (by decide) (by decide) (by first | exact h6 | exact Nat.lt_of_lt_of_le h6 (hm4 60)) (rfl : (0 : Int32) = nI 0) (by decide) ?_
    refine mj_goto (pc' := 18) C dL_withdraw_9 (by decide) ?_
    refine mj_iconst (pc' := 19) (v := 0) C dL_withdraw_18 rfl rfl ?_
    refine mj_iret C dL_withdraw_19 (by decide) (by decide) (by decide) ?_
    exact wret_0 h1 rfl rfl hR1 hF1
  · obtain ⟨h0, rfl, hR9, hF9⟩ := h9
    rcases o_withdraw_c S c with h1 | ⟨h1, hs⟩ | ⟨h1, hs⟩
    · exact absurd h1 h0
    · rw [h1]
      refine ⟨[], (0, 9, 12, 13), [(0, 9, 15, 17)], 3, 1, rfl, (fun z hz => nomatch hz), ⟨by decide, by decide⟩, by decide, kl_L_13, kx_IOOBE, by decide, (by simp only [List.length_cons, List.length_nil]; omega), (by intro j w hj hw; obtain rfl : j = 2 := (by omega); cases Option.some.inj (Option.some.inj hw); exact (by decide : (1 : Nat) ≠ 2)), Or.inr ⟨3, dL_withdraw_12, rfl, rfl⟩, ?_⟩
      show J 13 [some (aR 0 0), some (aI c), some (aR 60 0), none] [] μ9 _ _
      refine mj_iconst (pc' := 14) (v := 1) C dL_withdraw_13 rfl rfl ?_
      refine mj_iret C dL_withdraw_14 (by decide) (by decide) (by decide) ?_
      exact wret_x h1 h0 hs rfl hR9 hF9
    · rw [h1]
      refine ⟨[(0, 9, 12, 13)], (0, 9, 15, 17), [], 3, 1, rfl, (List.forall_mem_cons.mpr ⟨⟨by decide, _, kl_L_13, List.Mem.tail _ (List.Mem.head _)⟩, (fun z hz => nomatch hz)⟩), ⟨by decide, by decide⟩, by decide, kl_L_17, kx_ISE, by decide, (by simp only [List.length_cons, List.length_nil]; omega), (by intro j w hj hw; obtain rfl : j = 2 := (by omega); cases Option.some.inj (Option.some.inj hw); exact (by decide : (1 : Nat) ≠ 2)), Or.inr ⟨3, dL_withdraw_15, rfl, rfl⟩, ?_⟩
      show J 16 [some (aR 0 0), some (aI c), some (aR 60 0), none] [] μ9 _ _
      refine mj_iconst (pc' := 17) (v := 2) C dL_withdraw_16 rfl rfl ?_
      refine mj_iret C dL_withdraw_17 (by decide) (by decide) (by decide) ?_
      exact wret_x h1 h0 hs rfl hR9 hF9

set_option maxHeartbeats 1000000 in
set_option maxRecDepth 20000 in
theorem c_L_law {l : Launch} (hst : l.stackTraces = false) (S : jS) (j y w q : Int32) : jMetN l yL_law (.codeWith yL_law cL_law 6 (some FieldType.int) [(0, 9, 12, 13), (0, 9, 16, 15)]) 9 220 4 24 (fun avs μ => avs = [aR 0 0, aI j, aI y, aI w, aI q] ∧ xR S μ ∧ sW S) (fun avs μ r μ' => wrev (o_law S j y w q) kA r μ μ') := by
  refine jMetW_of (by decide) kc_yL_law ?_
  intro avs μ J C hav hpre
  obtain ⟨rfl, hR, hW⟩ := hpre
  refine ⟨Nat.le_of_ble_eq_true rfl, ?_⟩
  show J 0 [some (aR 0 0), some (aI j), some (aI y), some (aI w), some (aI q), none] [] μ 0 0
  refine mj_aload_n (pc' := 1) C dL_law_0 rfl rfl ?_
  refine mj_iload_n (pc' := 2) C dL_law_1 rfl rfl ?_
  refine mj_iload_n (pc' := 3) C dL_law_2 rfl rfl ?_
  refine mj_iload_n (pc' := 4) C dL_law_3 rfl rfl ?_
  refine mj_iload (pc' := 6) C dL_law_4 rfl rfl ?_
  refine mj_callVC_4 (ci := 5) (pc' := 9) C (c_X5_law hst S j y w q) dL_law_6 rfl km_L_27 ki_yX5_law kz_yX5_law kn_X5 kc_yX5_law rfl (by decide) (by decide) ⟨rfl, by decide, by decide, by decide +kernel⟩ ⟨by decide, by decide⟩ (Nat.le_of_ble_eq_true rfl) ⟨by decide, by decide⟩ ⟨rfl, hR, hW⟩ (fun r6 μ6 hq6 hm6 => ?_) (fun E μ9 h9 => ?_)
  · obtain ⟨rfl, h1, hR1, hF1⟩ := hq6
    dsimp only [Option.toList, List.nil_append, List.cons_append]
    refine mj_goto (pc' := 20) C dL_law_9 (by decide) ?_
    refine mj_iconst (pc' := 21) (v := 0) C dL_law_20 rfl rfl ?_
    refine mj_iret C dL_law_21 (by decide) (by decide) (by decide) ?_
    exact ⟨by rw [h1]; rfl, hR1, lF_x hF1⟩
  · obtain ⟨h0, rfl, hR9, hF9⟩ := h9
    rcases o_law_c S j y w q with h1 | ⟨h1, hs⟩ | ⟨h1, hs⟩
    · exact absurd h1 h0
    · rw [h1]
      refine ⟨[], (0, 9, 12, 13), [(0, 9, 16, 15)], 5, 2, rfl, (fun z hz => nomatch hz), ⟨by decide, by decide⟩, by decide, kl_L_13, kx_IOOBE, by decide, (by simp only [List.length_cons, List.length_nil]; omega), (by intro j w hj hw; obtain rfl : j = 4 := (by omega); cases Option.some.inj (Option.some.inj hw); exact (by decide : (1 : Nat) ≠ 2)), Or.inl ⟨dL_law_12, rfl⟩, ?_⟩
      show J 14 [some (aR 0 0), some (aI j), some (aI y), some (aI w), some (aI q), none] [] μ9 _ _
      refine mj_iconst (pc' := 15) (v := 1) C dL_law_14 rfl rfl ?_
      refine mj_iret C dL_law_15 (by decide) (by decide) (by decide) ?_
      exact wrev_x h1 hs rfl hR9 hF9
    · rw [h1]
      refine ⟨[(0, 9, 12, 13)], (0, 9, 16, 15), [], 5, 2, rfl, (List.forall_mem_cons.mpr ⟨⟨by decide, _, kl_L_13, List.Mem.head _⟩, (fun z hz => nomatch hz)⟩), ⟨by decide, by decide⟩, by decide, kl_L_15, kx_IAE, by decide, (by simp only [List.length_cons, List.length_nil]; omega), (by intro j w hj hw; obtain rfl : j = 4 := (by omega); cases Option.some.inj (Option.some.inj hw); exact (by decide : (1 : Nat) ≠ 2)), Or.inl ⟨dL_law_16, rfl⟩, ?_⟩
      show J 18 [some (aR 0 0), some (aI j), some (aI y), some (aI w), some (aI q), none] [] μ9 _ _
      refine mj_iconst (pc' := 19) (v := 2) C dL_law_18 rfl rfl ?_
      refine mj_iret C dL_law_19 (by decide) (by decide) (by decide) ?_
      exact wrev_x h1 hs rfl hR9 hF9

set_option maxHeartbeats 1000000 in
set_option maxRecDepth 20000 in
theorem c_L_quality {l : Launch} (hst : l.stackTraces = false) (S : jS) (a b : Int32) : jMetN l yL_quality (.codeWith yL_quality cL_quality 5 (some FieldType.int) [(0, 10, 13, 13)]) 18 580 2 12 (fun avs μ => avs = [aR 0 0, aI a, aI b, aR 60 0] ∧ xR S μ ∧ sW S ∧ 0 < mN μ 60) (fun avs μ r μ' => wret (o_quality S a b) kA r μ μ') := by
  refine jMetW_of (by decide) kc_yL_quality ?_
  intro avs μ J C hav hpre
  obtain ⟨rfl, hR, hW, h6⟩ := hpre
  refine ⟨Nat.le_of_ble_eq_true rfl, ?_⟩
  show J 0 [some (aR 0 0), some (aI a), some (aI b), some (aR 60 0), none] [] μ 0 0
  refine mj_aload_n (pc' := 1) C dL_quality_0 rfl rfl ?_
  refine mj_iconst (pc' := 2) (v := 0) C dL_quality_1 rfl rfl ?_
  refine mj_aload_n (pc' := 3) C dL_quality_2 rfl rfl ?_
  refine mj_iload_n (pc' := 4) C dL_quality_3 rfl rfl ?_
  refine mj_iload_n (pc' := 5) C dL_quality_4 rfl rfl ?_
  refine mj_callVC_2 (ci := 5) (pc' := 8) C (c_X5_quality hst S a b) dL_quality_5 rfl km_L_31 ki_yX5_quality kz_yX5_quality kn_X5 kc_yX5_quality rfl (by decide) (by decide) ⟨rfl, by decide, by decide, by decide +kernel⟩ ⟨by decide, by decide⟩ (Nat.le_of_ble_eq_true rfl) ⟨by decide, by decide⟩ ⟨rfl, hR, hW⟩ (fun r5 μ5 hq5 hm5 => ?_) (fun E μ9 h9 => ?_)
  · obtain ⟨h1, rfl, hR1, hF1⟩ := hq5
    dsimp only [Option.toList, List.nil_append, List.cons_append]
    refine mj_i2l (pc' := 9) C dL_quality_8 rfl ?_
    refine mj_last (pc' := 10) C dL_quality_9 rfl rfl (by decide) (by decide) (by first | exact h6 | exact Nat.lt_of_lt_of_le h6 (hm5 60)) (rfl : (0 : Int32) = nI 0) (by decide) ?_
    refine mj_goto (pc' := 17) C dL_quality_10 (by decide) ?_
    refine mj_iconst (pc' := 18) (v := 0) C dL_quality_17 rfl rfl ?_
    refine mj_iret C dL_quality_18 (by decide) (by decide) (by decide) ?_
    exact wret_0 h1 rfl rfl hR1 hF1
  · obtain ⟨h0, rfl, hR9, hF9⟩ := h9
    rcases o_quality_c S a b with h1 | ⟨h1, hs⟩
    · exact absurd h1 h0
    · rw [h1]
      refine ⟨[], (0, 10, 13, 13), [], 4, 2, rfl, (fun z hz => nomatch hz), ⟨by decide, by decide⟩, by decide, kl_L_13, kx_IOOBE, by decide, (by simp only [List.length_cons, List.length_nil]; omega), (by intro j w hj hw; obtain rfl : j = 3 := (by omega); cases Option.some.inj (Option.some.inj hw); exact (by decide : (1 : Nat) ≠ 2)), Or.inl ⟨dL_quality_13, rfl⟩, ?_⟩
      show J 15 [some (aR 0 0), some (aI a), some (aI b), some (aR 60 0), none] [] μ9 _ _
      refine mj_iconst (pc' := 16) (v := 1) C dL_quality_15 rfl rfl ?_
      refine mj_iret C dL_quality_16 (by decide) (by decide) (by decide) ?_
      exact wret_x h1 h0 hs rfl hR9 hF9

set_option maxHeartbeats 1000000 in
set_option maxRecDepth 20000 in
theorem c_L_qualityByAll {l : Launch} (hst : l.stackTraces = false) (S : jS) (a b : Int32) : jMetN l yL_qualityByAll (.codeWith yL_qualityByAll cL_qualityByAll 5 (some FieldType.int) [(0, 10, 13, 13)]) 18 580 2 12 (fun avs μ => avs = [aR 0 0, aI a, aI b, aR 60 0] ∧ xR S μ ∧ sW S ∧ 0 < mN μ 60) (fun avs μ r μ' => wret (o_byAll S a b) kA r μ μ') := by
  refine jMetW_of (by decide) kc_yL_qualityByAll ?_
  intro avs μ J C hav hpre
  obtain ⟨rfl, hR, hW, h6⟩ := hpre
  refine ⟨Nat.le_of_ble_eq_true rfl, ?_⟩
  show J 0 [some (aR 0 0), some (aI a), some (aI b), some (aR 60 0), none] [] μ 0 0
  refine mj_aload_n (pc' := 1) C dL_qualityByAll_0 rfl rfl ?_
  refine mj_iconst (pc' := 2) (v := 0) C dL_qualityByAll_1 rfl rfl ?_
  refine mj_aload_n (pc' := 3) C dL_qualityByAll_2 rfl rfl ?_
  refine mj_iload_n (pc' := 4) C dL_qualityByAll_3 rfl rfl ?_
  refine mj_iload_n (pc' := 5) C dL_qualityByAll_4 rfl rfl ?_
  refine mj_callVC_2 (ci := 5) (pc' := 8) C (c_X5_qualityByAll hst S a b) dL_qualityByAll_5 rfl km_L_34 ki_yX5_qualityByAll kz_yX5_qualityByAll kn_X5 kc_yX5_qualityByAll rfl (by decide) (by decide) ⟨rfl, by decide, by decide, by decide +kernel⟩ ⟨by decide, by decide⟩ (Nat.le_of_ble_eq_true rfl) ⟨by decide, by decide⟩ ⟨rfl, hR, hW⟩ (fun r5 μ5 hq5 hm5 => ?_) (fun E μ9 h9 => ?_)
  · obtain ⟨h1, rfl, hR1, hF1⟩ := hq5
    dsimp only [Option.toList, List.nil_append, List.cons_append]
    refine mj_i2l (pc' := 9) C dL_qualityByAll_8 rfl ?_
    refine mj_last (pc' := 10) C dL_qualityByAll_9 rfl rfl (by decide) (by decide) (by first | exact h6 | exact Nat.lt_of_lt_of_le h6 (hm5 60)) (rfl : (0 : Int32) = nI 0) (by decide) ?_
    refine mj_goto (pc' := 17) C dL_qualityByAll_10 (by decide) ?_
    refine mj_iconst (pc' := 18) (v := 0) C dL_qualityByAll_17 rfl rfl ?_
    refine mj_iret C dL_qualityByAll_18 (by decide) (by decide) (by decide) ?_
    exact wret_0 h1 rfl rfl hR1 hF1
  · obtain ⟨h0, rfl, hR9, hF9⟩ := h9
    rcases o_byAll_c S a b with h1 | ⟨h1, hs⟩
    · exact absurd h1 h0
    · rw [h1]
      refine ⟨[], (0, 10, 13, 13), [], 4, 2, rfl, (fun z hz => nomatch hz), ⟨by decide, by decide⟩, by decide, kl_L_13, kx_IOOBE, by decide, (by simp only [List.length_cons, List.length_nil]; omega), (by intro j w hj hw; obtain rfl : j = 3 := (by omega); cases Option.some.inj (Option.some.inj hw); exact (by decide : (1 : Nat) ≠ 2)), Or.inl ⟨dL_qualityByAll_13, rfl⟩, ?_⟩
      show J 15 [some (aR 0 0), some (aI a), some (aI b), some (aR 60 0), none] [] μ9 _ _
      refine mj_iconst (pc' := 16) (v := 1) C dL_qualityByAll_15 rfl rfl ?_
      refine mj_iret C dL_qualityByAll_16 (by decide) (by decide) (by decide) ?_
      exact wret_x h1 h0 hs rfl hR9 hF9

set_option maxHeartbeats 1000000 in
set_option maxRecDepth 20000 in
theorem c_L_cost {l : Launch} (hst : l.stackTraces = false) (S : jS) (a b : Int32) : jMetN l yL_cost (.codeWith yL_cost cL_cost 5 (some FieldType.int) [(0, 10, 13, 13)]) 18 580 2 12 (fun avs μ => avs = [aR 0 0, aI a, aI b, aR 60 0] ∧ xR S μ ∧ sW S ∧ 0 < mN μ 60) (fun avs μ r μ' => wret (o_cost S a b) kA r μ μ') := by
  refine jMetW_of (by decide) kc_yL_cost ?_
  intro avs μ J C hav hpre
  obtain ⟨rfl, hR, hW, h6⟩ := hpre
  refine ⟨Nat.le_of_ble_eq_true rfl, ?_⟩
  show J 0 [some (aR 0 0), some (aI a), some (aI b), some (aR 60 0), none] [] μ 0 0
  refine mj_aload_n (pc' := 1) C dL_cost_0 rfl rfl ?_
  refine mj_iconst (pc' := 2) (v := 0) C dL_cost_1 rfl rfl ?_
  refine mj_aload_n (pc' := 3) C dL_cost_2 rfl rfl ?_
  refine mj_iload_n (pc' := 4) C dL_cost_3 rfl rfl ?_
  refine mj_iload_n (pc' := 5) C dL_cost_4 rfl rfl ?_
  refine mj_callVC_2 (ci := 5) (pc' := 8) C (c_X5_cost hst S a b) dL_cost_5 rfl km_L_37 ki_yX5_cost kz_yX5_cost kn_X5 kc_yX5_cost rfl (by decide) (by decide) ⟨rfl, by decide, by decide, by decide +kernel⟩ ⟨by decide, by decide⟩ (Nat.le_of_ble_eq_true rfl) ⟨by decide, by decide⟩ ⟨rfl, hR, hW⟩ (fun r5 μ5 hq5 hm5 => ?_) (fun E μ9 h9 => ?_)
  · obtain ⟨h1, rfl, hR1, hF1⟩ := hq5
    dsimp only [Option.toList, List.nil_append, List.cons_append]
    refine mj_i2l (pc' := 9) C dL_cost_8 rfl ?_
    refine mj_last (pc' := 10) C dL_cost_9 rfl rfl (by decide) (by decide) (by first | exact h6 | exact Nat.lt_of_lt_of_le h6 (hm5 60)) (rfl : (0 : Int32) = nI 0) (by decide) ?_
    refine mj_goto (pc' := 17) C dL_cost_10 (by decide) ?_
    refine mj_iconst (pc' := 18) (v := 0) C dL_cost_17 rfl rfl ?_
    refine mj_iret C dL_cost_18 (by decide) (by decide) (by decide) ?_
    exact wret_0 h1 rfl rfl hR1 hF1
  · obtain ⟨h0, rfl, hR9, hF9⟩ := h9
    rcases o_cost_c S a b with h1 | ⟨h1, hs⟩
    · exact absurd h1 h0
    · rw [h1]
      refine ⟨[], (0, 10, 13, 13), [], 4, 2, rfl, (fun z hz => nomatch hz), ⟨by decide, by decide⟩, by decide, kl_L_13, kx_IOOBE, by decide, (by simp only [List.length_cons, List.length_nil]; omega), (by intro j w hj hw; obtain rfl : j = 3 := (by omega); cases Option.some.inj (Option.some.inj hw); exact (by decide : (1 : Nat) ≠ 2)), Or.inl ⟨dL_cost_13, rfl⟩, ?_⟩
      show J 15 [some (aR 0 0), some (aI a), some (aI b), some (aR 60 0), none] [] μ9 _ _
      refine mj_iconst (pc' := 16) (v := 1) C dL_cost_15 rfl rfl ?_
      refine mj_iret C dL_cost_16 (by decide) (by decide) (by decide) ?_
      exact wret_x h1 h0 hs rfl hR9 hF9

set_option maxHeartbeats 1000000 in
set_option maxRecDepth 20000 in
theorem c_L_stepAt {l : Launch} (hst : l.stackTraces = false) (S : jS) (a b p : Int32) : jMetN l yL_stepAt (.codeWith yL_stepAt cL_stepAt 6 (some FieldType.int) [(0, 12, 15, 13)]) 18 580 3 18 (fun avs μ => avs = [aR 0 0, aI a, aI b, aI p, aR 60 0] ∧ xR S μ ∧ sW S ∧ 0 < mN μ 60) (fun avs μ r μ' => wret (o_stepAt S a b p) kA r μ μ') := by
  refine jMetW_of (by decide) kc_yL_stepAt ?_
  intro avs μ J C hav hpre
  obtain ⟨rfl, hR, hW, h6⟩ := hpre
  refine ⟨Nat.le_of_ble_eq_true rfl, ?_⟩
  show J 0 [some (aR 0 0), some (aI a), some (aI b), some (aI p), some (aR 60 0), none] [] μ 0 0
  refine mj_aload (pc' := 2) C dL_stepAt_0 rfl rfl ?_
  refine mj_iconst (pc' := 3) (v := 0) C dL_stepAt_2 rfl rfl ?_
  refine mj_aload_n (pc' := 4) C dL_stepAt_3 rfl rfl ?_
  refine mj_iload_n (pc' := 5) C dL_stepAt_4 rfl rfl ?_
  refine mj_iload_n (pc' := 6) C dL_stepAt_5 rfl rfl ?_
  refine mj_iload_n (pc' := 7) C dL_stepAt_6 rfl rfl ?_
  refine mj_callVC_3 (ci := 5) (pc' := 10) C (c_X5_stepAt hst S a b p) dL_stepAt_7 rfl km_L_40 ki_yX5_stepAt kz_yX5_stepAt kn_X5 kc_yX5_stepAt rfl (by decide) (by decide) ⟨rfl, by decide, by decide, by decide +kernel⟩ ⟨by decide, by decide⟩ (Nat.le_of_ble_eq_true rfl) ⟨by decide, by decide⟩ ⟨rfl, hR, hW⟩ (fun r7 μ7 hq7 hm7 => ?_) (fun E μ9 h9 => ?_)
  · obtain ⟨h1, rfl, hR1, hF1⟩ := hq7
    dsimp only [Option.toList, List.nil_append, List.cons_append]
    refine mj_i2l (pc' := 11) C dL_stepAt_10 rfl ?_
    refine mj_last (pc' := 12) C dL_stepAt_11 rfl rfl (by decide) (by decide) (by first | exact h6 | exact Nat.lt_of_lt_of_le h6 (hm7 60)) (rfl : (0 : Int32) = nI 0) (by decide) ?_
    refine mj_goto (pc' := 19) C dL_stepAt_12 (by decide) ?_
    refine mj_iconst (pc' := 20) (v := 0) C dL_stepAt_19 rfl rfl ?_
    refine mj_iret C dL_stepAt_20 (by decide) (by decide) (by decide) ?_
    exact wret_0 h1 rfl rfl hR1 hF1
  · obtain ⟨h0, rfl, hR9, hF9⟩ := h9
    rcases o_stepAt_c S a b p with h1 | ⟨h1, hs⟩
    · exact absurd h1 h0
    · rw [h1]
      refine ⟨[], (0, 12, 15, 13), [], 5, 2, rfl, (fun z hz => nomatch hz), ⟨by decide, by decide⟩, by decide, kl_L_13, kx_IOOBE, by decide, (by simp only [List.length_cons, List.length_nil]; omega), (by intro j w hj hw; obtain rfl : j = 4 := (by omega); cases Option.some.inj (Option.some.inj hw); exact (by decide : (1 : Nat) ≠ 2)), Or.inl ⟨dL_stepAt_15, rfl⟩, ?_⟩
      show J 17 [some (aR 0 0), some (aI a), some (aI b), some (aI p), some (aR 60 0), none] [] μ9 _ _
      refine mj_iconst (pc' := 18) (v := 1) C dL_stepAt_17 rfl rfl ?_
      refine mj_iret C dL_stepAt_18 (by decide) (by decide) (by decide) ?_
      exact wret_x h1 h0 hs rfl hR9 hF9

set_option maxHeartbeats 1000000 in
set_option maxRecDepth 20000 in
theorem c_L_file {l : Launch} (hst : l.stackTraces = false) (S : jS) (f sz x : Int32) : jMetN l yL_file (.codeWith yL_file cL_file 6 (some FieldType.int) [(0, 12, 15, 13), (0, 12, 19, 15), (0, 12, 23, 17)]) 10 260 5 60 (fun avs μ => avs = [aR 0 0, aI f, aI sz, aI x, aR 60 0] ∧ xR S μ ∧ sW S ∧ 0 < mN μ 60) (fun avs μ r μ' => wret (o_file S f sz x) kA r μ μ') := by
  refine jMetW_of (by decide) kc_yL_file ?_
  intro avs μ J C hav hpre
  obtain ⟨rfl, hR, hW, h6⟩ := hpre
  refine ⟨Nat.le_of_ble_eq_true rfl, ?_⟩
  show J 0 [some (aR 0 0), some (aI f), some (aI sz), some (aI x), some (aR 60 0), none] [] μ 0 0
  refine mj_aload (pc' := 2) C dL_file_0 rfl rfl ?_
  refine mj_iconst (pc' := 3) (v := 0) C dL_file_2 rfl rfl ?_
  refine mj_aload_n (pc' := 4) C dL_file_3 rfl rfl ?_
  refine mj_iload_n (pc' := 5) C dL_file_4 rfl rfl ?_
  refine mj_iload_n (pc' := 6) C dL_file_5 rfl rfl ?_
  refine mj_iload_n (pc' := 7) C dL_file_6 rfl rfl ?_
  refine mj_callVC_3 (ci := 5) (pc' := 10) C (c_X5_file hst S f sz x) dL_file_7 rfl km_L_44 ki_yX5_file kz_yX5_file kn_X5 kc_yX5_file rfl (by decide) (by decide) ⟨rfl, by decide, by decide, by decide +kernel⟩ ⟨by decide, by decide⟩ (Nat.le_of_ble_eq_true rfl) ⟨by decide, by decide⟩ ⟨rfl, hR, hW⟩ (fun r7 μ7 hq7 hm7 => ?_) (fun E μ9 h9 => ?_)
  · obtain ⟨h1, rfl, hR1, hF1⟩ := hq7
    dsimp only [Option.toList, List.nil_append, List.cons_append]
    refine mj_i2l (pc' := 11) C dL_file_10 rfl ?_
    refine mj_last (pc' := 12) C dL_file_11 rfl rfl (by decide) (by decide) (by first | exact h6 | exact Nat.lt_of_lt_of_le h6 (hm7 60)) (rfl : (0 : Int32) = nI 0) (by decide) ?_
    refine mj_goto (pc' := 27) C dL_file_12 (by decide) ?_
    refine mj_iconst (pc' := 28) (v := 0) C dL_file_27 rfl rfl ?_
    refine mj_iret C dL_file_28 (by decide) (by decide) (by decide) ?_
    exact wret_0 h1 rfl rfl hR1 hF1
  · obtain ⟨h0, rfl, hR9, hF9⟩ := h9
    rcases o_file_c S f sz x with h1 | ⟨h1, hs⟩ | ⟨h1, hs⟩ | ⟨h1, hs⟩
    · exact absurd h1 h0
    · rw [h1]
      refine ⟨[], (0, 12, 15, 13), [(0, 12, 19, 15), (0, 12, 23, 17)], 5, 2, rfl, (fun z hz => nomatch hz), ⟨by decide, by decide⟩, by decide, kl_L_13, kx_IOOBE, by decide, (by simp only [List.length_cons, List.length_nil]; omega), (by intro j w hj hw; obtain rfl : j = 4 := (by omega); cases Option.some.inj (Option.some.inj hw); exact (by decide : (1 : Nat) ≠ 2)), Or.inl ⟨dL_file_15, rfl⟩, ?_⟩
      show J 17 [some (aR 0 0), some (aI f), some (aI sz), some (aI x), some (aR 60 0), none] [] μ9 _ _
      refine mj_iconst (pc' := 18) (v := 1) C dL_file_17 rfl rfl ?_
      refine mj_iret C dL_file_18 (by decide) (by decide) (by decide) ?_
      exact wret_x h1 h0 hs rfl hR9 hF9
    · rw [h1]
      refine ⟨[(0, 12, 15, 13)], (0, 12, 19, 15), [(0, 12, 23, 17)], 5, 2, rfl, (List.forall_mem_cons.mpr ⟨⟨by decide, _, kl_L_13, List.Mem.head _⟩, (fun z hz => nomatch hz)⟩), ⟨by decide, by decide⟩, by decide, kl_L_15, kx_IAE, by decide, (by simp only [List.length_cons, List.length_nil]; omega), (by intro j w hj hw; obtain rfl : j = 4 := (by omega); cases Option.some.inj (Option.some.inj hw); exact (by decide : (1 : Nat) ≠ 2)), Or.inl ⟨dL_file_19, rfl⟩, ?_⟩
      show J 21 [some (aR 0 0), some (aI f), some (aI sz), some (aI x), some (aR 60 0), none] [] μ9 _ _
      refine mj_iconst (pc' := 22) (v := 2) C dL_file_21 rfl rfl ?_
      refine mj_iret C dL_file_22 (by decide) (by decide) (by decide) ?_
      exact wret_x h1 h0 hs rfl hR9 hF9
    · rw [h1]
      refine ⟨[(0, 12, 15, 13), (0, 12, 19, 15)], (0, 12, 23, 17), [], 5, 2, rfl, (List.forall_mem_cons.mpr ⟨⟨by decide, _, kl_L_13, List.Mem.tail _ (List.Mem.head _)⟩, (List.forall_mem_cons.mpr ⟨⟨by decide, _, kl_L_15, List.Mem.tail _ (List.Mem.tail _ (List.Mem.head _))⟩, (fun z hz => nomatch hz)⟩)⟩), ⟨by decide, by decide⟩, by decide, kl_L_17, kx_ISE, by decide, (by simp only [List.length_cons, List.length_nil]; omega), (by intro j w hj hw; obtain rfl : j = 4 := (by omega); cases Option.some.inj (Option.some.inj hw); exact (by decide : (1 : Nat) ≠ 2)), Or.inl ⟨dL_file_23, rfl⟩, ?_⟩
      show J 25 [some (aR 0 0), some (aI f), some (aI sz), some (aI x), some (aR 60 0), none] [] μ9 _ _
      refine mj_iconst (pc' := 26) (v := 3) C dL_file_25 rfl rfl ?_
      refine mj_iret C dL_file_26 (by decide) (by decide) (by decide) ?_
      exact wret_x h1 h0 hs rfl hR9 hF9

set_option maxHeartbeats 1000000 in
set_option maxRecDepth 20000 in
theorem c_L_hold {l : Launch} (hst : l.stackTraces = false) (S : jS) (i v : Int32) : jMetN l yL_hold (.codeWith yL_hold cL_hold 5 (some FieldType.int) [(0, 17, 20, 13), (0, 17, 24, 17)]) 9 220 2 12 (fun avs μ => avs = [aR 0 0, aI i, aI v, aR 60 0] ∧ xR S μ ∧ sW S ∧ 0 < mN μ 60 ∧ (v = 0 ∨ v = 1)) (fun avs μ r μ' => wret (o_hold S i v) kB r μ μ') := by
  refine jMetW_of (by decide) kc_yL_hold ?_
  intro avs μ J C hav hpre
  obtain ⟨rfl, hR, hW, h6, hv⟩ := hpre
  refine ⟨Nat.le_of_ble_eq_true rfl, ?_⟩
  show J 0 [some (aR 0 0), some (aI i), some (aI v), some (aR 60 0), none] [] μ 0 0
  refine mj_aload_n (pc' := 1) C dL_hold_0 rfl rfl ?_
  refine mj_iconst (pc' := 2) (v := 0) C dL_hold_1 rfl rfl ?_
  refine mj_aload_n (pc' := 3) C dL_hold_2 rfl rfl ?_
  refine mj_iload_n (pc' := 4) C dL_hold_3 rfl rfl ?_
  refine mj_iload_n (pc' := 5) C dL_hold_4 rfl rfl ?_
  refine mj_callVC_2 (ci := 5) (pc' := 8) C (c_X5_hold hst S i v) dL_hold_5 rfl km_L_47 ki_yX5_hold kz_yX5_hold kn_X5 kc_yX5_hold rfl (by decide) (by decide) ⟨rfl, by decide, by decide, by decide +kernel⟩ ⟨by decide, by decide⟩ (Nat.le_of_ble_eq_true rfl) ⟨by decide, by decide⟩ ⟨rfl, hR, hW, hv⟩ (fun r5 μ5 hq5 hm5 => ?_) (fun E μ9 h9 => ?_)
  · obtain ⟨h1, rfl, hR1, hF1⟩ := hq5
    dsimp only [Option.toList, List.nil_append, List.cons_append]
    refine mj_if_eq (tgt := 15) (pc' := 11) C dL_hold_8 (by decide) rfl (fun hz => ?_) (fun hz => ?_)
    · have hv0 : (0 : Int64) = (o_hold S i v).2.1.toInt64 := by rw [hz]; rfl
      refine mj_lconst (pc' := 16) (v := 0) C dL_hold_15 rfl rfl ?_
      refine mj_last (pc' := 17) C dL_hold_16 rfl rfl (by decide) (by decide) (by first | exact h6 | exact Nat.lt_of_lt_of_le h6 (hm5 60)) (rfl : (0 : Int32) = nI 0) (by decide) ?_
      refine mj_goto (pc' := 28) C dL_hold_17 (by decide) ?_
      refine mj_iconst (pc' := 29) (v := 0) C dL_hold_28 rfl rfl ?_
      refine mj_iret C dL_hold_29 (by decide) (by decide) (by decide) ?_
      exact wret_0 h1 rfl hv0 hR1 hF1
    · have hv0 : (1 : Int64) = (o_hold S i v).2.1.toInt64 := by rw [((o_hold_b S i v).resolve_left hz)]; rfl
      refine mj_lconst (pc' := 12) (v := 1) C dL_hold_11 rfl rfl ?_
      refine mj_goto (pc' := 16) C dL_hold_12 (by decide) ?_
      refine mj_last (pc' := 17) C dL_hold_16 rfl rfl (by decide) (by decide) (by first | exact h6 | exact Nat.lt_of_lt_of_le h6 (hm5 60)) (rfl : (0 : Int32) = nI 0) (by decide) ?_
      refine mj_goto (pc' := 28) C dL_hold_17 (by decide) ?_
      refine mj_iconst (pc' := 29) (v := 0) C dL_hold_28 rfl rfl ?_
      refine mj_iret C dL_hold_29 (by decide) (by decide) (by decide) ?_
      exact wret_0 h1 rfl hv0 hR1 hF1
  · obtain ⟨h0, rfl, hR9, hF9⟩ := h9
    rcases o_hold_c S i v with h1 | ⟨h1, hs⟩ | ⟨h1, hs⟩
    · exact absurd h1 h0
    · rw [h1]
      refine ⟨[], (0, 17, 20, 13), [(0, 17, 24, 17)], 4, 2, rfl, (fun z hz => nomatch hz), ⟨by decide, by decide⟩, by decide, kl_L_13, kx_IOOBE, by decide, (by simp only [List.length_cons, List.length_nil]; omega), (by intro j w hj hw; obtain rfl : j = 3 := (by omega); cases Option.some.inj (Option.some.inj hw); exact (by decide : (1 : Nat) ≠ 2)), Or.inl ⟨dL_hold_20, rfl⟩, ?_⟩
      show J 22 [some (aR 0 0), some (aI i), some (aI v), some (aR 60 0), none] [] μ9 _ _
      refine mj_iconst (pc' := 23) (v := 1) C dL_hold_22 rfl rfl ?_
      refine mj_iret C dL_hold_23 (by decide) (by decide) (by decide) ?_
      exact wret_x h1 h0 hs rfl hR9 hF9
    · rw [h1]
      refine ⟨[(0, 17, 20, 13)], (0, 17, 24, 17), [], 4, 2, rfl, (List.forall_mem_cons.mpr ⟨⟨by decide, _, kl_L_13, List.Mem.tail _ (List.Mem.head _)⟩, (fun z hz => nomatch hz)⟩), ⟨by decide, by decide⟩, by decide, kl_L_17, kx_ISE, by decide, (by simp only [List.length_cons, List.length_nil]; omega), (by intro j w hj hw; obtain rfl : j = 3 := (by omega); cases Option.some.inj (Option.some.inj hw); exact (by decide : (1 : Nat) ≠ 2)), Or.inl ⟨dL_hold_24, rfl⟩, ?_⟩
      show J 26 [some (aR 0 0), some (aI i), some (aI v), some (aR 60 0), none] [] μ9 _ _
      refine mj_iconst (pc' := 27) (v := 2) C dL_hold_26 rfl rfl ?_
      refine mj_iret C dL_hold_27 (by decide) (by decide) (by decide) ?_
      exact wret_x h1 h0 hs rfl hR9 hF9

set_option maxHeartbeats 1000000 in
set_option maxRecDepth 20000 in
theorem c_L_read {l : Launch} (hst : l.stackTraces = false) (S : jS) (i : Int32) : jMetN l yL_read (.codeWith yL_read cL_read 4 (some FieldType.int) [(0, 9, 12, 13), (0, 9, 15, 17)]) 9 220 4 24 (fun avs μ => avs = [aR 0 0, aI i, aR 60 0] ∧ xR S μ ∧ sW S ∧ 0 < mN μ 60) (fun avs μ r μ' => wret (o_read S i) kB r μ μ') := by
  refine jMetW_of (by decide) kc_yL_read ?_
  intro avs μ J C hav hpre
  obtain ⟨rfl, hR, hW, h6⟩ := hpre
  refine ⟨Nat.le_of_ble_eq_true rfl, ?_⟩
  show J 0 [some (aR 0 0), some (aI i), some (aR 60 0), none] [] μ 0 0
  refine mj_aload_n (pc' := 1) C dL_read_0 rfl rfl ?_
  refine mj_iconst (pc' := 2) (v := 0) C dL_read_1 rfl rfl ?_
  refine mj_aload_n (pc' := 3) C dL_read_2 rfl rfl ?_
  refine mj_iload_n (pc' := 4) C dL_read_3 rfl rfl ?_
  refine mj_callVC_1 (ci := 5) (pc' := 7) C (c_X5_read hst S i) dL_read_4 rfl km_L_51 ki_yX5_read kz_yX5_read kn_X5 kc_yX5_read rfl (by decide) (by decide) ⟨rfl, by decide, by decide, by decide +kernel⟩ ⟨by decide, by decide⟩ (Nat.le_of_ble_eq_true rfl) ⟨by decide, by decide⟩ ⟨rfl, hR, hW⟩ (fun r4 μ4 hq4 hm4 => ?_) (fun E μ9 h9 => ?_)
  · obtain ⟨h1, rfl, hR1, hF1⟩ := hq4
    dsimp only [Option.toList, List.nil_append, List.cons_append]
    refine mj_i2l (pc' := 8) C dL_read_7 rfl ?_
    refine mj_last (pc' := 9) C dL_read_8 rfl rfl (by decide) (by decide) (by first | exact h6 | exact Nat.lt_of_lt_of_le h6 (hm4 60)) (rfl : (0 : Int32) = nI 0) (by decide) ?_
    refine mj_goto (pc' := 18) C dL_read_9 (by decide) ?_
    refine mj_iconst (pc' := 19) (v := 0) C dL_read_18 rfl rfl ?_
    refine mj_iret C dL_read_19 (by decide) (by decide) (by decide) ?_
    exact wret_0 h1 rfl rfl hR1 hF1
  · obtain ⟨h0, rfl, hR9, hF9⟩ := h9
    rcases o_read_c S i with h1 | ⟨h1, hs⟩ | ⟨h1, hs⟩
    · exact absurd h1 h0
    · rw [h1]
      refine ⟨[], (0, 9, 12, 13), [(0, 9, 15, 17)], 3, 1, rfl, (fun z hz => nomatch hz), ⟨by decide, by decide⟩, by decide, kl_L_13, kx_IOOBE, by decide, (by simp only [List.length_cons, List.length_nil]; omega), (by intro j w hj hw; obtain rfl : j = 2 := (by omega); cases Option.some.inj (Option.some.inj hw); exact (by decide : (1 : Nat) ≠ 2)), Or.inr ⟨3, dL_read_12, rfl, rfl⟩, ?_⟩
      show J 13 [some (aR 0 0), some (aI i), some (aR 60 0), none] [] μ9 _ _
      refine mj_iconst (pc' := 14) (v := 1) C dL_read_13 rfl rfl ?_
      refine mj_iret C dL_read_14 (by decide) (by decide) (by decide) ?_
      exact wret_x h1 h0 hs rfl hR9 hF9
    · rw [h1]
      refine ⟨[(0, 9, 12, 13)], (0, 9, 15, 17), [], 3, 1, rfl, (List.forall_mem_cons.mpr ⟨⟨by decide, _, kl_L_13, List.Mem.tail _ (List.Mem.head _)⟩, (fun z hz => nomatch hz)⟩), ⟨by decide, by decide⟩, by decide, kl_L_17, kx_ISE, by decide, (by simp only [List.length_cons, List.length_nil]; omega), (by intro j w hj hw; obtain rfl : j = 2 := (by omega); cases Option.some.inj (Option.some.inj hw); exact (by decide : (1 : Nat) ≠ 2)), Or.inr ⟨3, dL_read_15, rfl, rfl⟩, ?_⟩
      show J 16 [some (aR 0 0), some (aI i), some (aR 60 0), none] [] μ9 _ _
      refine mj_iconst (pc' := 17) (v := 2) C dL_read_16 rfl rfl ?_
      refine mj_iret C dL_read_17 (by decide) (by decide) (by decide) ?_
      exact wret_x h1 h0 hs rfl hR9 hF9

set_option maxHeartbeats 1000000 in
set_option maxRecDepth 20000 in
theorem c_L_move {l : Launch} (hst : l.stackTraces = false) (S : jS) (x f : Int32) : jMetN l yL_move (.codeWith yL_move cL_move 5 (some FieldType.int) [(0, 10, 13, 13), (0, 10, 17, 15), (0, 10, 21, 17)]) 20 660 5 30 (fun avs μ => avs = [aR 0 0, aI x, aI f, aR 60 0] ∧ xR S μ ∧ sW S ∧ 0 < mN μ 60) (fun avs μ r μ' => wret (o_move S x f) kA r μ μ') := by
  refine jMetW_of (by decide) kc_yL_move ?_
  intro avs μ J C hav hpre
  obtain ⟨rfl, hR, hW, h6⟩ := hpre
  refine ⟨Nat.le_of_ble_eq_true rfl, ?_⟩
  show J 0 [some (aR 0 0), some (aI x), some (aI f), some (aR 60 0), none] [] μ 0 0
  refine mj_aload_n (pc' := 1) C dL_move_0 rfl rfl ?_
  refine mj_iconst (pc' := 2) (v := 0) C dL_move_1 rfl rfl ?_
  refine mj_aload_n (pc' := 3) C dL_move_2 rfl rfl ?_
  refine mj_iload_n (pc' := 4) C dL_move_3 rfl rfl ?_
  refine mj_iload_n (pc' := 5) C dL_move_4 rfl rfl ?_
  refine mj_callVC_2 (ci := 5) (pc' := 8) C (c_X5_move hst S x f) dL_move_5 rfl km_L_54 ki_yX5_move kz_yX5_move kn_X5 kc_yX5_move rfl (by decide) (by decide) ⟨rfl, by decide, by decide, by decide +kernel⟩ ⟨by decide, by decide⟩ (Nat.le_of_ble_eq_true rfl) ⟨by decide, by decide⟩ ⟨rfl, hR, hW⟩ (fun r5 μ5 hq5 hm5 => ?_) (fun E μ9 h9 => ?_)
  · obtain ⟨h1, rfl, hR1, hF1⟩ := hq5
    dsimp only [Option.toList, List.nil_append, List.cons_append]
    refine mj_i2l (pc' := 9) C dL_move_8 rfl ?_
    refine mj_last (pc' := 10) C dL_move_9 rfl rfl (by decide) (by decide) (by first | exact h6 | exact Nat.lt_of_lt_of_le h6 (hm5 60)) (rfl : (0 : Int32) = nI 0) (by decide) ?_
    refine mj_goto (pc' := 25) C dL_move_10 (by decide) ?_
    refine mj_iconst (pc' := 26) (v := 0) C dL_move_25 rfl rfl ?_
    refine mj_iret C dL_move_26 (by decide) (by decide) (by decide) ?_
    exact wret_0 h1 rfl rfl hR1 hF1
  · obtain ⟨h0, rfl, hR9, hF9⟩ := h9
    rcases o_move_c S x f with h1 | ⟨h1, hs⟩ | ⟨h1, hs⟩ | ⟨h1, hs⟩
    · exact absurd h1 h0
    · rw [h1]
      refine ⟨[], (0, 10, 13, 13), [(0, 10, 17, 15), (0, 10, 21, 17)], 4, 2, rfl, (fun z hz => nomatch hz), ⟨by decide, by decide⟩, by decide, kl_L_13, kx_IOOBE, by decide, (by simp only [List.length_cons, List.length_nil]; omega), (by intro j w hj hw; obtain rfl : j = 3 := (by omega); cases Option.some.inj (Option.some.inj hw); exact (by decide : (1 : Nat) ≠ 2)), Or.inl ⟨dL_move_13, rfl⟩, ?_⟩
      show J 15 [some (aR 0 0), some (aI x), some (aI f), some (aR 60 0), none] [] μ9 _ _
      refine mj_iconst (pc' := 16) (v := 1) C dL_move_15 rfl rfl ?_
      refine mj_iret C dL_move_16 (by decide) (by decide) (by decide) ?_
      exact wret_x h1 h0 hs rfl hR9 hF9
    · rw [h1]
      refine ⟨[(0, 10, 13, 13)], (0, 10, 17, 15), [(0, 10, 21, 17)], 4, 2, rfl, (List.forall_mem_cons.mpr ⟨⟨by decide, _, kl_L_13, List.Mem.head _⟩, (fun z hz => nomatch hz)⟩), ⟨by decide, by decide⟩, by decide, kl_L_15, kx_IAE, by decide, (by simp only [List.length_cons, List.length_nil]; omega), (by intro j w hj hw; obtain rfl : j = 3 := (by omega); cases Option.some.inj (Option.some.inj hw); exact (by decide : (1 : Nat) ≠ 2)), Or.inl ⟨dL_move_17, rfl⟩, ?_⟩
      show J 19 [some (aR 0 0), some (aI x), some (aI f), some (aR 60 0), none] [] μ9 _ _
      refine mj_iconst (pc' := 20) (v := 2) C dL_move_19 rfl rfl ?_
      refine mj_iret C dL_move_20 (by decide) (by decide) (by decide) ?_
      exact wret_x h1 h0 hs rfl hR9 hF9
    · rw [h1]
      refine ⟨[(0, 10, 13, 13), (0, 10, 17, 15)], (0, 10, 21, 17), [], 4, 2, rfl, (List.forall_mem_cons.mpr ⟨⟨by decide, _, kl_L_13, List.Mem.tail _ (List.Mem.head _)⟩, (List.forall_mem_cons.mpr ⟨⟨by decide, _, kl_L_15, List.Mem.tail _ (List.Mem.tail _ (List.Mem.head _))⟩, (fun z hz => nomatch hz)⟩)⟩), ⟨by decide, by decide⟩, by decide, kl_L_17, kx_ISE, by decide, (by simp only [List.length_cons, List.length_nil]; omega), (by intro j w hj hw; obtain rfl : j = 3 := (by omega); cases Option.some.inj (Option.some.inj hw); exact (by decide : (1 : Nat) ≠ 2)), Or.inl ⟨dL_move_21, rfl⟩, ?_⟩
      show J 23 [some (aR 0 0), some (aI x), some (aI f), some (aR 60 0), none] [] μ9 _ _
      refine mj_iconst (pc' := 24) (v := 3) C dL_move_23 rfl rfl ?_
      refine mj_iret C dL_move_24 (by decide) (by decide) (by decide) ?_
      exact wret_x h1 h0 hs rfl hR9 hF9

set_option maxHeartbeats 1000000 in
set_option maxRecDepth 20000 in
theorem c_L_haven {l : Launch} (hst : l.stackTraces = false) (S : jS) (x : Int32) : jMetN l yL_haven (.codeWith yL_haven cL_haven 4 (some FieldType.int) [(0, 9, 12, 13)]) 19 620 1 6 (fun avs μ => avs = [aR 0 0, aI x, aR 60 0] ∧ xR S μ ∧ sW S ∧ 0 < mN μ 60) (fun avs μ r μ' => wret (o_haven S x) kA r μ μ') := by
  refine jMetW_of (by decide) kc_yL_haven ?_
  intro avs μ J C hav hpre
  obtain ⟨rfl, hR, hW, h6⟩ := hpre
  refine ⟨Nat.le_of_ble_eq_true rfl, ?_⟩
  show J 0 [some (aR 0 0), some (aI x), some (aR 60 0), none] [] μ 0 0
  refine mj_aload_n (pc' := 1) C dL_haven_0 rfl rfl ?_
  refine mj_iconst (pc' := 2) (v := 0) C dL_haven_1 rfl rfl ?_
  refine mj_aload_n (pc' := 3) C dL_haven_2 rfl rfl ?_
  refine mj_iload_n (pc' := 4) C dL_haven_3 rfl rfl ?_
  refine mj_callVC_1 (ci := 5) (pc' := 7) C (c_X5_haven hst S x) dL_haven_4 rfl km_L_57 ki_yX5_haven kz_yX5_haven kn_X5 kc_yX5_haven rfl (by decide) (by decide) ⟨rfl, by decide, by decide, by decide +kernel⟩ ⟨by decide, by decide⟩ (Nat.le_of_ble_eq_true rfl) ⟨by decide, by decide⟩ ⟨rfl, hR, hW⟩ (fun r4 μ4 hq4 hm4 => ?_) (fun E μ9 h9 => ?_)
  · obtain ⟨h1, rfl, hR1, hF1⟩ := hq4
    dsimp only [Option.toList, List.nil_append, List.cons_append]
    refine mj_i2l (pc' := 8) C dL_haven_7 rfl ?_
    refine mj_last (pc' := 9) C dL_haven_8 rfl rfl (by decide) (by decide) (by first | exact h6 | exact Nat.lt_of_lt_of_le h6 (hm4 60)) (rfl : (0 : Int32) = nI 0) (by decide) ?_
    refine mj_goto (pc' := 15) C dL_haven_9 (by decide) ?_
    refine mj_iconst (pc' := 16) (v := 0) C dL_haven_15 rfl rfl ?_
    refine mj_iret C dL_haven_16 (by decide) (by decide) (by decide) ?_
    exact wret_0 h1 rfl rfl hR1 hF1
  · obtain ⟨h0, rfl, hR9, hF9⟩ := h9
    rcases o_haven_c S x with h1 | ⟨h1, hs⟩
    · exact absurd h1 h0
    · rw [h1]
      refine ⟨[], (0, 9, 12, 13), [], 3, 1, rfl, (fun z hz => nomatch hz), ⟨by decide, by decide⟩, by decide, kl_L_13, kx_IOOBE, by decide, (by simp only [List.length_cons, List.length_nil]; omega), (by intro j w hj hw; obtain rfl : j = 2 := (by omega); cases Option.some.inj (Option.some.inj hw); exact (by decide : (1 : Nat) ≠ 2)), Or.inr ⟨3, dL_haven_12, rfl, rfl⟩, ?_⟩
      show J 13 [some (aR 0 0), some (aI x), some (aR 60 0), none] [] μ9 _ _
      refine mj_iconst (pc' := 14) (v := 1) C dL_haven_13 rfl rfl ?_
      refine mj_iret C dL_haven_14 (by decide) (by decide) (by decide) ?_
      exact wret_x h1 h0 hs rfl hR9 hF9

set_option maxHeartbeats 1000000 in
set_option maxRecDepth 20000 in
theorem c_L_isSafe {l : Launch} (hst : l.stackTraces = false) (S : jS) (i : Int32) : jMetN l yL_isSafe (.codeWith yL_isSafe cL_isSafe 4 (some FieldType.int) [(0, 16, 19, 13)]) 9 220 1 6 (fun avs μ => avs = [aR 0 0, aI i, aR 60 0] ∧ xR S μ ∧ sW S ∧ 0 < mN μ 60) (fun avs μ r μ' => wret (o_isSafe S i) kA r μ μ') := by
  refine jMetW_of (by decide) kc_yL_isSafe ?_
  intro avs μ J C hav hpre
  obtain ⟨rfl, hR, hW, h6⟩ := hpre
  refine ⟨Nat.le_of_ble_eq_true rfl, ?_⟩
  show J 0 [some (aR 0 0), some (aI i), some (aR 60 0), none] [] μ 0 0
  refine mj_aload_n (pc' := 1) C dL_isSafe_0 rfl rfl ?_
  refine mj_iconst (pc' := 2) (v := 0) C dL_isSafe_1 rfl rfl ?_
  refine mj_aload_n (pc' := 3) C dL_isSafe_2 rfl rfl ?_
  refine mj_iload_n (pc' := 4) C dL_isSafe_3 rfl rfl ?_
  refine mj_callVC_1 (ci := 5) (pc' := 7) C (c_X5_isSafe hst S i) dL_isSafe_4 rfl km_L_60 ki_yX5_isSafe kz_yX5_isSafe kn_X5 kc_yX5_isSafe rfl (by decide) (by decide) ⟨rfl, by decide, by decide, by decide +kernel⟩ ⟨by decide, by decide⟩ (Nat.le_of_ble_eq_true rfl) ⟨by decide, by decide⟩ ⟨rfl, hR, hW⟩ (fun r4 μ4 hq4 hm4 => ?_) (fun E μ9 h9 => ?_)
  · obtain ⟨h1, rfl, hR1, hF1⟩ := hq4
    dsimp only [Option.toList, List.nil_append, List.cons_append]
    refine mj_if_eq (tgt := 14) (pc' := 10) C dL_isSafe_7 (by decide) rfl (fun hz => ?_) (fun hz => ?_)
    · have hv0 : (0 : Int64) = (o_isSafe S i).2.1.toInt64 := by rw [hz]; rfl
      refine mj_lconst (pc' := 15) (v := 0) C dL_isSafe_14 rfl rfl ?_
      refine mj_last (pc' := 16) C dL_isSafe_15 rfl rfl (by decide) (by decide) (by first | exact h6 | exact Nat.lt_of_lt_of_le h6 (hm4 60)) (rfl : (0 : Int32) = nI 0) (by decide) ?_
      refine mj_goto (pc' := 22) C dL_isSafe_16 (by decide) ?_
      refine mj_iconst (pc' := 23) (v := 0) C dL_isSafe_22 rfl rfl ?_
      refine mj_iret C dL_isSafe_23 (by decide) (by decide) (by decide) ?_
      exact wret_0 h1 rfl hv0 hR1 hF1
    · have hv0 : (1 : Int64) = (o_isSafe S i).2.1.toInt64 := by rw [((o_isSafe_b S i).resolve_left hz)]; rfl
      refine mj_lconst (pc' := 11) (v := 1) C dL_isSafe_10 rfl rfl ?_
      refine mj_goto (pc' := 15) C dL_isSafe_11 (by decide) ?_
      refine mj_last (pc' := 16) C dL_isSafe_15 rfl rfl (by decide) (by decide) (by first | exact h6 | exact Nat.lt_of_lt_of_le h6 (hm4 60)) (rfl : (0 : Int32) = nI 0) (by decide) ?_
      refine mj_goto (pc' := 22) C dL_isSafe_16 (by decide) ?_
      refine mj_iconst (pc' := 23) (v := 0) C dL_isSafe_22 rfl rfl ?_
      refine mj_iret C dL_isSafe_23 (by decide) (by decide) (by decide) ?_
      exact wret_0 h1 rfl hv0 hR1 hF1
  · obtain ⟨h0, rfl, hR9, hF9⟩ := h9
    rcases o_isSafe_c S i with h1 | ⟨h1, hs⟩
    · exact absurd h1 h0
    · rw [h1]
      refine ⟨[], (0, 16, 19, 13), [], 3, 1, rfl, (fun z hz => nomatch hz), ⟨by decide, by decide⟩, by decide, kl_L_13, kx_IOOBE, by decide, (by simp only [List.length_cons, List.length_nil]; omega), (by intro j w hj hw; obtain rfl : j = 2 := (by omega); cases Option.some.inj (Option.some.inj hw); exact (by decide : (1 : Nat) ≠ 2)), Or.inr ⟨3, dL_isSafe_19, rfl, rfl⟩, ?_⟩
      show J 20 [some (aR 0 0), some (aI i), some (aR 60 0), none] [] μ9 _ _
      refine mj_iconst (pc' := 21) (v := 1) C dL_isSafe_20 rfl rfl ?_
      refine mj_iret C dL_isSafe_21 (by decide) (by decide) (by decide) ?_
      exact wret_x h1 h0 hs rfl hR9 hF9

set_option maxHeartbeats 1000000 in
set_option maxRecDepth 20000 in
theorem c_L_stateOf {l : Launch} (hst : l.stackTraces = false) (S : jS) (i : Int32) : jMetN l yL_stateOf (.codeWith yL_stateOf cL_stateOf 4 (some FieldType.int) [(0, 9, 12, 13)]) 9 220 1 6 (fun avs μ => avs = [aR 0 0, aI i, aR 60 0] ∧ xR S μ ∧ sW S ∧ 0 < mN μ 60) (fun avs μ r μ' => wret (o_get S 15 i) kA r μ μ') := by
  refine jMetW_of (by decide) kc_yL_stateOf ?_
  intro avs μ J C hav hpre
  obtain ⟨rfl, hR, hW, h6⟩ := hpre
  refine ⟨Nat.le_of_ble_eq_true rfl, ?_⟩
  show J 0 [some (aR 0 0), some (aI i), some (aR 60 0), none] [] μ 0 0
  refine mj_aload_n (pc' := 1) C dL_stateOf_0 rfl rfl ?_
  refine mj_iconst (pc' := 2) (v := 0) C dL_stateOf_1 rfl rfl ?_
  refine mj_aload_n (pc' := 3) C dL_stateOf_2 rfl rfl ?_
  refine mj_iload_n (pc' := 4) C dL_stateOf_3 rfl rfl ?_
  refine mj_callVC_1 (ci := 5) (pc' := 7) C (c_X5_stateOf hst S i) dL_stateOf_4 rfl km_L_64 ki_yX5_stateOf kz_yX5_stateOf kn_X5 kc_yX5_stateOf rfl (by decide) (by decide) ⟨rfl, by decide, by decide, by decide +kernel⟩ ⟨by decide, by decide⟩ (Nat.le_of_ble_eq_true rfl) ⟨by decide, by decide⟩ ⟨rfl, hR, hW⟩ (fun r4 μ4 hq4 hm4 => ?_) (fun E μ9 h9 => ?_)
  · obtain ⟨h1, rfl, hR1, hF1⟩ := hq4
    dsimp only [Option.toList, List.nil_append, List.cons_append]
    refine mj_i2l (pc' := 8) C dL_stateOf_7 rfl ?_
    refine mj_last (pc' := 9) C dL_stateOf_8 rfl rfl (by decide) (by decide) (by first | exact h6 | exact Nat.lt_of_lt_of_le h6 (hm4 60)) (rfl : (0 : Int32) = nI 0) (by decide) ?_
    refine mj_goto (pc' := 15) C dL_stateOf_9 (by decide) ?_
    refine mj_iconst (pc' := 16) (v := 0) C dL_stateOf_15 rfl rfl ?_
    refine mj_iret C dL_stateOf_16 (by decide) (by decide) (by decide) ?_
    exact wret_0 h1 rfl rfl hR1 hF1
  · obtain ⟨h0, rfl, hR9, hF9⟩ := h9
    rcases o_get_c S 15 i with h1 | ⟨h1, hs⟩
    · exact absurd h1 h0
    · rw [h1]
      refine ⟨[], (0, 9, 12, 13), [], 3, 1, rfl, (fun z hz => nomatch hz), ⟨by decide, by decide⟩, by decide, kl_L_13, kx_IOOBE, by decide, (by simp only [List.length_cons, List.length_nil]; omega), (by intro j w hj hw; obtain rfl : j = 2 := (by omega); cases Option.some.inj (Option.some.inj hw); exact (by decide : (1 : Nat) ≠ 2)), Or.inr ⟨3, dL_stateOf_12, rfl, rfl⟩, ?_⟩
      show J 13 [some (aR 0 0), some (aI i), some (aR 60 0), none] [] μ9 _ _
      refine mj_iconst (pc' := 14) (v := 1) C dL_stateOf_13 rfl rfl ?_
      refine mj_iret C dL_stateOf_14 (by decide) (by decide) (by decide) ?_
      exact wret_x h1 h0 hs rfl hR9 hF9

set_option maxHeartbeats 1000000 in
set_option maxRecDepth 20000 in
theorem c_L_formatOf {l : Launch} (hst : l.stackTraces = false) (S : jS) (i : Int32) : jMetN l yL_formatOf (.codeWith yL_formatOf cL_formatOf 4 (some FieldType.int) [(0, 9, 12, 13)]) 9 220 1 6 (fun avs μ => avs = [aR 0 0, aI i, aR 60 0] ∧ xR S μ ∧ sW S ∧ 0 < mN μ 60) (fun avs μ r μ' => wret (o_get S 9 i) kA r μ μ') := by
  refine jMetW_of (by decide) kc_yL_formatOf ?_
  intro avs μ J C hav hpre
  obtain ⟨rfl, hR, hW, h6⟩ := hpre
  refine ⟨Nat.le_of_ble_eq_true rfl, ?_⟩
  show J 0 [some (aR 0 0), some (aI i), some (aR 60 0), none] [] μ 0 0
  refine mj_aload_n (pc' := 1) C dL_formatOf_0 rfl rfl ?_
  refine mj_iconst (pc' := 2) (v := 0) C dL_formatOf_1 rfl rfl ?_
  refine mj_aload_n (pc' := 3) C dL_formatOf_2 rfl rfl ?_
  refine mj_iload_n (pc' := 4) C dL_formatOf_3 rfl rfl ?_
  refine mj_callVC_1 (ci := 5) (pc' := 7) C (c_X5_formatOf hst S i) dL_formatOf_4 rfl km_L_67 ki_yX5_formatOf kz_yX5_formatOf kn_X5 kc_yX5_formatOf rfl (by decide) (by decide) ⟨rfl, by decide, by decide, by decide +kernel⟩ ⟨by decide, by decide⟩ (Nat.le_of_ble_eq_true rfl) ⟨by decide, by decide⟩ ⟨rfl, hR, hW⟩ (fun r4 μ4 hq4 hm4 => ?_) (fun E μ9 h9 => ?_)
  · obtain ⟨h1, rfl, hR1, hF1⟩ := hq4
    dsimp only [Option.toList, List.nil_append, List.cons_append]
    refine mj_i2l (pc' := 8) C dL_formatOf_7 rfl ?_
    refine mj_last (pc' := 9) C dL_formatOf_8 rfl rfl (by decide) (by decide) (by first | exact h6 | exact Nat.lt_of_lt_of_le h6 (hm4 60)) (rfl : (0 : Int32) = nI 0) (by decide) ?_
    refine mj_goto (pc' := 15) C dL_formatOf_9 (by decide) ?_
    refine mj_iconst (pc' := 16) (v := 0) C dL_formatOf_15 rfl rfl ?_
    refine mj_iret C dL_formatOf_16 (by decide) (by decide) (by decide) ?_
    exact wret_0 h1 rfl rfl hR1 hF1
  · obtain ⟨h0, rfl, hR9, hF9⟩ := h9
    rcases o_get_c S 9 i with h1 | ⟨h1, hs⟩
    · exact absurd h1 h0
    · rw [h1]
      refine ⟨[], (0, 9, 12, 13), [], 3, 1, rfl, (fun z hz => nomatch hz), ⟨by decide, by decide⟩, by decide, kl_L_13, kx_IOOBE, by decide, (by simp only [List.length_cons, List.length_nil]; omega), (by intro j w hj hw; obtain rfl : j = 2 := (by omega); cases Option.some.inj (Option.some.inj hw); exact (by decide : (1 : Nat) ≠ 2)), Or.inr ⟨3, dL_formatOf_12, rfl, rfl⟩, ?_⟩
      show J 13 [some (aR 0 0), some (aI i), some (aR 60 0), none] [] μ9 _ _
      refine mj_iconst (pc' := 14) (v := 1) C dL_formatOf_13 rfl rfl ?_
      refine mj_iret C dL_formatOf_14 (by decide) (by decide) (by decide) ?_
      exact wret_x h1 h0 hs rfl hR9 hF9

set_option maxHeartbeats 1000000 in
set_option maxRecDepth 20000 in
theorem c_L_qualityOf {l : Launch} (hst : l.stackTraces = false) (S : jS) (i : Int32) : jMetN l yL_qualityOf (.codeWith yL_qualityOf cL_qualityOf 4 (some FieldType.int) [(0, 9, 12, 13)]) 9 220 1 6 (fun avs μ => avs = [aR 0 0, aI i, aR 60 0] ∧ xR S μ ∧ sW S ∧ 0 < mN μ 60) (fun avs μ r μ' => wret (o_get S 12 i) kA r μ μ') := by
  refine jMetW_of (by decide) kc_yL_qualityOf ?_
  intro avs μ J C hav hpre
  obtain ⟨rfl, hR, hW, h6⟩ := hpre
  refine ⟨Nat.le_of_ble_eq_true rfl, ?_⟩
  show J 0 [some (aR 0 0), some (aI i), some (aR 60 0), none] [] μ 0 0
  refine mj_aload_n (pc' := 1) C dL_qualityOf_0 rfl rfl ?_
  refine mj_iconst (pc' := 2) (v := 0) C dL_qualityOf_1 rfl rfl ?_
  refine mj_aload_n (pc' := 3) C dL_qualityOf_2 rfl rfl ?_
  refine mj_iload_n (pc' := 4) C dL_qualityOf_3 rfl rfl ?_
  refine mj_callVC_1 (ci := 5) (pc' := 7) C (c_X5_qualityOf hst S i) dL_qualityOf_4 rfl km_L_70 ki_yX5_qualityOf kz_yX5_qualityOf kn_X5 kc_yX5_qualityOf rfl (by decide) (by decide) ⟨rfl, by decide, by decide, by decide +kernel⟩ ⟨by decide, by decide⟩ (Nat.le_of_ble_eq_true rfl) ⟨by decide, by decide⟩ ⟨rfl, hR, hW⟩ (fun r4 μ4 hq4 hm4 => ?_) (fun E μ9 h9 => ?_)
  · obtain ⟨h1, rfl, hR1, hF1⟩ := hq4
    dsimp only [Option.toList, List.nil_append, List.cons_append]
    refine mj_i2l (pc' := 8) C dL_qualityOf_7 rfl ?_
    refine mj_last (pc' := 9) C dL_qualityOf_8 rfl rfl (by decide) (by decide) (by first | exact h6 | exact Nat.lt_of_lt_of_le h6 (hm4 60)) (rfl : (0 : Int32) = nI 0) (by decide) ?_
    refine mj_goto (pc' := 15) C dL_qualityOf_9 (by decide) ?_
    refine mj_iconst (pc' := 16) (v := 0) C dL_qualityOf_15 rfl rfl ?_
    refine mj_iret C dL_qualityOf_16 (by decide) (by decide) (by decide) ?_
    exact wret_0 h1 rfl rfl hR1 hF1
  · obtain ⟨h0, rfl, hR9, hF9⟩ := h9
    rcases o_get_c S 12 i with h1 | ⟨h1, hs⟩
    · exact absurd h1 h0
    · rw [h1]
      refine ⟨[], (0, 9, 12, 13), [], 3, 1, rfl, (fun z hz => nomatch hz), ⟨by decide, by decide⟩, by decide, kl_L_13, kx_IOOBE, by decide, (by simp only [List.length_cons, List.length_nil]; omega), (by intro j w hj hw; obtain rfl : j = 2 := (by omega); cases Option.some.inj (Option.some.inj hw); exact (by decide : (1 : Nat) ≠ 2)), Or.inr ⟨3, dL_qualityOf_12, rfl, rfl⟩, ?_⟩
      show J 13 [some (aR 0 0), some (aI i), some (aR 60 0), none] [] μ9 _ _
      refine mj_iconst (pc' := 14) (v := 1) C dL_qualityOf_13 rfl rfl ?_
      refine mj_iret C dL_qualityOf_14 (by decide) (by decide) (by decide) ?_
      exact wret_x h1 h0 hs rfl hR9 hF9

set_option maxHeartbeats 1000000 in
set_option maxRecDepth 20000 in
theorem c_L_endOf {l : Launch} (hst : l.stackTraces = false) (S : jS) (i : Int32) : jMetN l yL_endOf (.codeWith yL_endOf cL_endOf 4 (some FieldType.int) [(0, 9, 12, 13)]) 9 220 1 6 (fun avs μ => avs = [aR 0 0, aI i, aR 60 0] ∧ xR S μ ∧ sW S ∧ 0 < mN μ 60) (fun avs μ r μ' => wret (o_get S 13 i) kA r μ μ') := by
  refine jMetW_of (by decide) kc_yL_endOf ?_
  intro avs μ J C hav hpre
  obtain ⟨rfl, hR, hW, h6⟩ := hpre
  refine ⟨Nat.le_of_ble_eq_true rfl, ?_⟩
  show J 0 [some (aR 0 0), some (aI i), some (aR 60 0), none] [] μ 0 0
  refine mj_aload_n (pc' := 1) C dL_endOf_0 rfl rfl ?_
  refine mj_iconst (pc' := 2) (v := 0) C dL_endOf_1 rfl rfl ?_
  refine mj_aload_n (pc' := 3) C dL_endOf_2 rfl rfl ?_
  refine mj_iload_n (pc' := 4) C dL_endOf_3 rfl rfl ?_
  refine mj_callVC_1 (ci := 5) (pc' := 7) C (c_X5_endOf hst S i) dL_endOf_4 rfl km_L_73 ki_yX5_endOf kz_yX5_endOf kn_X5 kc_yX5_endOf rfl (by decide) (by decide) ⟨rfl, by decide, by decide, by decide +kernel⟩ ⟨by decide, by decide⟩ (Nat.le_of_ble_eq_true rfl) ⟨by decide, by decide⟩ ⟨rfl, hR, hW⟩ (fun r4 μ4 hq4 hm4 => ?_) (fun E μ9 h9 => ?_)
  · obtain ⟨h1, rfl, hR1, hF1⟩ := hq4
    dsimp only [Option.toList, List.nil_append, List.cons_append]
    refine mj_i2l (pc' := 8) C dL_endOf_7 rfl ?_
    refine mj_last (pc' := 9) C dL_endOf_8 rfl rfl (by decide) (by decide) (by first | exact h6 | exact Nat.lt_of_lt_of_le h6 (hm4 60)) (rfl : (0 : Int32) = nI 0) (by decide) ?_
    refine mj_goto (pc' := 15) C dL_endOf_9 (by decide) ?_
    refine mj_iconst (pc' := 16) (v := 0) C dL_endOf_15 rfl rfl ?_
    refine mj_iret C dL_endOf_16 (by decide) (by decide) (by decide) ?_
    exact wret_0 h1 rfl rfl hR1 hF1
  · obtain ⟨h0, rfl, hR9, hF9⟩ := h9
    rcases o_get_c S 13 i with h1 | ⟨h1, hs⟩
    · exact absurd h1 h0
    · rw [h1]
      refine ⟨[], (0, 9, 12, 13), [], 3, 1, rfl, (fun z hz => nomatch hz), ⟨by decide, by decide⟩, by decide, kl_L_13, kx_IOOBE, by decide, (by simp only [List.length_cons, List.length_nil]; omega), (by intro j w hj hw; obtain rfl : j = 2 := (by omega); cases Option.some.inj (Option.some.inj hw); exact (by decide : (1 : Nat) ≠ 2)), Or.inr ⟨3, dL_endOf_12, rfl, rfl⟩, ?_⟩
      show J 13 [some (aR 0 0), some (aI i), some (aR 60 0), none] [] μ9 _ _
      refine mj_iconst (pc' := 14) (v := 1) C dL_endOf_13 rfl rfl ?_
      refine mj_iret C dL_endOf_14 (by decide) (by decide) (by decide) ?_
      exact wret_x h1 h0 hs rfl hR9 hF9

set_option maxHeartbeats 1000000 in
set_option maxRecDepth 20000 in
theorem c_L_setBudget {l : Launch} (hst : l.stackTraces = false) (S : jS) (b : Int32) : jMetN l yL_setBudget (.codeWith yL_setBudget cL_setBudget 4 (some FieldType.int) [(0, 9, 12, 15)]) 9 220 1 6 (fun avs μ => avs = [aR 0 0, aI b, aR 60 0] ∧ xR S μ ∧ sW S ∧ 0 < mN μ 60) (fun avs μ r μ' => wret (o_setBudget S b) kC r μ μ') := by
  refine jMetW_of (by decide) kc_yL_setBudget ?_
  intro avs μ J C hav hpre
  obtain ⟨rfl, hR, hW, h6⟩ := hpre
  refine ⟨Nat.le_of_ble_eq_true rfl, ?_⟩
  show J 0 [some (aR 0 0), some (aI b), some (aR 60 0), none] [] μ 0 0
  refine mj_aload_n (pc' := 1) C dL_setBudget_0 rfl rfl ?_
  refine mj_iconst (pc' := 2) (v := 0) C dL_setBudget_1 rfl rfl ?_
  refine mj_aload_n (pc' := 3) C dL_setBudget_2 rfl rfl ?_
  refine mj_iload_n (pc' := 4) C dL_setBudget_3 rfl rfl ?_
  refine mj_callVC_1 (ci := 5) (pc' := 7) C (c_X5_setBudget hst S b) dL_setBudget_4 rfl km_L_76 ki_yX5_setBudget kz_yX5_setBudget kn_X5 kc_yX5_setBudget rfl (by decide) (by decide) ⟨rfl, by decide, by decide, by decide +kernel⟩ ⟨by decide, by decide⟩ (Nat.le_of_ble_eq_true rfl) ⟨by decide, by decide⟩ ⟨rfl, hR, hW⟩ (fun r4 μ4 hq4 hm4 => ?_) (fun E μ9 h9 => ?_)
  · obtain ⟨h1, rfl, hR1, hF1⟩ := hq4
    dsimp only [Option.toList, List.nil_append, List.cons_append]
    refine mj_i2l (pc' := 8) C dL_setBudget_7 rfl ?_
    refine mj_last (pc' := 9) C dL_setBudget_8 rfl rfl (by decide) (by decide) (by first | exact h6 | exact Nat.lt_of_lt_of_le h6 (hm4 60)) (rfl : (0 : Int32) = nI 0) (by decide) ?_
    refine mj_goto (pc' := 15) C dL_setBudget_9 (by decide) ?_
    refine mj_iconst (pc' := 16) (v := 0) C dL_setBudget_15 rfl rfl ?_
    refine mj_iret C dL_setBudget_16 (by decide) (by decide) (by decide) ?_
    exact wret_0 h1 rfl rfl hR1 hF1
  · obtain ⟨h0, rfl, hR9, hF9⟩ := h9
    rcases o_setBudget_c S b with h1 | ⟨h1, hs⟩
    · exact absurd h1 h0
    · rw [h1]
      refine ⟨[], (0, 9, 12, 15), [], 3, 1, rfl, (fun z hz => nomatch hz), ⟨by decide, by decide⟩, by decide, kl_L_15, kx_IAE, by decide, (by simp only [List.length_cons, List.length_nil]; omega), (by intro j w hj hw; obtain rfl : j = 2 := (by omega); cases Option.some.inj (Option.some.inj hw); exact (by decide : (1 : Nat) ≠ 2)), Or.inr ⟨3, dL_setBudget_12, rfl, rfl⟩, ?_⟩
      show J 13 [some (aR 0 0), some (aI b), some (aR 60 0), none] [] μ9 _ _
      refine mj_iconst (pc' := 14) (v := 1) C dL_setBudget_13 rfl rfl ?_
      refine mj_iret C dL_setBudget_14 (by decide) (by decide) (by decide) ?_
      exact wret_x h1 h0 hs rfl hR9 hF9

set_option maxHeartbeats 1000000 in
set_option maxRecDepth 20000 in
theorem c_L_begin {l : Launch} (hst : l.stackTraces = false) (S : jS) : jMetN l yL_begin (.codeWith yL_begin cL_begin 3 (some FieldType.int) [(0, 8, 11, 17)]) 9 220 1 6 (fun avs μ => avs = [aR 0 0, aR 60 0] ∧ xR S μ ∧ sW S ∧ 0 < mN μ 60) (fun avs μ r μ' => wret (o_begin S) kD r μ μ') := by
  refine jMetW_of (by decide) kc_yL_begin ?_
  intro avs μ J C hav hpre
  obtain ⟨rfl, hR, hW, h6⟩ := hpre
  refine ⟨Nat.le_of_ble_eq_true rfl, ?_⟩
  show J 0 [some (aR 0 0), some (aR 60 0), none] [] μ 0 0
  refine mj_aload_n (pc' := 1) C dL_begin_0 rfl rfl ?_
  refine mj_iconst (pc' := 2) (v := 0) C dL_begin_1 rfl rfl ?_
  refine mj_aload_n (pc' := 3) C dL_begin_2 rfl rfl ?_
  refine mj_callVC_0 (ci := 5) (pc' := 6) C (c_X5_begin hst S ) dL_begin_3 rfl km_L_79 ki_yX5_begin kz_yX5_begin kn_X5 kc_yX5_begin rfl (by decide) (by decide) ⟨rfl, by decide, by decide, by decide +kernel⟩ ⟨by decide, by decide⟩ (Nat.le_of_ble_eq_true rfl) ⟨by decide, by decide⟩ ⟨rfl, hR, hW⟩ (fun r3 μ3 hq3 hm3 => ?_) (fun E μ9 h9 => ?_)
  · obtain ⟨h1, rfl, hR1, hF1⟩ := hq3
    dsimp only [Option.toList, List.nil_append, List.cons_append]
    refine mj_i2l (pc' := 7) C dL_begin_6 rfl ?_
    refine mj_last (pc' := 8) C dL_begin_7 rfl rfl (by decide) (by decide) (by first | exact h6 | exact Nat.lt_of_lt_of_le h6 (hm3 60)) (rfl : (0 : Int32) = nI 0) (by decide) ?_
    refine mj_goto (pc' := 14) C dL_begin_8 (by decide) ?_
    refine mj_iconst (pc' := 15) (v := 0) C dL_begin_14 rfl rfl ?_
    refine mj_iret C dL_begin_15 (by decide) (by decide) (by decide) ?_
    exact wret_0 h1 rfl rfl hR1 hF1
  · obtain ⟨h0, rfl, hR9, hF9⟩ := h9
    rcases o_begin_c S with h1 | ⟨h1, hs⟩
    · exact absurd h1 h0
    · rw [h1]
      refine ⟨[], (0, 8, 11, 17), [], 2, 1, rfl, (fun z hz => nomatch hz), ⟨by decide, by decide⟩, by decide, kl_L_17, kx_ISE, by decide, (by simp only [List.length_cons, List.length_nil]; omega), (by intro j w hj hw; obtain rfl : j = 1 := (by omega); cases Option.some.inj (Option.some.inj hw); exact (by decide : (1 : Nat) ≠ 2)), Or.inr ⟨2, dL_begin_11, rfl, rfl⟩, ?_⟩
      show J 12 [some (aR 0 0), some (aR 60 0), none] [] μ9 _ _
      refine mj_iconst (pc' := 13) (v := 1) C dL_begin_12 rfl rfl ?_
      refine mj_iret C dL_begin_13 (by decide) (by decide) (by decide) ?_
      exact wret_x h1 h0 hs rfl hR9 hF9

set_option maxHeartbeats 1000000 in
set_option maxRecDepth 20000 in
theorem c_L_promise {l : Launch} (hst : l.stackTraces = false) (S : jS) (f x : Int32) : jMetN l yL_promise (.codeWith yL_promise cL_promise 5 (some FieldType.int) [(0, 10, 13, 13)]) 18 580 2 12 (fun avs μ => avs = [aR 0 0, aI f, aI x, aR 60 0] ∧ xR S μ ∧ sW S ∧ 0 < mN μ 60) (fun avs μ r μ' => wret (o_promise S f x) kA r μ μ') := by
  refine jMetW_of (by decide) kc_yL_promise ?_
  intro avs μ J C hav hpre
  obtain ⟨rfl, hR, hW, h6⟩ := hpre
  refine ⟨Nat.le_of_ble_eq_true rfl, ?_⟩
  show J 0 [some (aR 0 0), some (aI f), some (aI x), some (aR 60 0), none] [] μ 0 0
  refine mj_aload_n (pc' := 1) C dL_promise_0 rfl rfl ?_
  refine mj_iconst (pc' := 2) (v := 0) C dL_promise_1 rfl rfl ?_
  refine mj_aload_n (pc' := 3) C dL_promise_2 rfl rfl ?_
  refine mj_iload_n (pc' := 4) C dL_promise_3 rfl rfl ?_
  refine mj_iload_n (pc' := 5) C dL_promise_4 rfl rfl ?_
  refine mj_callVC_2 (ci := 5) (pc' := 8) C (c_X5_promise hst S f x) dL_promise_5 rfl km_L_83 ki_yX5_promise kz_yX5_promise kn_X5 kc_yX5_promise rfl (by decide) (by decide) ⟨rfl, by decide, by decide, by decide +kernel⟩ ⟨by decide, by decide⟩ (Nat.le_of_ble_eq_true rfl) ⟨by decide, by decide⟩ ⟨rfl, hR, hW⟩ (fun r5 μ5 hq5 hm5 => ?_) (fun E μ9 h9 => ?_)
  · obtain ⟨h1, rfl, hR1, hF1⟩ := hq5
    dsimp only [Option.toList, List.nil_append, List.cons_append]
    refine mj_i2l (pc' := 9) C dL_promise_8 rfl ?_
    refine mj_last (pc' := 10) C dL_promise_9 rfl rfl (by decide) (by decide) (by first | exact h6 | exact Nat.lt_of_lt_of_le h6 (hm5 60)) (rfl : (0 : Int32) = nI 0) (by decide) ?_
    refine mj_goto (pc' := 17) C dL_promise_10 (by decide) ?_
    refine mj_iconst (pc' := 18) (v := 0) C dL_promise_17 rfl rfl ?_
    refine mj_iret C dL_promise_18 (by decide) (by decide) (by decide) ?_
    exact wret_0 h1 rfl rfl hR1 hF1
  · obtain ⟨h0, rfl, hR9, hF9⟩ := h9
    rcases o_promise_c S f x with h1 | ⟨h1, hs⟩
    · exact absurd h1 h0
    · rw [h1]
      refine ⟨[], (0, 10, 13, 13), [], 4, 2, rfl, (fun z hz => nomatch hz), ⟨by decide, by decide⟩, by decide, kl_L_13, kx_IOOBE, by decide, (by simp only [List.length_cons, List.length_nil]; omega), (by intro j w hj hw; obtain rfl : j = 3 := (by omega); cases Option.some.inj (Option.some.inj hw); exact (by decide : (1 : Nat) ≠ 2)), Or.inl ⟨dL_promise_13, rfl⟩, ?_⟩
      show J 15 [some (aR 0 0), some (aI f), some (aI x), some (aR 60 0), none] [] μ9 _ _
      refine mj_iconst (pc' := 16) (v := 1) C dL_promise_15 rfl rfl ?_
      refine mj_iret C dL_promise_16 (by decide) (by decide) (by decide) ?_
      exact wret_x h1 h0 hs rfl hR9 hF9
