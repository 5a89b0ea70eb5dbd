/-! OVERDUE AND BEGIN -/
/-- what is written without leaving what is well formed -/
theorem sW_x {S : jS} (h : sW S) {a i : Nat} {v : Int32} (ha : a = 0 ∨ a = 6 ∨ a = 8 ∨ a = 13 ∨ a = 14 ∨ a = 15 ∨ (a = 17 ∧ i ≠ 2)) : sW (su S a i v) := by
  obtain ⟨h1, h2, h3, h4, h5⟩ := h
  have e : ∀ x y, ¬ (x = a ∧ y = i) → sf (su S a i v) x y = sf S x y := fun x y q => by rw [sf_su, if_neg q]
  refine ⟨h1, fun c hc => ?_, fun j hj => ?_, fun j hj => ?_, ?_⟩
  · rw [e 1 c (by omega), e 2 c (by omega), e 3 c (by omega), e 4 c (by omega), e 5 c (by omega)]; exact h2 c hc
  · rw [e 9 j (by omega), e 10 j (by omega), e 11 j (by omega), e 12 j (by omega), e 16 j (by omega)]; exact h3 j hj
  · rw [e 7 j (by omega)]; exact h4 j hj
  · rw [e 17 2 (by omega)]; exact h5
theorem sW_now {S : jS} (h : sW S) {u : Nat} (hu : u ≤ 900) : sW (su S 17 2 (nI u)) := by
  obtain ⟨h1, h2, h3, h4, h5⟩ := h
  have e : ∀ x y, ¬ (x = 17 ∧ y = 2) → sf (su S 17 2 (nI u)) x y = sf S x y := fun x y q => by rw [sf_su, if_neg q]
  refine ⟨h1, fun c hc => ?_, fun j hj => ?_, fun j hj => ?_, u, hu, by simp [sf_su]⟩
  · rw [e 1 c (by omega), e 2 c (by omega), e 3 c (by omega), e 4 c (by omega), e 5 c (by omega)]; exact h2 c hc
  · rw [e 9 j (by omega), e 10 j (by omega), e 11 j (by omega), e 12 j (by omega), e 16 j (by omega)]; exact h3 j hj
  · rw [e 7 j (by omega)]; exact h4 j hj
theorem nys_n (S : jS) (a : Nat) : ∀ i, sn (nys S i).2 a = sn S a
  | 0 => rfl
  | i + 1 => nys_n S a i
theorem nys_f (S : jS) {a : Nat} (ha : a ≠ 15) (x : Nat) : ∀ i, sf (nys S i).2 a x = sf S a x
  | 0 => rfl
  | i + 1 => by
    show sf (su (nys S i).2 15 i (ny S i)) a x = _
    rw [sf_su, if_neg (fun q => ha q.1)]
    exact nys_f S ha x i
theorem nys_15 (S : jS) (x : Nat) : ∀ i, sf (nys S i).2 15 x = if x < i then ny S x else sf S 15 x
  | 0 => rfl
  | i + 1 => by
    show sf (su (nys S i).2 15 i (ny S i)) 15 x = _
    rw [sf_su, nys_15 S x i]
    by_cases e : x = i
    · subst e
      rw [if_pos ⟨rfl, rfl⟩, if_pos (by omega)]
    · rw [if_neg (fun q => e q.2)]
      by_cases f : x < i
      · rw [if_pos f, if_pos (by omega)]
      · rw [if_neg f, if_neg (by omega)]
theorem nys_W {S : jS} (h : sW S) : ∀ i, sW (nys S i).2
  | 0 => h
  | i + 1 => sW_x (nys_W h i) (by omega)
theorem nys_ny (S : jS) (i : Nat) : ny (nys S i).2 i = ny S i := by
  unfold ny canR fF
  rw [nys_15, if_neg (Nat.lt_irrefl i), nys_f S (by decide), nys_f S (by decide), nys_f S (by decide), nys_f S (by decide), nys_f S (by decide)]
theorem su_id (S : jS) (a i : Nat) : su S a i (sf S a i) = S := by
  unfold su
  refine Prod.ext rfl (funext fun x => funext fun y => ?_)
  show (if x = a ∧ y = i then sf S a i else S.2 x y) = S.2 x y
  split
  · rename_i h
    rw [h.1, h.2]
    rfl
  · rfl
theorem nys_id {S : jS} {i : Nat} (h : sf S 15 i ≠ 0) : (nys S (i + 1)).2 = (nys S i).2 ∧ (nys S (i + 1)).1 = (nys S i).1 := by
  refine ⟨?_, ?_⟩
  · show su (nys S i).2 15 i (ny S i) = _
    have e : ny S i = sf (nys S i).2 15 i := by
      rw [nys_15, if_neg (Nat.lt_irrefl i)]
      unfold ny
      rw [if_neg h]
    rw [e]
    exact su_id _ _ _
  · show (nys S i).1 + (if _ then 1 else 0) = _
    rw [if_neg (fun q => h q.1)]
    rfl
theorem nys_le (S : jS) : ∀ i, (nys S i).1 ≤ i
  | 0 => Nat.le_refl 0
  | i + 1 => by
    show (nys S i).1 + (if _ then 1 else 0) ≤ _
    have := nys_le S i
    split <;> omega

set_option maxRecDepth 20000 in
theorem c_X5_overdue {l : Launch} (hst : l.stackTraces = false) (S : jS) : jMet l yX5_overdue cX5_overdue 4 (some FieldType.int) 8 180 0 0 (fun avs μ => avs = [aR 0 0] ∧ xR S μ ∧ sW S) (fun avs μ r μ' => r = some (aI (nI (odue S (sn S 0)))) ∧ μ' = μ) (fun avs μ E μ' => False) := by
  refine jMet_of hst (by decide) ?_
  intro avs μ J C hav hpre
  obtain ⟨rfl, hR, hW⟩ := hpre
  refine ⟨Nat.le_of_ble_eq_true rfl, ?_⟩
  show J 0 [some (aR 0 0), none, none, none] [] μ 0 0
  have hW0 := hW.1.1
  have hW1 := hW.1.2
  refine mj_iconst (pc' := 1) (v := 0) C dX5_overdue_0 rfl rfl ?_
  refine mj_istore_n_1 (pc' := 2) C dX5_overdue_1 rfl (by decide) rfl ?_
  refine mj_iconst (pc' := 3) (v := 0) C dX5_overdue_2 rfl rfl ?_
  refine mj_istore_n_2 (pc' := 4) C dX5_overdue_3 rfl (by decide) rfl ?_
  have loop : ∀ (d : Nat) (i : Nat) (x3 : Option jV), i + d = sn S 0 → J 4 [some (aR 0 0), some (aI (nI (odue S i))), some (aI (nI i)), x3] [] μ 0 0 := by
    intro d
    induction d with
    | zero =>
      intro i x3 hd
      obtain rfl : i = sn S 0 := by omega
      refine mj_iload_n (pc' := 5) C dX5_overdue_4 rfl rfl ?_
      refine mj_aload_n (pc' := 6) C dX5_overdue_5 rfl rfl ?_
      refine mj_getV (pc' := 9) C dX5_overdue_6 rfl (ci := 5) (f := 4) rfl (by decide) (by decide) (fun _ => rfl) (by decide) kf_X5_146 hR.B.l0 hR.fc ?_
      refine mj_icmp_ge (tgt := 54) (pc' := 12) C dX5_overdue_9 (by decide) rfl (fun _ => ?_) (fun h9 => absurd (Int32.le_refl _) h9)
      refine mj_iload_n (pc' := 55) C dX5_overdue_54 rfl rfl ?_
      refine mj_iret C dX5_overdue_55 (by decide) (by decide) (by decide) ?_
      exact ⟨rfl, rfl⟩
    | succ d ih =>
      intro i x3 hd
      have hlt : i < sn S 0 := by omega
      obtain ⟨u, hu, eu, pu⟩ := hR.flw hlt
      have efL : fL S i = u := by unfold fL; rw [eu]; exact ix_nI (by omega)
      refine mj_iload_n (pc' := 5) C dX5_overdue_4 rfl rfl ?_
      refine mj_aload_n (pc' := 6) C dX5_overdue_5 rfl rfl ?_
      refine mj_getV (pc' := 9) C dX5_overdue_6 rfl (ci := 5) (f := 4) rfl (by decide) (by decide) (fun _ => rfl) (by decide) kf_X5_146 hR.B.l0 hR.fc ?_
      refine mj_icmp_ge (tgt := 54) (pc' := 12) C dX5_overdue_9 (by decide) rfl (fun h9 => absurd h9 (nI_ge hlt (by omega))) (fun _ => ?_)
      refine mj_aload_n (pc' := 13) C dX5_overdue_12 rfl rfl ?_
      refine mj_getR (pc' := 16) C dX5_overdue_13 rfl (ci := 5) (f := 2) rfl (by decide) (by decide) (fun _ => rfl) (by decide) kf_X5_21 hR.B.l0 hR.B.p02 ?_
      refine mj_iload_n (pc' := 17) C dX5_overdue_16 rfl rfl ?_
      refine mj_aald (pc' := 18) C dX5_overdue_17 rfl rfl (by decide) rfl (fun _ _ => rfl) (by decide) (by decide) hR.B.l3 rfl (by first | assumption | omega) (hR.B.p3 (by rw [hR.n12]; first | assumption | omega)) ?_
      refine mj_astore_n_3 (pc' := 19) C dX5_overdue_18 rfl (by decide) rfl ?_
      refine mj_aload_n (pc' := 20) C dX5_overdue_19 rfl rfl ?_
      refine mj_getV (pc' := 23) C dX5_overdue_20 rfl (ci := 4) (f := 6) rfl (by decide) (by decide) (fun _ => rfl) (by decide) kf_X5_203 (hR.l12 (by first | assumption | omega)) (hR.fst (by first | assumption | omega)) ?_
      refine mj_if_ne (tgt := 48) (pc' := 26) C dX5_overdue_23 (by decide) rfl (fun h23 => ?_) (fun h23 => ?_)
      · have hno : ¬ (sf S 15 i = 0 ∧ sf S 14 i + sf S 8 (fL S i) < sf S 17 2) := fun h => h23 h.1
        have hc : nI (odue S (i + 1)) = nI (odue S i) := by
          show nI (odue S i + (if _ then 1 else 0)) = _
          rw [if_neg hno, Nat.add_zero]
        refine mj_iinc_2 (pc' := 51) (w := 1) C dX5_overdue_48 rfl rfl (by decide) rfl ?_
        refine mj_goto (pc' := 4) C dX5_overdue_51 (by decide) ?_
        rw [← hc, nI_1]
        exact ih (i + 1) _ (by omega)
      · have hs := h23
        refine mj_aload_n (pc' := 27) C dX5_overdue_26 rfl rfl ?_
        refine mj_getV (pc' := 30) C dX5_overdue_27 rfl (ci := 5) (f := 5) rfl (by decide) (by decide) (fun _ => rfl) (by decide) kf_X5_44 hR.B.l0 hR.now ?_
        refine mj_aload_n (pc' := 31) C dX5_overdue_30 rfl rfl ?_
        refine mj_getV (pc' := 34) C dX5_overdue_31 rfl (ci := 4) (f := 5) rfl (by decide) (by decide) (fun _ => rfl) (by decide) kf_X5_176 (hR.l12 (by first | assumption | omega)) (hR.frd (by first | assumption | omega)) ?_
        refine mj_aload_n (pc' := 35) C dX5_overdue_34 rfl rfl ?_
        refine mj_getR (pc' := 38) C dX5_overdue_35 rfl (ci := 4) (f := 1) rfl (by decide) (by decide) (fun _ => rfl) (by decide) kf_X5_170 (hR.l12 (by first | assumption | omega)) pu ?_
        refine mj_getV (pc' := 41) C dX5_overdue_38 rfl (ci := 2) (f := 2) rfl (by decide) (by decide) (fun _ => rfl) (by decide) kf_X5_118 (hR.B.l10 (by first | assumption | omega)) (hR.lr (by first | assumption | omega)) ?_
        refine mj_iadd (pc' := 42) C dX5_overdue_41 rfl ?_
        refine mj_icmp_le (tgt := 48) (pc' := 45) C dX5_overdue_42 (by decide) rfl (fun h42 => ?_) (fun h42 => ?_)
        · have hno : ¬ (sf S 15 i = 0 ∧ sf S 14 i + sf S 8 (fL S i) < sf S 17 2) := fun h => absurd h42 (Int32.not_le.mpr (by rw [← efL]; exact h.2))
          have hc : nI (odue S (i + 1)) = nI (odue S i) := by
            show nI (odue S i + (if _ then 1 else 0)) = _
            rw [if_neg hno, Nat.add_zero]
          refine mj_iinc_2 (pc' := 51) (w := 1) C dX5_overdue_48 rfl rfl (by decide) rfl ?_
          refine mj_goto (pc' := 4) C dX5_overdue_51 (by decide) ?_
          rw [← hc, nI_1]
          exact ih (i + 1) _ (by omega)
        · have h42 := Int32.not_le.mp h42
          have hc : nI (odue S (i + 1)) = nI (odue S i) + 1 := by
            show nI (odue S i + (if _ then 1 else 0)) = _
            rw [if_pos ⟨hs, by rw [efL]; exact h42⟩, nI_1]
          refine mj_iinc_1 (pc' := 48) (w := 1) C dX5_overdue_45 rfl rfl (by decide) rfl ?_
          refine mj_iinc_2 (pc' := 51) (w := 1) C dX5_overdue_48 rfl rfl (by decide) rfl ?_
          refine mj_goto (pc' := 4) C dX5_overdue_51 (by decide) ?_
          rw [← hc, nI_1]
          exact ih (i + 1) _ (by omega)
  exact loop (sn S 0) 0 none (by omega)

set_option maxRecDepth 20000 in
theorem c_X5_begin {l : Launch} (hst : l.stackTraces = false) (S : jS) : jMet l yX5_begin cX5_begin 4 (some FieldType.int) 8 180 1 6 (fun avs μ => avs = [aR 0 0] ∧ xR S μ ∧ sW S) (fun avs μ r μ' => (o_begin S).1 = 0 ∧ r = some (aI (o_begin S).2.1) ∧ xR (o_begin S).2.2 μ' ∧ xF μ μ') (fun avs μ E μ' => (o_begin S).1 ≠ 0 ∧ E = exn (o_begin S).1 ∧ xR S μ' ∧ xF μ μ') := by
  refine jMet_of hst (by decide) ?_
  intro avs μ J C hav hpre
  obtain ⟨rfl, hR, hW⟩ := hpre
  refine ⟨Nat.le_of_ble_eq_true rfl, ?_⟩
  show J 0 [some (aR 0 0), none, none, none] [] μ 0 0
  have hW0 := hW.1.1
  have hW1 := hW.1.2
  obtain ⟨u, hu, eu⟩ := hW.2.2.2.2
  obtain ⟨S1, e1⟩ : ∃ S1, S1 = su (su S 17 2 (sf S 17 2 + 1)) 17 1 (sf S 17 0) := ⟨_, rfl⟩
  have hS0 : sn S1 0 = sn S 0 := by rw [e1]; rfl
  refine mj_aload_n (pc' := 1) C dX5_begin_0 rfl rfl ?_
  refine mj_getV (pc' := 4) C dX5_begin_1 rfl (ci := 5) (f := 5) rfl (by decide) (by decide) (fun _ => rfl) (by decide) kf_X5_44 hR.B.l0 hR.now ?_
  refine mj_sipush (pc' := 7) (v := 900) C dX5_begin_4 rfl rfl ?_
  refine mj_icmp_lt (tgt := 20) (pc' := 10) C dX5_begin_7 (by decide) rfl (fun h7 => ?_) (fun h7 => ?_)
  · have h900 : ¬ sf S 17 2 = 900 := fun h => absurd h7 (by rw [h]; decide)
    have hu9 : u < 900 := by
      by_cases q : u < 900
      · exact q
      · exact absurd (by rw [eu, show u = 900 by omega]; rfl) h900
    have hW9 : sW S1 := by rw [e1, eu, nI_1]; exact sW_x (sW_now hW (by omega)) (by omega)
    have eo : o_begin S = (0, nI (nys S1 (sn S1 0)).1, (nys S1 (sn S1 0)).2) := by unfold o_begin; rw [if_neg h900, e1]; rfl
    refine mj_aload_n (pc' := 21) C dX5_begin_20 rfl rfl ?_
    refine mj_dup (pc' := 22) C dX5_begin_21 rfl rfl ?_
    refine mj_getV (pc' := 25) C dX5_begin_22 rfl (ci := 5) (f := 5) rfl (by decide) (by decide) (fun _ => rfl) (by decide) kf_X5_44 hR.B.l0 hR.now ?_
    refine mj_iconst (pc' := 26) (v := 1) C dX5_begin_25 rfl rfl ?_
    refine mj_iadd (pc' := 27) C dX5_begin_26 rfl ?_
    refine mj_putI (pc' := 30) C dX5_begin_27 rfl (ci := 5) (f := 5) rfl (by decide) (by decide) rfl (fun _ _ => rfl) (by decide) kf_X5_44 rfl rfl hR.B.l0 ?_
    refine mj_aload_n (pc' := 31) C dX5_begin_30 rfl rfl ?_
    refine mj_aload_n (pc' := 32) C dX5_begin_31 rfl rfl ?_
    refine mj_getV (pc' := 35) C dX5_begin_32 rfl (ci := 5) (f := 6) rfl (by decide) (by decide) (fun _ => rfl) (by decide) kf_X5_32 hR.B.l0 hR.bud ?_
    refine mj_putI (pc' := 38) C dX5_begin_35 rfl (ci := 5) (f := 7) rfl (by decide) (by decide) rfl (fun _ _ => rfl) (by decide) kf_X5_36 rfl rfl hR.B.l0 ?_
    refine mj_iconst (pc' := 39) (v := 0) C dX5_begin_38 rfl rfl ?_
    refine mj_istore_n_1 (pc' := 40) C dX5_begin_39 rfl (by decide) rfl ?_
    refine mj_iconst (pc' := 41) (v := 0) C dX5_begin_40 rfl rfl ?_
    refine mj_istore_n_2 (pc' := 42) C dX5_begin_41 rfl (by decide) rfl ?_
    have loop : ∀ (d : Nat) (i : Nat) (x3 : Option jV) (μ1 : jM), i + d = sn S 0 → xR (nys S1 i).2 μ1 → xF μ μ1 → J 42 [some (aR 0 0), some (aI (nI (nys S1 i).1)), some (aI (nI i)), x3] [] μ1 0 0 := by
      intro d
      induction d with
      | zero =>
        intro i x3 μ1 hd hR1 hF
        have hn : sn (nys S1 i).2 0 = sn S 0 := (nys_n S1 0 i).trans hS0
        obtain rfl : i = sn S 0 := by omega
        refine mj_iload_n (pc' := 43) C dX5_begin_42 rfl rfl ?_
        refine mj_aload_n (pc' := 44) C dX5_begin_43 rfl rfl ?_
        refine mj_getV (pc' := 47) C dX5_begin_44 rfl (ci := 5) (f := 4) rfl (by decide) (by decide) (fun _ => rfl) (by decide) kf_X5_146 hR1.B.l0 hR1.fc ?_
        refine mj_icmp_ge (tgt := 95) (pc' := 50) C dX5_begin_47 (by decide) rfl (fun _ => ?_) (fun h9 => absurd (by rw [hn]; exact Int32.le_refl _) h9)
        refine mj_iload_n (pc' := 96) C dX5_begin_95 rfl rfl ?_
        refine mj_iret C dX5_begin_96 (by decide) (by decide) (by decide) ?_
        exact ret_of (o := o_begin S) (eo.trans (by rw [hS0])) hR1 hF
      | succ d ih =>
        intro i x3 μ1 hd hR1 hF
        have hn : sn (nys S1 i).2 0 = sn S 0 := (nys_n S1 0 i).trans hS0
        have hlt : i < sn S 0 := by omega
        have hlt1 : i < sn (nys S1 i).2 0 := by omega
        have h15 : sf (nys S1 i).2 15 i = sf S1 15 i := by rw [nys_15, if_neg (Nat.lt_irrefl i)]
        refine mj_iload_n (pc' := 43) C dX5_begin_42 rfl rfl ?_
        refine mj_aload_n (pc' := 44) C dX5_begin_43 rfl rfl ?_
        refine mj_getV (pc' := 47) C dX5_begin_44 rfl (ci := 5) (f := 4) rfl (by decide) (by decide) (fun _ => rfl) (by decide) kf_X5_146 hR1.B.l0 hR1.fc ?_
        refine mj_icmp_ge (tgt := 95) (pc' := 50) C dX5_begin_47 (by decide) rfl (fun h9 => absurd h9 (by rw [hn]; exact nI_ge hlt (by omega))) (fun _ => ?_)
        refine mj_aload_n (pc' := 51) C dX5_begin_50 rfl rfl ?_
        refine mj_getR (pc' := 54) C dX5_begin_51 rfl (ci := 5) (f := 2) rfl (by decide) (by decide) (fun _ => rfl) (by decide) kf_X5_21 hR1.B.l0 hR1.B.p02 ?_
        refine mj_iload_n (pc' := 55) C dX5_begin_54 rfl rfl ?_
        refine mj_aald (pc' := 56) C dX5_begin_55 rfl rfl (by decide) rfl (fun _ _ => rfl) (by decide) (by decide) hR1.B.l3 rfl (by first | assumption | omega) (hR1.B.p3 (by rw [hR1.n12]; first | assumption | omega)) ?_
        refine mj_astore_n_3 (pc' := 57) C dX5_begin_56 rfl (by decide) rfl ?_
        refine mj_aload_n (pc' := 58) C dX5_begin_57 rfl rfl ?_
        refine mj_getV (pc' := 61) C dX5_begin_58 rfl (ci := 4) (f := 6) rfl (by decide) (by decide) (fun _ => rfl) (by decide) kf_X5_203 (hR1.l12 (by first | assumption | omega)) (hR1.fst (by first | assumption | omega)) ?_
        refine mj_if_ne (tgt := 89) (pc' := 64) C dX5_begin_61 (by decide) rfl (fun h61 => ?_) (fun h61 => ?_)
        · have h61 : sf S1 15 i ≠ 0 := by rw [← h15]; exact h61
          have hR2 : xR (nys S1 (i + 1)).2 μ1 := by rw [(nys_id h61).1]; exact hR1
          have hF2 := hF
          have hc2 : nI (nys S1 i).1 = nI (nys S1 (i + 1)).1 := by rw [(nys_id h61).2]
          refine mj_iinc_2 (pc' := 92) (w := 1) C dX5_begin_89 rfl rfl (by decide) rfl ?_
          refine mj_goto (pc' := 42) C dX5_begin_92 (by decide) ?_
          rw [hc2, nI_1]
          exact ih (i + 1) _ _ (by omega) hR2 hF2
        · have hst9 : sf (nys S1 i).2 15 i = 0 := h61
          have hs1 : sf S1 15 i = 0 := by rw [← h15]; exact h61
          refine mj_aload_n (pc' := 65) C dX5_begin_64 rfl rfl ?_
          refine mj_aload_n (pc' := 66) C dX5_begin_65 rfl rfl ?_
          refine mj_aload_n (pc' := 67) C dX5_begin_66 rfl rfl ?_
          refine mj_callVN_1 (ci := 5) (pc' := 70) C (c_X5_stateInNewYear hst (nys S1 i).2 i) dX5_begin_67 rfl km_X5_216 ki_yX5_stateInNewYear kz_yX5_stateInNewYear kn_X5 kc_yX5_stateInNewYear rfl (by decide) (by decide) ⟨rfl, by decide, by decide, by decide +kernel⟩ ⟨by decide, by decide⟩ (Nat.le_of_ble_eq_true rfl) ⟨by decide, by decide⟩ ⟨rfl, hR1, nys_W hW9 i, hlt1, hst9⟩ (fun r67 μ67 hq67 hm67 => ?_) (fun _ _ h9 => h9)
          obtain ⟨rfl, hq9⟩ := hq67
          have hq9 := hq9.symm
          subst hq9
          dsimp only [Option.toList, List.nil_append, List.cons_append]
          rw [nys_ny]
          refine mj_putI (pc' := 73) C dX5_begin_70 rfl (ci := 4) (f := 6) rfl (by decide) (by decide) rfl (fun _ _ => rfl) (by decide) kf_X5_203 rfl rfl (hR1.l12 (by first | assumption | omega)) ?_
          refine mj_iload_n (pc' := 74) C dX5_begin_73 rfl rfl ?_
          refine mj_aload_n (pc' := 75) C dX5_begin_74 rfl rfl ?_
          have hR2 : xR (nys S1 (i + 1)).2 (sI _ 12 i 6 (ny S1 i)) := xR_file hR1 (by omega)
          refine mj_getV (pc' := 78) C dX5_begin_75 rfl (ci := 4) (f := 6) rfl (by decide) (by decide) (fun _ => rfl) (by decide) kf_X5_203 (hR1.l12 (by first | assumption | omega)) (mI_sI_s _ _ _ _ _) ?_
          refine mj_iconst (pc' := 79) (v := 2) C dX5_begin_78 rfl rfl ?_
          refine mj_icmp_ne (tgt := 86) (pc' := 82) C dX5_begin_79 (by decide) rfl (fun h79 => ?_) (fun h79 => ?_)
          · have hc : (nys S1 (i + 1)).1 = (nys S1 i).1 := by show (nys S1 i).1 + (if _ then 1 else 0) = _; rw [if_neg (fun q => h79 q.2)]; rfl
            have hF2 := xF_sI (a := 12) (b := i) (c := 6) (v := ny S1 i) (by decide) hF
            have hc2 : nI (nys S1 i).1 + 0 = nI (nys S1 (i + 1)).1 := by rw [hc]; exact Int32.add_zero _
            refine mj_iconst (pc' := 87) (v := 0) C dX5_begin_86 rfl rfl ?_
            refine mj_iadd (pc' := 88) C dX5_begin_87 rfl ?_
            refine mj_istore_n_1 (pc' := 89) C dX5_begin_88 rfl (by decide) rfl ?_
            refine mj_iinc_2 (pc' := 92) (w := 1) C dX5_begin_89 rfl rfl (by decide) rfl ?_
            refine mj_goto (pc' := 42) C dX5_begin_92 (by decide) ?_
            rw [hc2, nI_1]
            exact ih (i + 1) _ _ (by omega) hR2 hF2
          · have hc : (nys S1 (i + 1)).1 = (nys S1 i).1 + 1 := by show (nys S1 i).1 + (if _ then 1 else 0) = _; rw [if_pos ⟨hs1, h79⟩]
            have hF2 := xF_sI (a := 12) (b := i) (c := 6) (v := ny S1 i) (by decide) hF
            have hc2 : nI (nys S1 i).1 + 1 = nI (nys S1 (i + 1)).1 := by rw [hc, nI_1]
            refine mj_iconst (pc' := 83) (v := 1) C dX5_begin_82 rfl rfl ?_
            refine mj_goto (pc' := 87) C dX5_begin_83 (by decide) ?_
            refine mj_iadd (pc' := 88) C dX5_begin_87 rfl ?_
            refine mj_istore_n_1 (pc' := 89) C dX5_begin_88 rfl (by decide) rfl ?_
            refine mj_iinc_2 (pc' := 92) (w := 1) C dX5_begin_89 rfl rfl (by decide) rfl ?_
            refine mj_goto (pc' := 42) C dX5_begin_92 (by decide) ?_
            rw [hc2, nI_1]
            exact ih (i + 1) _ _ (by omega) hR2 hF2
    exact loop (sn S 0) 0 none _ (by omega) (by rw [e1]; exact xR_vault (xR_vault hR (a := 2) (f := 5) (by omega)) (by omega)) (xF_sI (by decide) (xF_sI (by decide) xF.rf))
  · have h900 : sf S 17 2 = 900 := by
      by_cases q : u < 900
      · exact absurd (by rw [eu]; exact nI_lt (b := 900) q (by decide)) h7
      · rw [eu, show u = 900 by omega]; rfl
    refine mj_throw C (text := "the year of now is the last one") (names := ["java/lang/RuntimeException", "java/lang/Exception"]) dX5_begin_10 dX5_begin_13 dX5_begin_14 dX5_begin_16 dX5_begin_19 rfl rfl kl_X5_64 kn_ISE thrw_3 thrk_3 (by decide) (by decide) (by decide) (by decide) (by decide) (by decide) (by decide) ?_
    exact thr_of (o := o_begin S) (c := 3) (by unfold o_begin; rw [if_pos h900]) (by decide) hR xF.rf

theorem ny_1 {S : jS} {i : Nat} (hs : sf S 15 i = 0) (he : sf S 13 i < sf S 17 2) (hh : sf S 16 i = 0) : ny S i = 1 := by
  unfold ny
  rw [if_pos hs, if_pos ⟨he, hh⟩]
theorem ny_2 {S : jS} {i : Nat} (hs : sf S 15 i = 0) (hn : ¬ (sf S 13 i < sf S 17 2 ∧ sf S 16 i = 0)) (hc : ¬ canR S (fF S i)) : ny S i = 2 := by
  unfold ny
  rw [if_pos hs, if_neg hn, if_neg hc]
theorem ny_0 {S : jS} {i : Nat} (hs : sf S 15 i = 0) (hn : ¬ (sf S 13 i < sf S 17 2 ∧ sf S 16 i = 0)) (hc : canR S (fF S i)) : ny S i = 0 := by
  unfold ny
  rw [if_pos hs, if_neg hn, if_pos hc]
theorem nys_k {S : jS} {i : Nat} (h : ny (nys S i).2 i = sf (nys S i).2 15 i) : (nys S (i + 1)).2 = (nys S i).2 := by
  show su (nys S i).2 15 i (ny S i) = _
  rw [← nys_ny S i, h]
  exact su_id _ _ _
theorem nys_c {S : jS} {i : Nat} (h : ny S i ≠ 2) : (nys S (i + 1)).1 = (nys S i).1 := by
  show (nys S i).1 + (if _ then 1 else 0) = _
  rw [if_neg (fun q => h q.2)]
  rfl
