/-! THE REFERENCE: FILES THAT ARE MOVED AHEAD -/
def dv (S : jS) (Q : Nat → Bool) (n : Nat) : Int32 := match nd S Q n with
  | none => -1
  | some i => nI i
theorem nd_u (S : jS) (Q : Nat → Bool) (i : Nat) : nd S Q (i + 1) = match nd S Q i with
    | none => if Q i = true then some i else none
    | some j => if Q i = true ∧ sf S 0 (fF S i) < sf S 0 (fF S j) then some i else some j := rfl
theorem nd_a {S : jS} {Q : Nat → Bool} {i : Nat} (h : ¬ Q i = true) : nd S Q (i + 1) = nd S Q i := by
  rw [nd_u]
  cases nd S Q i with
  | none => exact if_neg h
  | some k => exact if_neg (fun q => h q.1)
theorem nd_b {S : jS} {Q : Nat → Bool} {i : Nat} (h : Q i = true) (h2 : nd S Q i = none) : nd S Q (i + 1) = some i := by
  rw [nd_u, h2]
  exact if_pos h
theorem nd_c {S : jS} {Q : Nat → Bool} {i k : Nat} (h2 : nd S Q i = some k) (h : ¬ sf S 0 (fF S i) < sf S 0 (fF S k)) : nd S Q (i + 1) = nd S Q i := by
  rw [nd_u, h2]
  exact if_neg (fun q => h q.2)
theorem nd_d {S : jS} {Q : Nat → Bool} {i k : Nat} (h1 : Q i = true) (h2 : nd S Q i = some k) (h : sf S 0 (fF S i) < sf S 0 (fF S k)) : nd S Q (i + 1) = some i := by
  rw [nd_u, h2]
  exact if_pos ⟨h1, h⟩
theorem cnt_rm {Q : Nat → Bool} {i : Nat} (hi : Q i = true) : ∀ n, cnt (fun x => Q x && !decide (x = i)) n + (if i < n then 1 else 0) = cnt Q n
  | 0 => rfl
  | n + 1 => by
    have ih := cnt_rm hi n
    show cnt _ n + (if (Q n && !decide (n = i)) = true then 1 else 0) + _ = cnt Q n + (if Q n = true then 1 else 0)
    by_cases e : n = i
    · subst e
      rw [if_neg (Nat.lt_irrefl n)] at ih
      simp only [decide_true, Bool.not_true, Bool.and_false, hi, if_true, Nat.lt_succ_self, Bool.false_eq_true, if_false]
      omega
    · have e2 : (i < n + 1) = (i < n) := by
        apply propext
        omega
      have e3 : (Q n && !decide (n = i)) = Q n := by simp [e]
      rw [e3]
      simp only [e2]
      omega
theorem cnt_0 {Q : Nat → Bool} : ∀ n, cnt Q n = 0 → ∀ i, i < n → Q i = false
  | 0, _, i, h => absurd h (Nat.not_lt_zero i)
  | n + 1, h, i, hi => by
    have h' : cnt Q n + (if Q n = true then 1 else 0) = 0 := h
    by_cases e : i = n
    · subst e
      refine Bool.eq_false_iff.mpr (fun q => ?_)
      rw [if_pos q] at h'
      omega
    · exact cnt_0 n (by omega) i (by omega)
theorem cnt_le (Q : Nat → Bool) : ∀ n, cnt Q n ≤ n
  | 0 => Nat.le_refl 0
  | n + 1 => by
    have := cnt_le Q n
    show cnt Q n + (if Q n = true then 1 else 0) ≤ n + 1
    split <;> omega
theorem tk_f {S : jS} {i j a y : Nat} (h : ¬ ((a = 12 ∨ a = 9) ∧ y = i)) (h2 : a ≠ 17) : sf (tk S i j) a y = sf S a y := by
  unfold tk
  rw [sf_su, if_neg (by omega), sf_su, if_neg (by omega), sf_su, if_neg (by omega)]
theorem tk_c {S : jS} {i j : Nat} : cK S (tk S i j) := ((cK_su (by omega)).tr (cK_su (by omega))).tr (cK_su (by omega))
theorem hv_tk {S : jS} {i j x : Nat} (hx : x ≠ i) : hv (tk S i j) x = hv S x := by
  have hF : fF (tk S i j) x = fF S x := by unfold fF; rw [tk_f (by omega) (by omega)]
  have hL : fL (tk S i j) x = fL S x := by unfold fL; rw [tk_f (by omega) (by omega)]
  have h1 : hv1 (tk S i j) x = hv1 S x := by
    funext t y
    unfold hv1 safe
    rw [hF, hL, best_cK tk_c, alg_cK tk_c, tk_f (a := 12) (by omega) (by omega), tk_f (a := 7) (by omega) (by omega), tk_f (a := 0) (by omega) (by omega), tk_f (a := 13) (by omega) (by omega), tk_f (a := 16) (by omega) (by omega)]
  unfold hv
  rw [h1, tk_f (a := 15) (by omega) (by omega)]

set_option maxRecDepth 20000 in
theorem c_X6_nextDue {l : Launch} (hst : l.stackTraces = false) (S : jS) (Q : Nat → Bool) : jMet l yX6_nextDue cX6_nextDue 3 (some FieldType.int) 6 100 0 0 (fun avs μ => avs = [aR 20 0] ∧ mR S μ ∧ sW S ∧ ∀ i, i < sn S 0 → mI μ 39 0 i = b1 (Q i = true)) (fun avs μ r μ' => r = some (aI (dv S Q (sn S 0))) ∧ μ' = μ) (fun avs μ E μ' => False) := by
  refine jMet_of hst (by decide) ?_
  intro avs μ J C hav hpre
  obtain ⟨rfl, hR, hW, hQ⟩ := hpre
  refine ⟨Nat.le_of_ble_eq_true rfl, ?_⟩
  show J 0 [some (aR 20 0), none, none] [] μ 0 0
  have hW0 := hW.1.1
  have hW1 := hW.1.2
  refine mj_iconst (pc' := 1) (v := (-1)) C dX6_nextDue_0 rfl rfl ?_
  refine mj_istore_n_1 (pc' := 2) C dX6_nextDue_1 rfl (by decide) rfl ?_
  refine mj_iconst (pc' := 3) (v := 0) C dX6_nextDue_2 rfl rfl ?_
  refine mj_istore_n_2 (pc' := 4) C dX6_nextDue_3 rfl (by decide) rfl ?_
  have loop : ∀ (d : Nat) (i : Nat), i + d = sn S 0 → J 4 [some (aR 20 0), some (aI (dv S Q i)), some (aI (nI i))] [] μ 0 0 := by
    intro d
    induction d with
    | zero =>
      intro i hd
      obtain rfl : i = sn S 0 := by omega
      refine mj_iload_n (pc' := 5) C dX6_nextDue_4 rfl rfl ?_
      refine mj_aload_n (pc' := 6) C dX6_nextDue_5 rfl rfl ?_
      refine mj_getV (pc' := 9) C dX6_nextDue_6 rfl (ci := 6) (f := 30) rfl (by decide) (by decide) (fun _ => rfl) (by decide) kf_X6_112 hR.B.l0 hR.nf ?_
      refine mj_icmp_ge (tgt := 59) (pc' := 12) C dX6_nextDue_9 (by decide) rfl (fun _ => ?_) (fun h9 => absurd (Int32.le_refl _) h9)
      refine mj_iload_n (pc' := 60) C dX6_nextDue_59 rfl rfl ?_
      refine mj_iret C dX6_nextDue_60 (by decide) (by decide) (by decide) ?_
      exact ⟨rfl, rfl⟩
    | succ d ih =>
      intro i hd
      have hlt : i < sn S 0 := by omega
      obtain ⟨hg, eg⟩ := fF_of hW hlt
      refine mj_iload_n (pc' := 5) C dX6_nextDue_4 rfl rfl ?_
      refine mj_aload_n (pc' := 6) C dX6_nextDue_5 rfl rfl ?_
      refine mj_getV (pc' := 9) C dX6_nextDue_6 rfl (ci := 6) (f := 30) rfl (by decide) (by decide) (fun _ => rfl) (by decide) kf_X6_112 hR.B.l0 hR.nf ?_
      refine mj_icmp_ge (tgt := 59) (pc' := 12) C dX6_nextDue_9 (by decide) rfl (fun h9 => absurd h9 (nI_ge hlt (by omega))) (fun _ => ?_)
      refine mj_aload_n (pc' := 13) C dX6_nextDue_12 rfl rfl ?_
      refine mj_getR (pc' := 16) C dX6_nextDue_13 rfl (ci := 6) (f := 18) rfl (by decide) (by decide) (fun _ => rfl) (by decide) kf_X6_65 hR.B.l0 (hR.B.p 18 (by decide) rfl) ?_
      refine mj_iload_n (pc' := 17) C dX6_nextDue_16 rfl rfl ?_
      refine mj_zaldV (pc' := 18) C dX6_nextDue_17 rfl rfl (by decide) (by decide) (hR.B.l 18 (by decide) rfl) rfl (by first | assumption | omega) (hQ i hlt) ?_
      refine mj_if_eq (tgt := 53) (pc' := 21) C dX6_nextDue_18 (by decide) rfl (fun h18 => ?_) (fun h18 => ?_)
      · have hq := b1_0.mp h18
        have e : nd S Q (i + 1) = nd S Q i := nd_a hq
        have e2 : dv S Q (i + 1) = dv S Q i := by unfold dv; rw [e]
        have hih := ih (i + 1) (by omega)
        rw [e2] at hih
        refine mj_iinc_2 (pc' := 56) (w := 1) C dX6_nextDue_53 rfl rfl (by decide) rfl ?_
        refine mj_goto (pc' := 4) C dX6_nextDue_56 (by decide) ?_
        rw [nI_1]
        exact hih
      · have hq := b1_n h18
        refine mj_iload_n (pc' := 22) C dX6_nextDue_21 rfl rfl ?_
        refine mj_iconst (pc' := 23) (v := (-1)) C dX6_nextDue_22 rfl rfl ?_
        refine mj_icmp_eq (tgt := 51) (pc' := 26) C dX6_nextDue_23 (by decide) rfl (fun h23 => ?_) (fun h23 => ?_)
        · have hno : nd S Q i = none := by
            cases hk : nd S Q i with
            | none => rfl
            | some k =>
              have := ((nd_s i).1 k hk).1
              refine absurd ?_ (nI_m1 (u := k) (by omega))
              have h := h23
              unfold dv at h
              rw [hk] at h
              exact h
          have e : nd S Q (i + 1) = some i := nd_b hq hno
          have e2 : dv S Q (i + 1) = nI i := by unfold dv; rw [e]
          have hih := ih (i + 1) (by omega)
          rw [e2] at hih
          refine mj_iload_n (pc' := 52) C dX6_nextDue_51 rfl rfl ?_
          refine mj_istore_n_1 (pc' := 53) C dX6_nextDue_52 rfl (by decide) rfl ?_
          refine mj_iinc_2 (pc' := 56) (w := 1) C dX6_nextDue_53 rfl rfl (by decide) rfl ?_
          refine mj_goto (pc' := 4) C dX6_nextDue_56 (by decide) ?_
          rw [nI_1]
          exact hih
        · obtain ⟨k, hk⟩ : ∃ k, nd S Q i = some k := by
            cases hk : nd S Q i with
            | some k => exact ⟨k, rfl⟩
            | none => exact absurd (by unfold dv; rw [hk]) h23
          have hki := ((nd_s i).1 k hk).1
          obtain ⟨hgk, egk⟩ := fF_of hW (i := k) (by omega)
          have edk : dv S Q i = nI k := by unfold dv; rw [hk]
          rw [edk]
          refine mj_aload_n (pc' := 27) C dX6_nextDue_26 rfl rfl ?_
          refine mj_getR (pc' := 30) C dX6_nextDue_27 rfl (ci := 6) (f := 0) rfl (by decide) (by decide) (fun _ => rfl) (by decide) kf_X6_7 hR.B.l0 (hR.B.p 0 (by decide) rfl) ?_
          refine mj_aload_n (pc' := 31) C dX6_nextDue_30 rfl rfl ?_
          refine mj_getR (pc' := 34) C dX6_nextDue_31 rfl (ci := 6) (f := 9) rfl (by decide) (by decide) (fun _ => rfl) (by decide) kf_X6_38 hR.B.l0 (hR.B.p 9 (by decide) rfl) ?_
          refine mj_iload_n (pc' := 35) C dX6_nextDue_34 rfl rfl ?_
          refine mj_ialdV (pc' := 36) C dX6_nextDue_35 rfl rfl (by decide) (by decide) (hR.B.l 9 (by decide) rfl) rfl (by first | assumption | omega) ((hR.v 9 (by decide) rfl (by unfold sl; simp <;> first | assumption | omega)).trans eg) ?_
          refine mj_ialdV (pc' := 37) C dX6_nextDue_36 rfl rfl (by decide) (by decide) (hR.B.l 0 (by decide) rfl) rfl (by first | assumption | omega) (hR.v 0 (by decide) rfl (by unfold sl; simp <;> first | assumption | omega)) ?_
          refine mj_aload_n (pc' := 38) C dX6_nextDue_37 rfl rfl ?_
          refine mj_getR (pc' := 41) C dX6_nextDue_38 rfl (ci := 6) (f := 0) rfl (by decide) (by decide) (fun _ => rfl) (by decide) kf_X6_7 hR.B.l0 (hR.B.p 0 (by decide) rfl) ?_
          refine mj_aload_n (pc' := 42) C dX6_nextDue_41 rfl rfl ?_
          refine mj_getR (pc' := 45) C dX6_nextDue_42 rfl (ci := 6) (f := 9) rfl (by decide) (by decide) (fun _ => rfl) (by decide) kf_X6_38 hR.B.l0 (hR.B.p 9 (by decide) rfl) ?_
          refine mj_iload_n (pc' := 46) C dX6_nextDue_45 rfl rfl ?_
          refine mj_ialdV (pc' := 47) C dX6_nextDue_46 rfl rfl (by decide) (by decide) (hR.B.l 9 (by decide) rfl) rfl (by first | assumption | omega) ((hR.v 9 (by decide) rfl (by unfold sl; simp <;> first | assumption | omega)).trans egk) ?_
          refine mj_ialdV (pc' := 48) C dX6_nextDue_47 rfl rfl (by decide) (by decide) (hR.B.l 0 (by decide) rfl) rfl (by first | assumption | omega) (hR.v 0 (by decide) rfl (by unfold sl; simp <;> first | assumption | omega)) ?_
          refine mj_icmp_ge (tgt := 53) (pc' := 51) C dX6_nextDue_48 (by decide) rfl (fun h48 => ?_) (fun h48 => ?_)
          · have e : nd S Q (i + 1) = nd S Q i := nd_c hk (Int32.not_lt.mpr h48)
            have e2 : dv S Q (i + 1) = dv S Q i := by unfold dv; rw [e]
            have hih := ih (i + 1) (by omega)
            rw [e2, edk] at hih
            refine mj_iinc_2 (pc' := 56) (w := 1) C dX6_nextDue_53 rfl rfl (by decide) rfl ?_
            refine mj_goto (pc' := 4) C dX6_nextDue_56 (by decide) ?_
            rw [nI_1]
            exact hih
          · have e : nd S Q (i + 1) = some i := nd_d hq hk (Int32.not_le.mp h48)
            have e2 : dv S Q (i + 1) = nI i := by unfold dv; rw [e]
            have hih := ih (i + 1) (by omega)
            rw [e2] at hih
            refine mj_iload_n (pc' := 52) C dX6_nextDue_51 rfl rfl ?_
            refine mj_istore_n_1 (pc' := 53) C dX6_nextDue_52 rfl (by decide) rfl ?_
            refine mj_iinc_2 (pc' := 56) (w := 1) C dX6_nextDue_53 rfl rfl (by decide) rfl ?_
            refine mj_goto (pc' := 4) C dX6_nextDue_56 (by decide) ?_
            rw [nI_1]
            exact hih
  exact loop (sn S 0) 0 (Nat.zero_add _)
