/-! HAVENS, FILES THAT ARE MOVED AHEAD -/
section HV
variable {S : jS} {i : Nat}
theorem hv_some (h : hv S i ≠ -1) : sf S 15 i = 0 ∧ ∃ j, j < 10 ∧ hv S i = nI j ∧ bq (best S (fF S i) j) ≠ -1 ∧ safe S i j := by
  unfold hv at h ⊢
  by_cases hs : sf S 15 i = 0
  · rw [if_pos hs] at h ⊢
    refine ⟨hs, ?_⟩
    have key := fold_range (N := 10) (hv1 S i) (fun n (t : Int32 × Int32 × Int32) => t.1 = -1 ∨ ∃ j, j < n ∧ t.1 = nI j ∧ bq (best S (fF S i) j) ≠ -1 ∧ safe S i j) (x0 := (-1, -1, 0)) (Or.inl rfl) (fun m t _ ht => by
      unfold hv1
      split
      · rename_i q
        exact Or.inr ⟨m, Nat.lt_succ_self m, rfl, q.1, q.2.1⟩
      · exact ht.imp id (fun ⟨j, h1, h2⟩ => ⟨j, by omega, h2⟩))
    exact key.resolve_left h
  · rw [if_neg hs] at h
    exact absurd rfl h
theorem hv_self (hW : sW S) (hi : i < sn S 0) (hs : sf S 15 i = 0) (h1 : safe S i (fF S i)) (h2 : sf S 7 (fL S i) ≤ sf S 12 i) : hv S i ≠ -1 := by
  unfold hv
  rw [if_pos hs]
  obtain ⟨⟨a, ha, ea⟩, -, ⟨u, hu, eu⟩, -⟩ := hW.2.2.1 i hi
  have eF : fF S i = a := by unfold fF; rw [ea, ix_nI (by omega)]
  have key := fold_range (N := 10) (hv1 S i) (fun n (t : Int32 × Int32 × Int32) => (t.1 = -1 → t.2.1 = -1) ∧ (fF S i < n → t.1 ≠ -1)) (x0 := (-1, -1, 0)) ⟨fun _ => rfl, fun q => absurd q (Nat.not_lt_zero _)⟩ (fun m t hm ht => by
    unfold hv1
    split
    · exact ⟨fun q => absurd q (nI_m1 (by omega)), fun _ => nI_m1 (by omega)⟩
    · rename_i q
      refine ⟨ht.1, fun hm2 q1 => ?_⟩
      by_cases e : fF S i = m
      · refine q ?_
        rw [← e, best_self hW]
        show nI (qN S [] 1000) ≠ -1 ∧ safe S i (fF S i) ∧ sf S 7 (fL S i) ≤ sf S 12 i ∧ (t.2.1 < sf S 12 i ∨ _)
        refine ⟨nI_m1 (u := 1000) (by decide), h1, h2, Or.inl ?_⟩
        rw [ht.1 q1, eu]
        exact Int32.lt_of_lt_of_le (by decide) (nI_pos' (by omega))
      · exact ht.2 (by omega) q1)
  exact key.2 (by omega)
theorem hv_cong {S' : jS} (hc : cK S S') (h0 : ∀ j, sf S' 0 j = sf S 0 j) (h7 : ∀ j, sf S' 7 j = sf S 7 j) (h9 : sf S' 9 i = sf S 9 i) (h11 : sf S' 11 i = sf S 11 i) (h12 : sf S' 12 i = sf S 12 i) (h13 : sf S' 13 i = sf S 13 i) (h15 : sf S' 15 i = sf S 15 i) (h16 : sf S' 16 i = sf S 16 i) : hv S' i = hv S i := by
  have e : hv1 S' i = hv1 S i := by
    funext t j
    unfold hv1 fF fL safe
    simp only [best_cK hc, alg_cK hc, h0, h7, h9, h11, h12, h13, h16]
  unfold hv
  rw [h15, e]
end HV
/-- what a file's move to its haven costs -/
noncomputable def prc (S : jS) (i : Nat) : Int32 := if hv S i = -1 then 0 else sf S 10 i * bc (best S (fF S i) (ix (hv S i)))
noncomputable def ps (S : jS) (M : Nat → Bool) : Nat → Int32
  | 0 => 0
  | i + 1 => ps S M i + (if M i = true then prc S i else 0)
theorem ps_cong {S S' : jS} {M : Nat → Bool} : ∀ n, (∀ i, i < n → M i = true → prc S' i = prc S i) → ps S' M n = ps S M n
  | 0, _ => rfl
  | n + 1, h => by
    show ps S' M n + _ = ps S M n + _
    rw [ps_cong n (fun i hi => h i (by omega))]
    congr 1
    split
    · rename_i q
      exact h n (Nat.lt_succ_self n) q
    · rfl
theorem ps_more {S : jS} {M : Nat → Bool} {i : Nat} (hM : M i = false) : ∀ n, ps S (fun x => M x || decide (x = i)) n = if i < n then prc S i + ps S M n else ps S M n
  | 0 => rfl
  | n + 1 => by
    show ps S (fun x => M x || decide (x = i)) n + (if (M n || decide (n = i)) = true then prc S n else 0) = _
    rw [ps_more hM n]
    show _ = if i < n + 1 then prc S i + (ps S M n + (if M n = true then prc S n else 0)) else ps S M n + (if M n = true then prc S n else 0)
    by_cases e : n = i
    · subst e
      rw [if_neg (Nat.lt_irrefl n), if_pos (Nat.lt_succ_self n), hM]
      simp only [decide_true, Bool.or_true, if_true, Bool.false_eq_true, if_false, Int32.add_zero]
      exact Int32.add_comm _ _
    · have e1 : (M n || decide (n = i)) = M n := by simp [e]
      rw [e1]
      by_cases q : i < n
      · rw [if_pos q, if_pos (show i < n + 1 by omega), Int32.add_assoc]
      · rw [if_neg q, if_neg (show ¬ i < n + 1 by omega)]
theorem cnt_more {M : Nat → Bool} {i : Nat} (hM : M i = false) : ∀ n, cnt (fun x => M x || decide (x = i)) n = if i < n then cnt M n + 1 else cnt M n
  | 0 => rfl
  | n + 1 => by
    show cnt (fun x => M x || decide (x = i)) n + (if (M n || decide (n = i)) = true then 1 else 0) = if i < n + 1 then cnt M n + (if M n = true then 1 else 0) + 1 else cnt M n + (if M n = true then 1 else 0)
    rw [cnt_more hM n]
    by_cases e : n = i
    · subst e
      rw [if_neg (Nat.lt_irrefl n), if_pos (Nat.lt_succ_self n), hM]
      simp
    · have e1 : (M n || decide (n = i)) = M n := by simp [e]
      rw [e1]
      by_cases q : i < n
      · rw [if_pos q, if_pos (show i < n + 1 by omega)]
        omega
      · rw [if_neg q, if_neg (show ¬ i < n + 1 by omega)]
theorem bc_b {S : jS} (hW : sW S) {a b : Nat} (h : bq (best S a b) ≠ -1) : ∃ c, c ≤ 900 ∧ bc (best S a b) = nI c := by
  rcases best_w (b := b) (a := a) hW with e | ⟨w, e, hw⟩
  · rw [e] at h
    exact absurd rfl h
  · rw [e]
    exact ⟨_, (vl_b hW hw).2.1, rfl⟩
theorem prc_b {S : jS} (hW : sW S) {i : Nat} (hi : i < sn S 0) : ∃ c, c ≤ 90000 ∧ prc S i = nI c := by
  unfold prc
  by_cases h : hv S i = -1
  · rw [if_pos h]
    exact ⟨0, by omega, rfl⟩
  · rw [if_neg h]
    obtain ⟨-, j, hj, ej, h1, -⟩ := hv_some h
    obtain ⟨-, -, -, ⟨u, hu1, hu, eu⟩, -⟩ := hW.2.2.1 i hi
    rw [ej, ix_nI (by omega)]
    obtain ⟨c, hc, ec⟩ := bc_b hW h1
    rw [ec, eu]
    exact ⟨u * c, Nat.le_trans (Nat.mul_le_mul hu hc) (by decide), pk_mul u c⟩
theorem sub_pos {x : Int32} {c : Nat} (hc : c ≤ 90000) (h : nI c ≤ x) : 0 ≤ x - nI c := by
  have h1 : (c : Int) ≤ x.toInt := by
    have := Int32.le_iff_toInt_le.mp h
    rw [nI_toInt (by omega)] at this
    exact this
  have h2 : x.toInt < 2 ^ 31 := Int32.toInt_lt x
  rw [Int32.le_iff_toInt_le, Int32.toInt_sub, nI_toInt (by omega), show (0 : Int32).toInt = 0 from rfl]
  rw [Int.bmod_eq_of_le (by omega) (by omega)]
  omega
/-- what moving all ahead has done -/
theorem mv_all : ∀ (n : Nat) (D : Nat → Bool) (S : jS), sW S → (∀ i, D i = true → i < sn S 0) → ∃ M : Nat → Bool, (∀ i, M i = true → D i = true ∧ hv S i ≠ -1 ∧ sf (mv n D S).2 9 i = hv S i ∧ sf (mv n D S).2 12 i = alg S (bw (best S (fF S i) (ix (hv S i)))) (sf S 12 i)) ∧ (∀ i, M i = false → sf (mv n D S).2 9 i = sf S 9 i ∧ sf (mv n D S).2 12 i = sf S 12 i) ∧
    (mv n D S).1 = cnt M (sn S 0) ∧ sf (mv n D S).2 17 1 = sf S 17 1 - ps S M (sn S 0) ∧ (0 ≤ sf S 17 1 → 0 ≤ sf (mv n D S).2 17 1) ∧ (∀ a x, a ≠ 9 → a ≠ 12 → ¬ (a = 17 ∧ x = 1) → sf (mv n D S).2 a x = sf S a x) ∧ ∀ a, sn (mv n D S).2 a = sn S a
  | 0, _, S, _, _ => ⟨fun _ => false, fun i h => (by cases h), fun i _ => ⟨rfl, rfl⟩, by
      have h : ∀ m, cnt (fun _ => false) m = 0 := fun m => by
        induction m with
        | zero => rfl
        | succ m ih => show cnt (fun _ => false) m + 0 = 0; rw [ih]
      exact (h _).symm, by
      have h : ∀ m, ps S (fun _ => false) m = 0 := fun m => by
        induction m with
        | zero => rfl
        | succ m ih => show ps S (fun _ => false) m + (if false = true then prc S m else 0) = 0; rw [ih]; rfl
      rw [h, Int32.sub_zero]
      rfl, id, fun _ _ _ _ _ => rfl, fun _ => rfl⟩
  | n + 1, D, S, hW, hD => by
    unfold mv
    cases hn : nd S D (sn S 0) with
    | none => exact mv_all 0 D S hW hD
    | some i =>
      dsimp only
      obtain ⟨hi, hDi⟩ := (nd_s _).1 i hn
      have hD2 : ∀ x, (D x && !decide (x = i)) = true → x < sn S 0 := fun x hx => hD x (by revert hx; cases D x <;> simp)
      have hD3 : ∀ x, (D x && !decide (x = i)) = true → D x = true ∧ x ≠ i := fun x hx => by revert hx; cases D x <;> simp
      split
      · rename_i q
        obtain ⟨hs, j, hj, ej, h1, h2⟩ := hv_some q.1
        have eix : ix (hv S i) = j := by rw [ej, ix_nI (by omega)]
        rw [eix] at q ⊢
        obtain ⟨M, g1, g2, g3, g4, g5, g6, g7⟩ := mv_all n (fun x => D x && !decide (x = i)) (tk S i j) (tk_W hW hi hj) hD2
        have t9 : ∀ x, x ≠ i → sf (tk S i j) 9 x = sf S 9 x := fun x hx => by simp [tk, sf_su, hx]
        have t12 : ∀ x, x ≠ i → sf (tk S i j) 12 x = sf S 12 x := fun x hx => by simp [tk, sf_su, hx]
        have t9i : sf (tk S i j) 9 i = nI j := by simp [tk, sf_su]
        have t12i : sf (tk S i j) 12 i = alg S (bw (best S (fF S i) j)) (sf S 12 i) := by simp [tk, sf_su]
        have t17 : sf (tk S i j) 17 1 = sf S 17 1 - sf S 10 i * bc (best S (fF S i) j) := by simp [tk, sf_su]
        have to : ∀ a x, a ≠ 9 → a ≠ 12 → ¬ (a = 17 ∧ x = 1) → sf (tk S i j) a x = sf S a x := fun a x e1 e2 e3 => by
          unfold tk
          rw [sf_su, if_neg (fun z => e1 z.1), sf_su, if_neg (fun z => e2 z.1), sf_su, if_neg e3]
        have hc : cK S (tk S i j) := ⟨rfl, fun a c e1 e2 => to a c (by omega) (by omega) (by omega)⟩
        have hMi : M i = false := by
          cases e : M i with
          | false => rfl
          | true => exact absurd rfl (hD3 i (g1 i e).1).2
        have hh : ∀ x, x ≠ i → hv (tk S i j) x = hv S x := fun x hx => hv_cong hc (fun z => to 0 z (by omega) (by omega) (by omega)) (fun z => to 7 z (by omega) (by omega) (by omega)) (t9 x hx) (to 11 x (by omega) (by omega) (by omega)) (t12 x hx) (to 13 x (by omega) (by omega) (by omega)) (to 15 x (by omega) (by omega) (by omega)) (to 16 x (by omega) (by omega) (by omega))
        have hpp : ∀ x, x ≠ i → prc (tk S i j) x = prc S x := fun x hx => by
          unfold prc fF
          rw [hh x hx, best_cK hc, to 10 x (by omega) (by omega) (by omega), t9 x hx]
        have hpi : prc S i = sf S 10 i * bc (best S (fF S i) j) := by
          unfold prc
          rw [if_neg q.1, eix]
        refine ⟨fun x => M x || decide (x = i), fun x hx => ?_, fun x hx => ?_, ?_, ?_, fun h0 => ?_, fun a x e1 e2 e3 => (g6 a x e1 e2 e3).trans (to a x e1 e2 e3), fun a => g7 a⟩
        · by_cases e : x = i
          · subst e
            exact ⟨hDi, q.1, (g2 x hMi).1.trans (t9i.trans ej.symm), by rw [eix]; exact (g2 x hMi).2.trans t12i⟩
          · have hMx : M x = true := by revert hx; simp [e]
            obtain ⟨k1, k2, k3, k4⟩ := g1 x hMx
            rw [hh x e] at k2 k3 k4
            refine ⟨(hD3 x k1).1, k2, k3, k4.trans ?_⟩
            unfold fF
            rw [t12 x e, alg_cK hc, best_cK hc, t9 x e]
        · have e : x ≠ i := by
            rintro rfl
            revert hx
            simp
          have hMx : M x = false := by revert hx; simp [e]
          exact ⟨(g2 x hMx).1.trans (t9 x e), (g2 x hMx).2.trans (t12 x e)⟩
        · rw [cnt_more hMi, if_pos hi, g3]
          rfl
        · rw [ps_more hMi, if_pos hi, g4, t17, hpi]
          rw [show sn (tk S i j) 0 = sn S 0 from rfl, ps_cong (S := S) (S' := tk S i j) (M := M) (sn S 0) (fun x _ hx => hpp x (fun z => by rw [z, hMi] at hx; cases hx))]
          generalize sf S 10 i * bc (best S (fF S i) j) = u
          generalize ps S M (sn S 0) = v
          generalize sf S 17 1 = w
          rw [Int32.sub_eq_add_neg, Int32.sub_eq_add_neg, Int32.sub_eq_add_neg, Int32.neg_add, Int32.add_assoc, Int32.sub_eq_add_neg]
        · refine g5 ?_
          rw [t17, ← hpi]
          obtain ⟨c, hc9, ec⟩ := prc_b hW hi
          rw [ec]
          refine sub_pos hc9 ?_
          rw [← ec, hpi]
          exact q.2
      · obtain ⟨M, g1, g2⟩ := mv_all n (fun x => D x && !decide (x = i)) S hW hD2
        exact ⟨M, fun x hx => ⟨(hD3 x (g1 x hx).1).1, (g1 x hx).2⟩, g2⟩
