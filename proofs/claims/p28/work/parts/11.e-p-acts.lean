/-! WHAT THE LAW'S ACTS DO -/
section OA
variable {S : jS}
theorem oe_conv {f t lo co : Nat} (hf : f < 10) (ht : t < 10) (hne : f ≠ t) (hlo : lo ≤ 500) (hco : co ≤ 100) (h30 : sn S 1 < 30) : o_converter S (nI f) (nI t) (nI lo) (nI co) = (0, nI (sn S 1), sa (su (su (su (su (su S 1 (sn S 1) (nI f)) 2 (sn S 1) (nI t)) 3 (sn S 1) (nI lo)) 4 (sn S 1) (nI co)) 5 (sn S 1) 0) 1) := by
  unfold o_converter
  have h2 : ¬ ((nI lo < 0 ∨ 500 < nI lo) ∨ (nI co < 0 ∨ 100 < nI co) ∨ nI f = nI t) := by
    rintro ((q | q) | (q | q) | q)
    · exact nI_pos (by omega) q
    · exact nI_nlt (a := 500) hlo (by decide) q
    · exact nI_pos (by omega) q
    · exact nI_nlt (a := 100) hco (by decide) q
    · exact hne ((nI_eq (by omega) (by omega)).mp q)
  rw [if_neg (fun q => q.elim (bad_nI hf (by decide)) (bad_nI ht (by decide))), if_neg h2, if_neg (by omega)]
theorem oe_withdraw {u : Nat} (hu : u < sn S 1) (h30 : sn S 1 ≤ 30) (h5 : sf S 5 u = 0) : o_withdraw S (nI u) = (0, nI (lostHv S (su S 5 u 1) (sn S 0)), su S 5 u 1) := by
  unfold o_withdraw
  rw [if_neg (bad_nI hu (by omega)), ix_nI (by omega), if_neg (fun q => q h5)]
theorem oe_setLast {f : Nat} {u : Int32} (hf : f < 10) (hu : u = -1 ∨ (sf S 17 2 ≤ u ∧ u ≤ 1000)) (hc : canR S f) : o_setLast S (nI f) u = (0, sf S 0 f, su S 0 f u) := by
  unfold o_setLast
  rw [if_neg (bad_nI hf (by decide)), if_neg (fun q => hu.elim (fun e => q.1 e) (fun e => q.2.elim (fun z => absurd z (Int32.not_lt.mpr e.1)) (fun z => absurd z (Int32.not_lt.mpr e.2)))), ix_nI (by omega), if_neg (fun q => q hc)]
theorem oe_file {f sz j : Nat} (hf : f < 10) (hj : j < 5) (hs : 1 ≤ sz ∧ sz ≤ 100) (h12 : sn S 0 < 12) (hc : canR S f) : o_file S (nI f) (nI sz) (nI j) = (0, nI (sn S 0), sa (su (su (su (su (su (su (su (su S 9 (sn S 0) (nI f)) 10 (sn S 0) (nI sz)) 11 (sn S 0) (nI j)) 12 (sn S 0) 1000) 13 (sn S 0) (sf S 17 2 + sf S 6 j)) 14 (sn S 0) (sf S 17 2)) 15 (sn S 0) 0) 16 (sn S 0) 0) 0) := by
  unfold o_file
  have h2 : ¬ (nI sz < 1 ∨ 100 < nI sz) := by
    rintro (q | q)
    · exact nI_nlt (b := 1) hs.1 (by omega) q
    · exact nI_nlt (a := 100) hs.2 (by decide) q
  have h3 : ¬ (sn S 0 = 40 ∨ ¬ canR S f) := fun q => q.elim (fun q => by omega) (fun q => q hc)
  rw [if_neg (fun q => q.elim (bad_nI hf (by decide)) (bad_nI hj (by decide))), if_neg h2, ix_nI (show f < 2 ^ 31 by omega), ix_nI (show j < 2 ^ 31 by omega), if_neg h3]
theorem oe_hold {i : Nat} {v : Int32} (hW : sW S) (hi : i < sn S 0) (hs : sf S 15 i = 0) : o_hold S (nI i) v = (0, b1 (sf S 16 i ≠ v), su S 16 i v) := by
  have := hW.1.1
  unfold o_hold
  rw [if_neg (bad_nI hi (by omega)), ix_nI (by omega), if_neg (fun q => q hs)]
theorem oe_read {i : Nat} (hW : sW S) (hi : i < sn S 0) (hs : sf S 15 i = 0) (hc : canR S (fF S i)) (hq : ¬ sf S 12 i < sf S 7 (fL S i)) : o_read S (nI i) = (0, sf S 17 2 - sf S 14 i, su S 14 i (sf S 17 2)) := by
  have := hW.1.1
  unfold o_read
  rw [if_neg (bad_nI hi (by omega)), ix_nI (by omega), if_neg (fun q => q.elim (fun q => q hs) (fun q => q.elim (fun q => q hc) hq))]
theorem oe_budget {b : Nat} (hb : b ≤ 1000000) : o_setBudget S (nI b) = (0, sf S 17 0, su S 17 0 (nI b)) := by
  unfold o_setBudget
  rw [if_neg (fun q => q.elim (nI_pos (by omega)) (nI_nlt (a := 1000000) hb (by decide)))]
theorem oe_law {j y w q : Nat} (hj : j < 5) (hy : 1 ≤ y ∧ y ≤ 100) (hw : w ≤ 1000) (hq : 1 ≤ q ∧ q ≤ 50) : o_law S (nI j) (nI y) (nI w) (nI q) = (0, 0, su (su (su S 6 j (nI y)) 7 j (nI w)) 8 j (nI q)) := by
  unfold o_law
  have h2 : ¬ ((nI y < 1 ∨ 100 < nI y) ∨ (nI w < 0 ∨ 1000 < nI w) ∨ (nI q < 1 ∨ 50 < nI q)) := by
    rintro ((z | z) | (z | z) | (z | z))
    · exact nI_nlt (b := 1) hy.1 (by omega) z
    · exact nI_nlt (a := 100) hy.2 (by decide) z
    · exact nI_pos (by omega) z
    · exact nI_nlt (a := 1000) hw (by decide) z
    · exact nI_nlt (b := 1) hq.1 (by omega) z
    · exact nI_nlt (a := 50) hq.2 (by decide) z
  rw [if_neg (bad_nI hj (by decide)), if_neg h2, ix_nI (by omega)]
/-- the state in which a year begins -/
def bg (S : jS) : jS := su (su S 17 2 (sf S 17 2 + 1)) 17 1 (sf S 17 0)
theorem oe_begin {y : Nat} (hy : y < 900) (e : sf S 17 2 = nI y) : o_begin S = (0, nI (nys (bg S) (sn S 0)).1, (nys (bg S) (sn S 0)).2) := by
  unfold o_begin
  have h : ¬ sf S 17 2 = 900 := fun q => absurd ((nI_eq (b := 900) (by omega) (by decide)).mp (e.symm.trans q)) (by omega)
  rw [if_neg h]
  rfl
/-- what moving all ahead does -/
theorem ahead (hA : sA S) : ∃ (M : Nat → Bool) (T : jS), o_moveAhead S = (0, nI (cnt M (sn S 0)), T) ∧ (∀ i, M i = true → i < sn S 0 ∧ sf T 9 i ≠ sf S 9 i ∧ sf T 9 i = hv S i ∧ sf T 15 i = 0 ∧ safe T i (fF T i)) ∧ (∀ i, M i = false → sf T 9 i = sf S 9 i) ∧ sf T 17 1 = sf S 17 1 - ps S M (sn S 0) ∧ (0 ≤ sf S 17 1 → 0 ≤ sf T 17 1) ∧
    (∀ i, i < sn S 0 → sf T 12 i ≤ sf S 12 i) ∧ (∀ a x, a ≠ 9 → a ≠ 12 → ¬ (a = 17 ∧ x = 1) → sf T a x = sf S a x) ∧ (∀ a, sn T a = sn S a) ∧ sA T := by
  have hAT := A_moveAhead hA
  have hW := hA.1
  obtain ⟨M, g1, g2, g3, g4, g5, g6, g7⟩ := mv_all (sn S 0) (fun i => hvB S i && !sfB S i && decide (i < sn S 0)) S hA.1 (fun i hi => by
    simp only [Bool.and_eq_true, decide_eq_true_eq] at hi
    exact hi.2)
  refine ⟨M, (o_moveAhead S).2.2, ?_, fun i hM => ?_, fun i hM => (g2 i hM).1, g4, g5, fun i hi => ?_, g6, g7, hAT⟩
  · show (0, nI (mv _ _ S).1, _) = _
    rw [g3]
    rfl
  · obtain ⟨k1, k2, k3, k4⟩ := g1 i hM
    obtain ⟨hs, j, hj, ej, -, h2⟩ := hv_some k2
    have h3 : ¬ safe S i (fF S i) := by
      have k1 := k1
      simp only [Bool.and_eq_true, Bool.not_eq_true', decide_eq_true_eq] at k1
      exact of_decide_eq_false k1.1.2
    have e9 : sf (o_moveAhead S).2.2 9 i = nI j := k3.trans ej
    have eF : fF (o_moveAhead S).2.2 i = j := by unfold fF; rw [e9, ix_nI (by omega)]
    refine ⟨(by simp only [Bool.and_eq_true, decide_eq_true_eq] at k1; exact k1.2), fun q => h3 ?_, k3, (g6 15 i (by decide) (by decide) (by omega)).trans hs, ?_⟩
    · have : fF S i = j := by unfold fF; rw [← q, e9, ix_nI (by omega)]
      rw [this]
      exact h2
    · rw [eF]
      unfold safe
      rw [show sf (o_moveAhead S).2.2 0 j = sf S 0 j from g6 0 j (by decide) (by decide) (by omega), show sf (o_moveAhead S).2.2 16 i = sf S 16 i from g6 16 i (by decide) (by decide) (by omega), show sf (o_moveAhead S).2.2 13 i = sf S 13 i from g6 13 i (by decide) (by decide) (by omega)]
      exact h2
  · cases hM : M i with
    | false =>
      rw [show sf (o_moveAhead S).2.2 12 i = sf S 12 i from (g2 i hM).2]
      exact Int32.le_refl _
    | true =>
      rw [show sf (o_moveAhead S).2.2 12 i = _ from (g1 i hM).2.2.2]
      obtain ⟨u, hu, eu⟩ := (hW.2.2.1 i hi).2.2.1
      rw [eu, alg_N hW _ u (bw_mem hW) hu]
      exact nI_le (qN_le S _ u) (by omega)
/-- while the law looks at what was moved: files below t are in their new formats -/
def mid (S T : jS) (t : Nat) : jS := (T.1, fun a x => if a = 9 ∧ t ≤ x then sf S 9 x else sf T a x)
theorem mid_s {S T : jS} {t : Nat} : su (mid S T t) 9 t (sf T 9 t) = mid S T (t + 1) := by
  refine Prod.ext rfl ?_
  funext a x
  show (if a = 9 ∧ x = t then sf T 9 t else if a = 9 ∧ t ≤ x then sf S 9 x else sf T a x) = if a = 9 ∧ t + 1 ≤ x then sf S 9 x else sf T a x
  by_cases e : a = 9 ∧ x = t
  · obtain ⟨rfl, rfl⟩ := e
    rw [if_pos ⟨rfl, rfl⟩, if_neg (by omega)]
  · rw [if_neg e]
    by_cases q : a = 9 ∧ t ≤ x
    · rw [if_pos q, if_pos (by omega)]
    · rw [if_neg q, if_neg (by omega)]
end OA
theorem b1_ps {S : jS} {M : Nat → Bool} {t : Nat} (x : Int32) : (M t = true → x - ps S M t - prc S t = x - ps S M (t + 1)) ∧ (M t = false → x - ps S M t - 0 = x - ps S M (t + 1)) := by
  refine ⟨fun h => ?_, fun h => ?_⟩
  · rw [show ps S M (t + 1) = ps S M t + prc S t from by show _ + (if M t = true then _ else _) = _; rw [if_pos h]]
    generalize ps S M t = u
    generalize prc S t = v
    rw [Int32.sub_eq_add_neg, Int32.sub_eq_add_neg, Int32.sub_eq_add_neg, Int32.neg_add, Int32.sub_eq_add_neg, Int32.add_assoc]
  · rw [show ps S M (t + 1) = ps S M t + 0 from by show _ + (if M t = true then _ else _) = _; rw [if_neg (by rw [h]; decide)], Int32.add_zero, Int32.sub_zero]
theorem sub_n (x : Int32) (m : Nat) : x - nI m - 1 = x - nI (m + 1) := by
  rw [← nI_1]
  generalize nI m = u
  rw [Int32.sub_eq_add_neg, Int32.sub_eq_add_neg, Int32.sub_eq_add_neg, Int32.neg_add, Int32.sub_eq_add_neg, Int32.add_assoc]
theorem lost_0 {S S' : jS} {t : Nat} (x : Int32) (h : ¬ (hv S t ≠ -1 ∧ hv S' t = -1)) : x - nI (lostHv S S' t) - 0 = x - nI (lostHv S S' (t + 1)) := by
  rw [Int32.sub_zero, show lostHv S S' (t + 1) = lostHv S S' t + 0 from by show _ + (if _ then _ else _) = _; rw [if_neg h], Nat.add_zero]
theorem lost_1 {S S' : jS} {t : Nat} (x : Int32) (h : hv S t ≠ -1 ∧ hv S' t = -1) : x - nI (lostHv S S' t) - 1 = x - nI (lostHv S S' (t + 1)) := by
  rw [sub_n, show lostHv S S' (t + 1) = lostHv S S' t + 1 from by show _ + (if _ then _ else _) = _; rw [if_pos h]]
theorem cnt_b {M : Nat → Bool} {t : Nat} (x : Int32) : x - nI (cnt M t) - b1 (M t = true) = x - nI (cnt M (t + 1)) := by
  show _ = x - nI (cnt M t + if M t = true then 1 else 0)
  by_cases h : M t = true
  · rw [b1_t h, if_pos h, sub_n]
  · rw [b1_f h, if_neg h, Int32.sub_zero, Nat.add_zero]
theorem ps_b {S : jS} {M : Nat → Bool} {t : Nat} (x : Int32) : x - ps S M t - (if M t = true then prc S t else 0) = x - ps S M (t + 1) := by
  by_cases h : M t = true
  · rw [if_pos h]
    exact (b1_ps x).1 h
  · rw [if_neg h]
    exact (b1_ps x).2 (Bool.eq_false_iff.mpr h)
theorem s17 {S : jS} {a i x : Nat} {v : Int32} (h : a ≠ 17) : sf (su S a i v) 17 x = sf S 17 x := by rw [sf_su, if_neg (fun q => h q.1.symm)]
theorem pI_su {S : jS} {c a i : Nat} {v : Int32} (h : pI c S) (ha : a ≠ 17) : pI (c + 1) (su S a i v) := by
  obtain ⟨h1, h2, h3, y, h4, h5⟩ := h
  exact ⟨h1, by rw [s17 ha]; exact h2, by rw [s17 ha]; exact h3, y, by omega, by rw [s17 ha]; exact h5⟩
theorem pI.to {S S' : jS} {c : Nat} (h : pI c S) (h0 : sn S' 0 ≤ 12) (h1 : ∀ x, sf S' 17 x = sf S 17 x) : pI (c + 1) S' := by
  obtain ⟨-, h2, h3, y, h4, h5⟩ := h
  exact ⟨h0, by rw [h1]; exact h2, by rw [h1]; exact h3, y, by omega, by rw [h1]; exact h5⟩
theorem upto {S : jS} {c w : Nat} (h : pI c S) (hc : c < 40) (hw : w < 15) : sf S 17 2 ≤ sf S 17 2 + nI w ∧ sf S 17 2 + nI w ≤ 1000 := by
  obtain ⟨-, -, -, y, h4, h5⟩ := h
  rw [h5, nI_add]
  exact ⟨nI_le (by omega) (by omega), nI_le (b := 1000) (by omega) (by decide)⟩
theorem bg_f {S : jS} {a x : Nat} (h : a ≠ 17) : sf (bg S) a x = sf S a x := by
  unfold bg
  rw [sf_su, if_neg (fun q => h q.1), sf_su, if_neg (fun q => h q.1)]
theorem bg_17 (S : jS) : sf (bg S) 17 0 = sf S 17 0 ∧ sf (bg S) 17 1 = sf S 17 0 ∧ sf (bg S) 17 2 = sf S 17 2 + 1 := ⟨rfl, rfl, rfl⟩
/-- readable in the next year -/
abbrev canN (S : jS) (t : Nat) : Prop := sf S 0 (fF S t) = -1 ∨ sf S 17 2 + 1 ≤ sf S 0 (fF S t)
abbrev gone1 (S : jS) (t : Nat) : Prop := sf S 15 t = 0 ∧ sf S 13 t < sf S 17 2 + 1 ∧ sf S 16 t = 0
abbrev lost1 (S : jS) (t : Nat) : Prop := sf S 15 t = 0 ∧ ¬ gone1 S t ∧ ¬ canN S t
theorem ny_bg (S : jS) (t : Nat) : ny (bg S) t = if sf S 15 t = 0 then (if sf S 13 t < sf S 17 2 + 1 ∧ sf S 16 t = 0 then 1 else if canN S t then 0 else 2) else sf S 15 t := by
  unfold ny canR canN fF
  simp only [bg_f (S := S) (a := 15) (by decide), bg_f (S := S) (a := 13) (by decide), bg_f (S := S) (a := 16) (by decide), bg_f (S := S) (a := 9) (by decide), bg_f (S := S) (a := 0) (by decide), (bg_17 S).2.2]
theorem nyg_1 {S : jS} {t : Nat} (h : gone1 S t) : ny (bg S) t = 1 := by rw [ny_bg, if_pos h.1, if_pos h.2]
theorem nyg_2 {S : jS} {t : Nat} (h : lost1 S t) : ny (bg S) t = 2 := by rw [ny_bg, if_pos h.1, if_neg (fun q => h.2.1 ⟨h.1, q⟩), if_neg h.2.2]
theorem nyg_0 {S : jS} {t : Nat} (h1 : ¬ gone1 S t) (h2 : ¬ lost1 S t) : ny (bg S) t = sf S 15 t := by
  rw [ny_bg]
  by_cases h : sf S 15 t = 0
  · rw [if_pos h, if_neg (fun q => h1 ⟨h, q⟩), if_pos (Decidable.byContradiction fun q => h2 ⟨h, h1, q⟩), h]
  · rw [if_neg h]
theorem nys_b {S : jS} {t : Nat} (x : Int32) : x - nI (nys (bg S) t).1 - b1 (lost1 S t) = x - nI (nys (bg S) (t + 1)).1 := by
  show _ = x - nI ((nys (bg S) t).1 + (if sf (bg S) 15 t = 0 ∧ ny (bg S) t = 2 then 1 else 0))
  rw [bg_f (S := S) (a := 15) (by decide)]
  by_cases h : lost1 S t
  · rw [b1_t h, if_pos ⟨h.1, nyg_2 h⟩, sub_n]
  · rw [b1_f h, if_neg, Int32.sub_zero, Nat.add_zero]
    rintro ⟨q1, q2⟩
    by_cases hg : gone1 S t
    · rw [nyg_1 hg] at q2
      exact absurd q2 (by decide)
    · rw [nyg_0 hg h, q1] at q2
      exact absurd q2 (by decide)
