/-! WHAT IS WELL FORMED STAYS SO -/
def sA (S : jS) : Prop := sW S ∧ sL S ∧ sZ S
theorem sL_su {S : jS} {a i : Nat} {v : Int32} (h : sL S) (ha : a ≠ 0) : sL (su S a i v) := fun j hj => by rw [sf_su, if_neg (fun q => ha q.1.symm)]; exact h j hj
theorem sZ_su {S : jS} {a i : Nat} {v : Int32} (h : sZ S) (ha : a ≠ 5) : sZ (su S a i v) := fun j hj => by rw [sf_su, if_neg (fun q => ha q.1.symm)]; exact h j hj
theorem sA_x {S : jS} (h : sA S) {a i : Nat} {v : Int32} (ha : a = 6 ∨ a = 8 ∨ a = 13 ∨ a = 14 ∨ a = 15 ∨ (a = 17 ∧ i ≠ 2)) : sA (su S a i v) := ⟨sW_x h.1 (by omega), sL_su h.2.1 (by omega), sZ_su h.2.2 (by omega)⟩
theorem sW_16 {S : jS} (h : sW S) {i : Nat} {v : Int32} (hv : v = 0 ∨ v = 1) : sW (su S 16 i v) := by
  obtain ⟨h1, h2, h3, h4, h5⟩ := h
  refine ⟨h1, fun c hc => ?_, fun j hj => ?_, fun j hj => ?_, ?_⟩
  · simpa [sf_su] using h2 c hc
  · obtain ⟨a1, a2, a3, a4, a5⟩ := h3 j hj
    refine ⟨by simpa [sf_su] using a1, by simpa [sf_su] using a2, by simpa [sf_su] using a3, by simpa [sf_su] using a4, ?_⟩
    rw [sf_su]
    split
    · exact hv
    · exact a5
  · simpa [sf_su] using h4 j hj
  · simpa [sf_su] using h5
theorem sW_7 {S : jS} (h : sW S) {i u : Nat} (hu : u ≤ 1000) : sW (su S 7 i (nI u)) := by
  obtain ⟨h1, h2, h3, h4, h5⟩ := h
  refine ⟨h1, fun c hc => ?_, fun j hj => ?_, fun j hj => ?_, ?_⟩
  · simpa [sf_su] using h2 c hc
  · simpa [sf_su] using h3 j hj
  · rw [sf_su]
    split
    · exact ⟨u, hu, rfl⟩
    · exact h4 j hj
  · simpa [sf_su] using h5
theorem A_setLast {S : jS} (h : sA S) (f u : Int32) : sA (o_setLast S f u).2.2 := by
  unfold o_setLast
  split
  · exact h
  · split
    · exact h
    · rename_i h1 h2
      split
      · exact h
      · refine ⟨sW_x h.1 (by omega), fun j hj => ?_, sZ_su h.2.2 (by omega)⟩
        show sf (su S 0 (ix f) u) 0 j ≤ 1000
        rw [sf_su]
        split
        · by_cases e : u = -1
          · rw [e]; decide
          · exact Int32.not_lt.mp (fun q => h2 ⟨e, Or.inr q⟩)
        · exact h.2.1 j hj
theorem A_law {S : jS} (h : sA S) (j y w q : Int32) : sA (o_law S j y w q).2.2 := by
  unfold o_law
  split
  · exact h
  · split
    · exact h
    · rename_i h2
      obtain ⟨u, hu, rfl⟩ := nI_of2 (M := 1000) (n := 1000) (x := w) (by decide) (fun z => h2 (Or.inr (Or.inl (Or.inl z)))) (Int32.not_lt.mp (fun z => h2 (Or.inr (Or.inl (Or.inr z)))))
      have h3 := sA_x (i := ix j) (v := y) h (a := 6) (by omega)
      have h4 : sA (su (su S 6 (ix j) y) 7 (ix j) (nI u)) := ⟨sW_7 h3.1 hu, sL_su h3.2.1 (by omega), sZ_su h3.2.2 (by omega)⟩
      exact sA_x h4 (by omega)
theorem A_hold {S : jS} (h : sA S) (i v : Int32) (hv : v = 0 ∨ v = 1) : sA (o_hold S i v).2.2 := by
  unfold o_hold
  split
  · exact h
  · split
    · exact h
    · exact ⟨sW_16 h.1 hv, sL_su h.2.1 (by omega), sZ_su h.2.2 (by omega)⟩
theorem A_read {S : jS} (h : sA S) (i : Int32) : sA (o_read S i).2.2 := by
  unfold o_read
  split
  · exact h
  · split
    · exact h
    · exact sA_x h (by omega)
theorem A_setBudget {S : jS} (h : sA S) (b : Int32) : sA (o_setBudget S b).2.2 := by
  unfold o_setBudget
  split
  · exact h
  · exact sA_x h (by omega)
theorem tk_A {S : jS} (h : sA S) {i j : Nat} (hi : i < sn S 0) (hj : j < 10) : sA (tk S i j) := ⟨tk_W h.1 hi hj, tk_L h.2.1 i j, fun x hx => by rw [tk_f (by omega) (by omega)]; exact h.2.2 x hx⟩
theorem A_move {S : jS} (h : sA S) (i f : Int32) : sA (o_move S i f).2.2 := by
  unfold o_move
  split
  · exact h
  · rename_i h1
    split
    · exact h
    · split
      · exact h
      · obtain ⟨a, ha, rfl, ea⟩ := bad_of (fun q => h1 (Or.inl q)) (by have := h.1.1.1; omega)
        obtain ⟨b, hb, rfl, eb⟩ := bad_of (fun q => h1 (Or.inr q)) (by decide)
        rw [ea, eb]
        exact tk_A h ha hb
theorem mv_5 : ∀ (n : Nat) (D : Nat → Bool) (S : jS) (x : Nat), sf (mv n D S).2 5 x = sf S 5 x
  | 0, _, _, _ => rfl
  | n + 1, D, S, x => by
    unfold mv
    cases nd S D (sn S 0) with
    | none => rfl
    | some i =>
      dsimp only
      split
      · exact (mv_5 n _ _ x).trans (tk_f (by omega) (by omega))
      · exact mv_5 n _ _ x
theorem A_moveAhead {S : jS} (h : sA S) : sA (o_moveAhead S).2.2 := by
  obtain ⟨g1, g2, g3⟩ := mv_W (sn S 0) (fun i => hvB S i && !sfB S i && decide (i < sn S 0)) S h.1 (fun i hi => by
    simp only [Bool.and_eq_true, decide_eq_true_eq] at hi
    exact hi.2)
  exact ⟨g1, fun j hj => by show sf (mv _ _ S).2 0 j ≤ 1000; rw [g3]; exact h.2.1 j hj, fun i hi => by show sf (mv _ _ S).2 5 i = 0; rw [mv_5]; exact h.2.2 i (by rw [← g2]; exact hi)⟩
theorem A_withdraw {S : jS} (h : sA S) (c : Int32) : sA (o_withdraw S c).2.2 := by
  unfold o_withdraw
  split
  · exact h
  · rename_i h1
    split
    · exact h
    · obtain ⟨a, ha, rfl, ea⟩ := bad_of h1 (by have := h.1.1.2; omega)
      rw [ea]
      refine ⟨sW_5 h.1, sL_su h.2.1 (by omega), fun i hi => ?_⟩
      show sf (su S 5 a 1) 5 i = 0
      have hi' : sn S 1 ≤ i := hi
      rw [sf_su, if_neg (by omega)]
      exact h.2.2 i hi'
theorem A_begin {S : jS} (h : sA S) : sA (o_begin S).2.2 := by
  unfold o_begin
  split
  · exact h
  · rename_i h1
    obtain ⟨u, hu, eu⟩ := h.1.2.2.2.2
    have hu9 : u ≠ 900 := fun q => h1 (by rw [eu, q]; rfl)
    have h2 : sW (su (su S 17 2 (sf S 17 2 + 1)) 17 1 (sf S 17 0)) := by
      rw [eu, nI_1]
      exact sW_x (sW_now h.1 (by omega)) (by omega)
    have h3 : sL (su (su S 17 2 (sf S 17 2 + 1)) 17 1 (sf S 17 0)) := sL_su (sL_su h.2.1 (by omega)) (by omega)
    have h4 : sZ (su (su S 17 2 (sf S 17 2 + 1)) 17 1 (sf S 17 0)) := sZ_su (sZ_su h.2.2 (by omega)) (by omega)
    generalize su (su S 17 2 (sf S 17 2 + 1)) 17 1 (sf S 17 0) = S1 at h2 h3 h4 ⊢
    refine ⟨nys_W h2 _, fun j hj => ?_, fun i hi => ?_⟩
    · show sf (nys S1 _).2 0 j ≤ 1000
      rw [nys_f _ (by decide)]
      exact h3 j hj
    · show sf (nys S1 _).2 5 i = 0
      rw [nys_f _ (by decide)]
      exact h4 i (by rw [← nys_n S1 1]; exact hi)
