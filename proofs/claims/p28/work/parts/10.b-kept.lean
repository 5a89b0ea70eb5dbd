/-! .. WITH ONE CONVERTER OR FILE MORE -/
theorem A_converter {S : jS} (h : sA S) (a b lo co : Int32) : sA (o_converter S a b lo co).2.2 := by
  unfold o_converter
  split
  · exact h
  · rename_i h1
    split
    · exact h
    · rename_i h2
      split
      · exact h
      · rename_i h3
        obtain ⟨i, hi, rfl, -⟩ := bad_of (fun q => h1 (Or.inl q)) (by decide)
        obtain ⟨j, hj, rfl, -⟩ := bad_of (fun q => h1 (Or.inr q)) (by decide)
        obtain ⟨u, hu, rfl⟩ := nI_of2 (M := 500) (n := 500) (x := lo) (by decide) (fun z => h2 (Or.inl (Or.inl z))) (Int32.not_lt.mp (fun z => h2 (Or.inl (Or.inr z))))
        obtain ⟨w, hw, rfl⟩ := nI_of2 (M := 100) (n := 100) (x := co) (by decide) (fun z => h2 (Or.inr (Or.inl (Or.inl z)))) (Int32.not_lt.mp (fun z => h2 (Or.inr (Or.inl (Or.inr z)))))
        obtain ⟨S', e⟩ : ∃ S', S' = sa (su (su (su (su (su S 1 (sn S 1) (nI i)) 2 (sn S 1) (nI j)) 3 (sn S 1) (nI u)) 4 (sn S 1) (nI w)) 5 (sn S 1) 0) 1 := ⟨_, rfl⟩
        have n1 : sn S' 1 = sn S 1 + 1 := by rw [e]; simp [sn_sa, sn_su]
        have n0 : sn S' 0 = sn S 0 := by rw [e]; simp [sn_sa, sn_su]
        have f : ∀ a x, ¬ (1 ≤ a ∧ a ≤ 5 ∧ x = sn S 1) → sf S' a x = sf S a x := fun a x q => by
          rw [e, sf_sa, sf_su, if_neg (by omega), sf_su, if_neg (by omega), sf_su, if_neg (by omega), sf_su, if_neg (by omega), sf_su, if_neg (by omega)]
        have v1 : sf S' 1 (sn S 1) = nI i := by rw [e]; simp [sf_sa, sf_su]
        have v2 : sf S' 2 (sn S 1) = nI j := by rw [e]; simp [sf_sa, sf_su]
        have v3 : sf S' 3 (sn S 1) = nI u := by rw [e]; simp [sf_sa, sf_su]
        have v4 : sf S' 4 (sn S 1) = nI w := by rw [e]; simp [sf_sa, sf_su]
        have v5 : sf S' 5 (sn S 1) = 0 := by rw [e]; simp [sf_sa, sf_su]
        show sA (sa (su (su (su (su (su S 1 (sn S 1) (nI i)) 2 (sn S 1) (nI j)) 3 (sn S 1) (nI u)) 4 (sn S 1) (nI w)) 5 (sn S 1) 0) 1)
        rw [← e]
        obtain ⟨⟨g1, g2, g3, g4, g5⟩, gL, gZ⟩ := h
        refine ⟨⟨⟨by rw [n0]; exact g1.1, by rw [n1]; have := g1.2; omega⟩, fun c hc => ?_, fun k hk => ?_, fun k hk => ?_, ?_⟩, fun k hk => ?_, fun k hk => ?_⟩
        · by_cases q : c = sn S 1
          · rw [q, v1, v2, v3, v4, v5]
            exact ⟨⟨i, hi, rfl⟩, ⟨j, hj, rfl⟩, ⟨u, hu, rfl⟩, ⟨w, hw, rfl⟩, Or.inl rfl⟩
          · rw [f 1 c (by omega), f 2 c (by omega), f 3 c (by omega), f 4 c (by omega), f 5 c (by omega)]
            exact g2 c (by omega)
        · rw [f 9 k (by omega), f 10 k (by omega), f 11 k (by omega), f 12 k (by omega), f 16 k (by omega)]
          exact g3 k (by rw [← n0]; exact hk)
        · rw [f 7 k (by omega)]
          exact g4 k hk
        · rw [f 17 2 (by omega)]
          exact g5
        · rw [f 0 k (by omega)]
          exact gL k hk
        · rw [n1] at hk
          rw [f 5 k (by omega)]
          exact gZ k (by omega)
theorem A_file {S : jS} (h : sA S) (f9 sz x : Int32) : sA (o_file S f9 sz x).2.2 := by
  unfold o_file
  split
  · exact h
  · rename_i h1
    split
    · exact h
    · rename_i h2
      split
      · exact h
      · rename_i h3
        obtain ⟨i, hi, rfl, ei⟩ := bad_of (fun q => h1 (Or.inl q)) (by decide)
        obtain ⟨j, hj, rfl, ej⟩ := bad_of (fun q => h1 (Or.inr q)) (by decide)
        obtain ⟨u, hu, rfl⟩ := nI_of2 (M := 100) (n := 100) (x := sz) (by decide) (fun z => h2 (Or.inl (Int32.lt_trans z (by decide)))) (Int32.not_lt.mp (fun z => h2 (Or.inr z)))
        have hu1 : 1 ≤ u := Nat.pos_of_ne_zero (fun z => h2 (Or.inl (by rw [z]; decide)))
        obtain ⟨S', e⟩ : ∃ S', S' = sa (su (su (su (su (su (su (su (su S 9 (sn S 0) (nI i)) 10 (sn S 0) (nI u)) 11 (sn S 0) (nI j)) 12 (sn S 0) 1000) 13 (sn S 0) (sf S 17 2 + sf S 6 (ix (nI j)))) 14 (sn S 0) (sf S 17 2)) 15 (sn S 0) 0) 16 (sn S 0) 0) 0 := ⟨_, rfl⟩
        have n0 : sn S' 0 = sn S 0 + 1 := by rw [e]; simp [sn_sa, sn_su]
        have n1 : sn S' 1 = sn S 1 := by rw [e]; simp [sn_sa, sn_su]
        have f : ∀ a x, ¬ (9 ≤ a ∧ a ≤ 16 ∧ x = sn S 0) → sf S' a x = sf S a x := fun a x q => by
          rw [e, sf_sa, sf_su, if_neg (by omega), sf_su, if_neg (by omega), sf_su, if_neg (by omega), sf_su, if_neg (by omega), sf_su, if_neg (by omega), sf_su, if_neg (by omega), sf_su, if_neg (by omega), sf_su, if_neg (by omega)]
        have v1 : sf S' 9 (sn S 0) = nI i := by rw [e]; simp [sf_sa, sf_su]
        have v2 : sf S' 10 (sn S 0) = nI u := by rw [e]; simp [sf_sa, sf_su]
        have v3 : sf S' 11 (sn S 0) = nI j := by rw [e]; simp [sf_sa, sf_su]
        have v4 : sf S' 12 (sn S 0) = 1000 := by rw [e]; simp [sf_sa, sf_su]
        have v5 : sf S' 16 (sn S 0) = 0 := by rw [e]; simp [sf_sa, sf_su]
        show sA (sa (su (su (su (su (su (su (su (su S 9 (sn S 0) (nI i)) 10 (sn S 0) (nI u)) 11 (sn S 0) (nI j)) 12 (sn S 0) 1000) 13 (sn S 0) (sf S 17 2 + sf S 6 (ix (nI j)))) 14 (sn S 0) (sf S 17 2)) 15 (sn S 0) 0) 16 (sn S 0) 0) 0)
        rw [← e]
        obtain ⟨⟨g1, g2, g3, g4, g5⟩, gL, gZ⟩ := h
        have h40 : ¬ sn S 0 = 40 := fun q => h3 (Or.inl q)
        refine ⟨⟨⟨by rw [n0]; have := g1.1; omega, by rw [n1]; exact g1.2⟩, fun c hc => ?_, fun k hk => ?_, fun k hk => ?_, ?_⟩, fun k hk => ?_, fun k hk => ?_⟩
        · rw [f 1 c (by omega), f 2 c (by omega), f 3 c (by omega), f 4 c (by omega), f 5 c (by omega)]
          exact g2 c (by rw [← n1]; exact hc)
        · by_cases q : k = sn S 0
          · rw [q, v1, v2, v3, v4, v5]
            exact ⟨⟨i, hi, rfl⟩, ⟨j, hj, rfl⟩, ⟨1000, Nat.le_refl _, rfl⟩, ⟨u, hu1, hu, rfl⟩, Or.inl rfl⟩
          · rw [f 9 k (by omega), f 10 k (by omega), f 11 k (by omega), f 12 k (by omega), f 16 k (by omega)]
            exact g3 k (by omega)
        · rw [f 7 k (by omega)]
          exact g4 k hk
        · rw [f 17 2 (by omega)]
          exact g5
        · rw [f 0 k (by omega)]
          exact gL k hk
        · rw [f 5 k (by omega)]
          exact gZ k (by rw [← n1]; exact hk)
