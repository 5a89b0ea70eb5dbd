/-! ALL WAYS HAVE NO GREATER QUALITY THAN THE BEST ONE (the first four rows are of part 08.c of whole) -/
section GQ
variable {S : jS} {a b : Nat}
theorem gq_ge (S : jS) (b : Nat) : ∀ (n x : Nat) (vis : List Nat) (q m : Int32), m ≤ gq S b n x vis q m
  | 0, _, _, _, m => Int32.le_refl m
  | n + 1, x, vis, q, m => by
    unfold gq
    refine fold_range _ (fun _ u => m ≤ u) ?_ (fun j u _ hu => ?_)
    · split
      · rename_i h
        exact Int32.le_of_lt h.2
      · exact Int32.le_refl m
    · split
      · exact Int32.le_trans hu (gq_ge S b n _ _ _ _)
      · exact hu
theorem gq_in (hW : sW S) : ∀ (n x : Nat) (w : List Nat) (m : Int32), okw S a [a] w x → w.length + n ≤ 10 → gq S b n x (vs S [a] w) (nI (qN S w 1000)) m = m ∨ ∃ z, vl S a b z ∧ gq S b n x (vs S [a] w) (nI (qN S w 1000)) m = nI (qN S z 1000)
  | 0, _, _, _, _, _ => Or.inl rfl
  | n + 1, x, w, m, hw, hl => by
    unfold gq
    refine fold_range _ (fun _ u => u = m ∨ ∃ z, vl S a b z ∧ u = nI (qN S z 1000)) ?_ (fun k u hk hu => ?_)
    · split
      · rename_i h
        exact Or.inr ⟨w, ⟨h.1 ▸ hw, by omega⟩, rfl⟩
      · exact Or.inl rfl
    · split
      · rename_i ho
        have ho := okb_iff.mp ho
        have h1 : okw S a [a] (w ++ [k]) (tO S k) := okw_snoc hw hk ho
        have h2 := gq_in hW n (tO S k) (w ++ [k]) u h1 (by rw [List.length_append]; show w.length + 1 + n ≤ 10; omega)
        rw [(nx_q hW hk).1]
        rw [vs_snoc] at h2
        rcases h2 with h2 | ⟨z, h3, h4⟩
        · rw [show gq S b n (ix (sf S 2 k)) (ix (sf S 2 k) :: vs S [a] w) (nI (qN S (w ++ [k]) 1000)) u = u from h2]
          exact hu
        · exact Or.inr ⟨z, h3, h4⟩
      · exact hu
theorem gq_all (hW : sW S) : ∀ (n x : Nat) (w z : List Nat) (m : Int32), okw S a [a] w x → okw S x (vs S [a] w) z b → z.length < n → nI (qN S (w ++ z) 1000) ≤ gq S b n x (vs S [a] w) (nI (qN S w 1000)) m
  | 0, _, _, _, _, _, _, h => absurd h (Nat.not_lt_zero _)
  | n + 1, x, w, [], m, hw, hz, hl => by
    unfold gq
    obtain rfl : x = b := hz
    rw [List.append_nil]
    refine fold_range _ (fun _ u => nI (qN S w 1000) ≤ u) ?_ (fun j u _ hu => ?_)
    · by_cases h : m < nI (qN S w 1000)
      · rw [if_pos ⟨rfl, h⟩]
        exact Int32.le_refl _
      · rw [if_neg (fun q => h q.2)]
        exact Int32.not_lt.mp h
    · split
      · exact Int32.le_trans hu (gq_ge S x n _ _ _ _)
      · exact hu
  | n + 1, x, w, k :: z, m, hw, hz, hl => by
    unfold gq
    have hk : k < sn S 1 := hz.1
    refine (fold_range (N := sn S 1) _ (fun j u => k < j → nI (qN S (w ++ k :: z) 1000) ≤ u) (fun q => absurd q (Nat.not_lt_zero k)) (fun j u hj hu hkj => ?_)) hk
    by_cases e : j = k
    · subst e
      rw [if_pos (okb_iff.mpr hz.2.1), (nx_q hW hk).1]
      have h1 : okw S a [a] (w ++ [j]) (tO S j) := okw_snoc hw hk hz.2.1
      have h2 := gq_all hW n (tO S j) (w ++ [j]) z u h1 (by rw [vs_snoc]; exact hz.2.2) (Nat.lt_of_succ_lt_succ hl)
      rw [vs_snoc, List.append_assoc] at h2
      exact h2
    · have h3 := hu (by omega)
      split
      · exact Int32.le_trans h3 (gq_ge S b n _ _ _ _)
      · exact h3
theorem gq_best (hW : sW S) : gq S b 10 a [a] 1000 (-1) = bq (best S a b) := by
  rw [best_wt hW]
  have h1 : gq S b 10 a [a] 1000 (-1) = -1 ∨ ∃ z, vl S a b z ∧ gq S b 10 a [a] 1000 (-1) = nI (qN S z 1000) := gq_in hW 10 a [] (-1) rfl (by simp)
  by_cases h : ∃ w, wins S a b w
  · obtain ⟨w, hw, e⟩ := wt_some h
    have h2 : nI (qN S w 1000) ≤ gq S b 10 a [a] 1000 (-1) := gq_all hW 10 a [] w (-1) rfl hw.1.1 (by have := hw.1.2; omega)
    rw [e]
    show _ = nI (qN S w 1000)
    obtain ⟨b1, b2, b3, b4, -⟩ := vl_b hW hw.1
    rcases h1 with h1 | ⟨z, h3, h4⟩
    · rw [h1] at h2
      exact absurd (Int32.le_trans (nI_pos' (by omega)) h2) (by decide)
    · rw [h4] at h2 ⊢
      obtain ⟨d1, d2, d3, d4, -⟩ := vl_b hW h3
      have h5 := (nI_leI (by omega) (by omega)).mp h2
      have hm := hw.2 z h3
      congr 1
      unfold mW ky at hm
      omega
  · rw [wt_none h]
    rcases h1 with h1 | ⟨z, h3, -⟩
    · exact h1
    · exact absurd (win_of _ z h3 (Nat.le_refl _)) h
/-- the best way, as a way -/
theorem best_w (hW : sW S) : (best S a b = none) ∨ ∃ w, best S a b = some (ent S w) ∧ vl S a b w := by
  cases h : best S a b with
  | none => exact Or.inl rfl
  | some e =>
    obtain ⟨w, rfl, h2⟩ := best_of hW h
    exact Or.inr ⟨w, rfl, h2⟩
theorem best_self (hW : sW S) (a : Nat) : best S a a = some (ent S []) := by
  have h0 : wins S a a [] := ⟨⟨rfl, Nat.zero_le _⟩, fun v _ => by
    have : mW S [] = 0 := by simp [mW, ky, qN, cN, cd]
    omega⟩
  obtain ⟨w, hw, e⟩ := wt_some ⟨_, h0⟩
  have h1 := hw.2 [] h0.1
  have h2 : mW S [] = 0 := by simp [mW, ky, qN, cN, cd]
  have h3 : w.length = 0 := by
    rw [h2] at h1
    unfold mW ky at h1
    omega
  rw [best_wt hW, e, List.length_eq_zero_iff.mp h3]
end GQ
