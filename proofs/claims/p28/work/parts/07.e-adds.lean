/-! ONE FILE MORE, ONE CONVERTER MORE -/
theorem xR_addF {S : jS} {μ μ' : jM} {j : Nat} {S' : jS} (h : xR S μ) (hj : j < 5)
    (hi : ∀ kd y z, ¬ (kd = 12 ∧ sn S 0 ≤ y) → ¬ (kd = 0 ∧ y = 0 ∧ z = 4) → mI μ' kd y z = mI μ kd y z) (hp : ∀ kd y z, ¬ (kd = 12 ∧ sn S 0 ≤ y) → ¬ (kd = 3 ∧ y = 0 ∧ z = sn S 0) → mP μ' kd y z = mP μ kd y z) (hn : ∀ kd, kd ≠ 12 → mN μ' kd = mN μ kd) (hn12 : mN μ' 12 = sn S 0 + 1)
    (e0 : mI μ' 0 0 4 = nI (sn S 0 + 1)) (p3 : mP μ' 3 0 (sn S 0) = some (12, sn S 0)) (p1 : mP μ' 12 (sn S 0) 1 = some (10, j))
    (hs : sn S' 0 = sn S 0 + 1 ∧ sn S' 1 = sn S 1) (hf : ∀ a x, ¬ (9 ≤ a ∧ a ≤ 16 ∧ x = sn S 0) → sf S' a x = sf S a x) (h11 : sf S' 11 (sn S 0) = nI j)
    (hv : mI μ' 12 (sn S 0) 0 = sf S' 10 (sn S 0) ∧ mI μ' 12 (sn S 0) 2 = sf S' 13 (sn S 0) ∧ mI μ' 12 (sn S 0) 3 = sf S' 9 (sn S 0) ∧ mI μ' 12 (sn S 0) 4 = sf S' 12 (sn S 0) ∧ mI μ' 12 (sn S 0) 5 = sf S' 14 (sn S 0) ∧ mI μ' 12 (sn S 0) 6 = sf S' 15 (sn S 0) ∧ mI μ' 12 (sn S 0) 7 = sf S' 16 (sn S 0)) : xR S' μ' := by
  have hc : cK S S' := ⟨hs.2, fun a c h1 h2 => hf a c (by omega)⟩
  obtain ⟨b1, b2, b3, b4, b5, b6, b7, b8, b9, b10⟩ := h.B
  refine ⟨⟨?_, ?_, ?_, ?_, ?_, ?_, ?_, ?_, fun i hi9 => ?_, ?_⟩, ⟨by rw [hn12, hs.1], by rw [hn 13 (by decide), hs.2]; exact h.n13, by rw [e0, hs.1], by rw [hi 4 0 1 (by omega) (by omega), hs.2]; exact h.nc⟩, ⟨by rw [hi _ _ _ (by omega) (by omega), hf _ _ (by omega)]; exact h.now, by rw [hi _ _ _ (by omega) (by omega), hf _ _ (by omega)]; exact h.bud, by rw [hi _ _ _ (by omega) (by omega), hf _ _ (by omega)]; exact h.uns⟩, fun i h9 => by rw [hi _ _ _ (by omega) (by omega), hf _ _ (by omega)]; exact h.last h9, fun i h9 => ?_, fun i h9 => ?_, fun c h9 => ?_, ⟨fun a ha => ?_, fun c a hc9 ha hfr => ?_⟩, fun a ha => ?_⟩
  · simp only [hn 0 (by decide), hn 1 (by decide), hn 2 (by decide), hn 3 (by decide), hn 4 (by decide), hn 5 (by decide), hn 6 (by decide), hn 7 (by decide), hn 8 (by decide), hn 9 (by decide)]; exact b1
  · simp only [hn 10 (by decide), hn 11 (by decide), hn 14 (by decide), hn 15 (by decide), hn 16 (by decide), hn 17 (by decide), hn 18 (by decide)]; exact b2
  · rw [hp 0 0 0 (by omega) (by omega), hp 0 0 1 (by omega) (by omega), hp 0 0 2 (by omega) (by omega), hp 0 0 3 (by omega) (by omega)]; exact b3
  · rw [hp 4 0 0 (by omega) (by omega), hp 4 0 2 (by omega) (by omega), hp 4 0 3 (by omega) (by omega), hp 4 0 4 (by omega) (by omega), hp 4 0 5 (by omega) (by omega)]; exact b4
  · exact fun i h9 => by rw [hp 2 0 i (by omega) (by omega)]; exact b5 i h9
  · exact fun i h9 => by rw [hp 8 0 i (by omega) (by omega)]; exact b6 i h9
  · exact fun i h9 => by rw [hp 11 i 0 (by omega) (by omega), hp 11 i 1 (by omega) (by omega), hp 11 i 2 (by omega) (by omega), hp 11 i 3 (by omega) (by omega)]; exact b7 i h9
  · exact fun i j h9 h8 => by rw [hp 17 i j (by omega) (by omega)]; exact b8 i j h9 h8
  · rw [hn12] at hi9
    by_cases e : i = sn S 0
    · rw [e]; exact p3
    · rw [hp 3 0 i (by omega) (by omega)]
      exact b9 i (by rw [h.n12]; omega)
  · exact fun i h9 => by rw [hp 5 0 i (by omega) (by omega)]; exact b10 i (by rw [← hn 13 (by decide)]; exact h9)
  · rw [hi 10 i 0 (by omega) (by omega), hi 10 i 1 (by omega) (by omega), hi 10 i 2 (by omega) (by omega), hf 6 _ (by omega), hf 7 _ (by omega), hf 8 _ (by omega)]
    exact ⟨h.ly h9, h.ll h9, h.lr h9⟩
  · rw [hs.1] at h9
    by_cases e : i = sn S 0
    · rw [e]
      exact ⟨hv, j, hj, h11, p1⟩
    · have h8 : i < sn S 0 := by omega
      rw [hi 12 i 0 (by omega) (by omega), hi 12 i 2 (by omega) (by omega), hi 12 i 3 (by omega) (by omega), hi 12 i 4 (by omega) (by omega), hi 12 i 5 (by omega) (by omega), hi 12 i 6 (by omega) (by omega), hi 12 i 7 (by omega) (by omega), hp 12 i 1 (by omega) (by omega), hf 9 i (by omega), hf 10 i (by omega), hf 11 i (by omega), hf 12 i (by omega), hf 13 i (by omega), hf 14 i (by omega), hf 15 i (by omega), hf 16 i (by omega)]
      exact ⟨⟨h.fsz h8, h.fen h8, h.ffm h8, h.fq h8, h.frd h8, h.fst h8, h.fhl h8⟩, h.flw h8⟩
  · rw [hs.2] at h9
    rw [hi 13 c 0 (by omega) (by omega), hi 13 c 1 (by omega) (by omega), hi 13 c 2 (by omega) (by omega), hi 13 c 3 (by omega) (by omega), hi 13 c 4 (by omega) (by omega), hi 13 c 5 (by omega) (by omega), hf 1 _ (by omega), hf 2 _ (by omega), hf 3 _ (by omega), hf 4 _ (by omega), hf 5 _ (by omega)]
    exact ⟨h.cnum h9, h.cfr h9, h.cto h9, h.clo h9, h.cco h9, h.cwd h9⟩
  · rw [hp 6 0 a (by omega) (by omega), hp 7 0 a (by omega) (by omega), nxt_cK hc, lst_cK hc]
    exact ⟨h.low ha, h.high ha⟩
  · rw [hs.2] at hc9
    rw [hf 1 c (by omega)] at hfr
    rw [hp 13 c 6 (by omega) (by omega), nxt_cK hc]
    exact h.next hc9 ha hfr
  · rw [hi 11 a 4 (by omega) (by omega), best_cK hc]
    exact (h.cache ha).imp id (fun q => ⟨q.1, xTab_same q.2 (fun kd z hk => hi kd a z (by omega) (by omega)) (fun b z hb => hi 18 _ z (by omega) (by omega))⟩)
theorem fr_rev (p : Nat → Bool) : ∀ (n : Nat), (∀ k, (List.range n).reverse.find? p = some k → k < n ∧ p k = true ∧ ∀ i, k < i → i < n → p i = false) ∧ ((List.range n).reverse.find? p = none → ∀ i, i < n → p i = false)
  | 0 => ⟨fun k h => (by cases h), fun _ i h1 => (by omega)⟩
  | n + 1 => by
    obtain ⟨h1, h2⟩ := fr_rev p n
    rw [List.range_succ, List.reverse_append]
    show (∀ k, (n :: (List.range n).reverse).find? p = some k → _) ∧ ((n :: (List.range n).reverse).find? p = none → _)
    rw [List.find?_cons]
    cases hp : p n with
    | true =>
      refine ⟨fun k h => ?_, fun h => (by cases h)⟩
      cases h
      exact ⟨Nat.lt_succ_self n, hp, fun i h3 h4 => by omega⟩
    | false =>
      refine ⟨fun k h => ?_, fun h i h3 => ?_⟩
      · obtain ⟨a1, a2, a3⟩ := h1 k h
        refine ⟨by omega, a2, fun i h3 h4 => ?_⟩
        by_cases e : i = n
        · rw [e]; exact hp
        · exact a3 i h3 (by omega)
      · by_cases e : i = n
        · rw [e]; exact hp
        · exact h2 h i (by omega)
theorem lst_s {S : jS} {a k : Nat} (h : lst S a = some k) : k < sn S 1 ∧ sf S 1 k = nI a ∧ ∀ i, k < i → i < sn S 1 → ¬ sf S 1 i = nI a := by
  obtain ⟨a1, a2, a3⟩ := (fr_rev _ _).1 k h
  exact ⟨a1, of_decide_eq_true a2, fun i h1 h2 => of_decide_eq_false (a3 i h1 h2)⟩
theorem lst_n {S : jS} {a : Nat} (h : lst S a = none) : ∀ i, i < sn S 1 → ¬ sf S 1 i = nI a := fun i h1 => of_decide_eq_false ((fr_rev _ _).2 h i h1)
theorem nxt_is {S : jS} {a j k : Nat} (h1 : j ≤ k) (h2 : k < sn S 1) (h3 : sf S 1 k = nI a) (h4 : ∀ i, j ≤ i → i < k → ¬ sf S 1 i = nI a) : nxt S a j = some k := by
  cases h : nxt S a j with
  | none => exact absurd h3 (nxt_n h k h1 h2)
  | some k' =>
    obtain ⟨a1, a2, a3, a4⟩ := nxt_s h
    rcases Nat.lt_trichotomy k k' with q | q | q
    · exact absurd h3 (a4 k h1 q)
    · rw [q]
    · exact absurd a3 (h4 k' a1 q)
theorem nxt_no {S : jS} {a j : Nat} (h : ∀ i, j ≤ i → i < sn S 1 → ¬ sf S 1 i = nI a) : nxt S a j = none := by
  cases h2 : nxt S a j with
  | none => rfl
  | some k =>
    obtain ⟨a1, a2, a3, a4⟩ := nxt_s h2
    exact absurd a3 (h k a1 a2)
theorem lst_is {S : jS} {a k : Nat} (h2 : k < sn S 1) (h3 : sf S 1 k = nI a) (h4 : ∀ i, k < i → i < sn S 1 → ¬ sf S 1 i = nI a) : lst S a = some k := by
  cases h : lst S a with
  | none => exact absurd h3 (lst_n h k h2)
  | some k' =>
    obtain ⟨a2, a3, a4⟩ := lst_s h
    rcases Nat.lt_trichotomy k k' with q | q | q
    · exact absurd a3 (h4 k' q a2)
    · rw [q]
    · exact absurd h3 (a4 k q h2)
theorem lst_no {S : jS} {a : Nat} (h : ∀ i, i < sn S 1 → ¬ sf S 1 i = nI a) : lst S a = none := by
  cases h2 : lst S a with
  | none => rfl
  | some k =>
    obtain ⟨a2, a3, a4⟩ := lst_s h2
    exact absurd a3 (h k a2)
section ADD
variable {S S' : jS} {a : Nat} (ha : a < 10) (hs : sn S' 1 = sn S 1 + 1) (hf : ∀ k, k < sn S 1 → sf S' 1 k = sf S 1 k) (hN : sf S' 1 (sn S 1) = nI a)
theorem nxt_o (hs : sn S' 1 = sn S 1 + 1) (hf : ∀ k, k < sn S 1 → sf S' 1 k = sf S 1 k) {x k i : Nat} (h : nxt S x k = some i) : nxt S' x k = some i := by
  obtain ⟨a1, a2, a3, a4⟩ := nxt_s h
  exact nxt_is a1 (by omega) (by rw [hf i a2]; exact a3) (fun j h1 h2 => by rw [hf j (by omega)]; exact a4 j h1 h2)
theorem nxt_w (hs : sn S' 1 = sn S 1 + 1) (hf : ∀ k, k < sn S 1 → sf S' 1 k = sf S 1 k) (hN : sf S' 1 (sn S 1) = nI a) {k : Nat} (hk : k ≤ sn S 1) (h : nxt S a k = none) : nxt S' a k = some (sn S 1) := nxt_is hk (by omega) hN (fun j h1 h2 => by rw [hf j h2]; exact nxt_n h j h1 h2)
theorem nxt_e (ha : a < 10) (hs : sn S' 1 = sn S 1 + 1) (hf : ∀ k, k < sn S 1 → sf S' 1 k = sf S 1 k) (hN : sf S' 1 (sn S 1) = nI a) {x k : Nat} (hx : x < 10) (hxa : x ≠ a) : nxt S' x k = nxt S x k := by
  cases h : nxt S x k with
  | some i => exact nxt_o hs hf h
  | none =>
    refine nxt_no (fun i h1 h2 => ?_)
    by_cases e : i = sn S 1
    · rw [e, hN]
      exact fun q => hxa ((nI_eq (by omega) (by omega)).mp q).symm
    · rw [hf i (by omega)]
      exact nxt_n h i h1 (by omega)
theorem lst_e (ha : a < 10) (hs : sn S' 1 = sn S 1 + 1) (hf : ∀ k, k < sn S 1 → sf S' 1 k = sf S 1 k) (hN : sf S' 1 (sn S 1) = nI a) {x : Nat} (hx : x < 10) (hxa : x ≠ a) : lst S' x = lst S x := by
  have hne : ¬ sf S' 1 (sn S 1) = nI x := by
    rw [hN]
    exact fun q => hxa ((nI_eq (by omega) (by omega)).mp q).symm
  cases h : lst S x with
  | some i =>
    obtain ⟨a2, a3, a4⟩ := lst_s h
    refine lst_is (by omega) (by rw [hf i a2]; exact a3) (fun j h1 h2 => ?_)
    by_cases e : j = sn S 1
    · rw [e]; exact hne
    · rw [hf j (by omega)]
      exact a4 j h1 (by omega)
  | none =>
    refine lst_no (fun i h2 => ?_)
    by_cases e : i = sn S 1
    · rw [e]; exact hne
    · rw [hf i (by omega)]
      exact lst_n h i (by omega)
end ADD
theorem xR_addC {S : jS} {μ μ' : jM} {a : Nat} {S' : jS} (h : xR S μ) (ha : a < 10)
    (hi : ∀ kd y z, kd ≠ 11 → ¬ (kd = 13 ∧ sn S 1 ≤ y) → ¬ (kd = 4 ∧ y = 0 ∧ z = 1) → mI μ' kd y z = mI μ kd y z) (h0 : ∀ b, b < 10 → mI μ' 11 b 4 = 0)
    (hp : ∀ kd y z, ¬ (kd = 13 ∧ (sn S 1 ≤ y ∨ (z = 6 ∧ lst S a = some y))) → ¬ (kd = 7 ∧ y = 0 ∧ z = a) → ¬ (kd = 5 ∧ y = 0 ∧ z = sn S 1) → ¬ (kd = 6 ∧ y = 0 ∧ z = a ∧ lst S a = none) → mP μ' kd y z = mP μ kd y z) (hn : ∀ kd, kd ≠ 13 → mN μ' kd = mN μ kd) (hn13 : mN μ' 13 = sn S 1 + 1)
    (e0 : mI μ' 4 0 1 = nI (sn S 1 + 1)) (p7 : mP μ' 7 0 a = some (13, sn S 1)) (p5 : mP μ' 5 0 (sn S 1) = some (13, sn S 1)) (p6 : lst S a = none → mP μ' 6 0 a = some (13, sn S 1)) (p13 : ∀ i, lst S a = some i → mP μ' 13 i 6 = some (13, sn S 1)) (pN : mP μ' 13 (sn S 1) 6 = none)
    (hs : sn S' 1 = sn S 1 + 1 ∧ sn S' 0 = sn S 0) (hf : ∀ b x, ¬ (1 ≤ b ∧ b ≤ 5 ∧ x = sn S 1) → sf S' b x = sf S b x) (h1N : sf S' 1 (sn S 1) = nI a)
    (hv : mI μ' 13 (sn S 1) 0 = nI (sn S 1) ∧ mI μ' 13 (sn S 1) 1 = sf S' 1 (sn S 1) ∧ mI μ' 13 (sn S 1) 2 = sf S' 2 (sn S 1) ∧ mI μ' 13 (sn S 1) 3 = sf S' 3 (sn S 1) ∧ mI μ' 13 (sn S 1) 4 = sf S' 4 (sn S 1) ∧ mI μ' 13 (sn S 1) 5 = sf S' 5 (sn S 1)) : xR S' μ' := by
  have hf1 : ∀ k, k < sn S 1 → sf S' 1 k = sf S 1 k := fun k hk => hf 1 k (by omega)
  obtain ⟨b1, b2, b3, b4, b5, b6, b7, b8, b9, b10⟩ := h.B
  refine ⟨⟨?_, ?_, ?_, ?_, ?_, ?_, ?_, ?_, ?_, fun i hi9 => ?_⟩, ⟨by rw [hn 12 (by decide), hs.2]; exact h.n12, by rw [hn13, hs.1], by rw [hi _ _ _ (by omega) (by omega) (by omega), hs.2]; exact h.fc, by rw [e0, hs.1]⟩, ⟨by rw [hi _ _ _ (by omega) (by omega) (by omega), hf _ _ (by omega)]; exact h.now, by rw [hi _ _ _ (by omega) (by omega) (by omega), hf _ _ (by omega)]; exact h.bud, by rw [hi _ _ _ (by omega) (by omega) (by omega), hf _ _ (by omega)]; exact h.uns⟩, fun i h9 => by rw [hi _ _ _ (by omega) (by omega) (by omega), hf _ _ (by omega)]; exact h.last h9, fun i h9 => ?_, fun i h9 => ?_, fun c h9 => ?_, ⟨fun x hx => ⟨?_, ?_⟩, fun c x hc9 hx hfr => ?_⟩, fun x hx => Or.inl (h0 x hx)⟩
  · simp only [hn 0 (by decide), hn 1 (by decide), hn 2 (by decide), hn 3 (by decide), hn 4 (by decide), hn 5 (by decide), hn 6 (by decide), hn 7 (by decide), hn 8 (by decide), hn 9 (by decide)]; exact b1
  · simp only [hn 10 (by decide), hn 11 (by decide), hn 14 (by decide), hn 15 (by decide), hn 16 (by decide), hn 17 (by decide), hn 18 (by decide)]; exact b2
  · rw [hp 0 0 0 (by omega) (by omega) (by omega) (by omega), hp 0 0 1 (by omega) (by omega) (by omega) (by omega), hp 0 0 2 (by omega) (by omega) (by omega) (by omega), hp 0 0 3 (by omega) (by omega) (by omega) (by omega)]; exact b3
  · rw [hp 4 0 0 (by omega) (by omega) (by omega) (by omega), hp 4 0 2 (by omega) (by omega) (by omega) (by omega), hp 4 0 3 (by omega) (by omega) (by omega) (by omega), hp 4 0 4 (by omega) (by omega) (by omega) (by omega), hp 4 0 5 (by omega) (by omega) (by omega) (by omega)]; exact b4
  · exact fun i h9 => by rw [hp 2 0 i (by omega) (by omega) (by omega) (by omega)]; exact b5 i h9
  · exact fun i h9 => by rw [hp 8 0 i (by omega) (by omega) (by omega) (by omega)]; exact b6 i h9
  · exact fun i h9 => by rw [hp 11 i 0 (by omega) (by omega) (by omega) (by omega), hp 11 i 1 (by omega) (by omega) (by omega) (by omega), hp 11 i 2 (by omega) (by omega) (by omega) (by omega), hp 11 i 3 (by omega) (by omega) (by omega) (by omega)]; exact b7 i h9
  · exact fun i j h9 h8 => by rw [hp 17 i j (by omega) (by omega) (by omega) (by omega)]; exact b8 i j h9 h8
  · exact fun i h9 => by rw [hp 3 0 i (by omega) (by omega) (by omega) (by omega)]; exact b9 i (by rw [← hn 12 (by decide)]; exact h9)
  · rw [hn13] at hi9
    by_cases e : i = sn S 1
    · rw [e]; exact p5
    · rw [hp 5 0 i (by omega) (by omega) (by omega) (by omega)]
      exact b10 i (by rw [h.n13]; omega)
  · rw [hi 10 i 0 (by omega) (by omega) (by omega), hi 10 i 1 (by omega) (by omega) (by omega), hi 10 i 2 (by omega) (by omega) (by omega), hf 6 _ (by omega), hf 7 _ (by omega), hf 8 _ (by omega)]
    exact ⟨h.ly h9, h.ll h9, h.lr h9⟩
  · rw [hs.2] at h9
    rw [hi 12 i 0 (by omega) (by omega) (by omega), hi 12 i 2 (by omega) (by omega) (by omega), hi 12 i 3 (by omega) (by omega) (by omega), hi 12 i 4 (by omega) (by omega) (by omega), hi 12 i 5 (by omega) (by omega) (by omega), hi 12 i 6 (by omega) (by omega) (by omega), hi 12 i 7 (by omega) (by omega) (by omega), hp 12 i 1 (by omega) (by omega) (by omega) (by omega), hf 9 i (by omega), hf 10 i (by omega), hf 11 i (by omega), hf 12 i (by omega), hf 13 i (by omega), hf 14 i (by omega), hf 15 i (by omega), hf 16 i (by omega)]
    exact ⟨⟨h.fsz h9, h.fen h9, h.ffm h9, h.fq h9, h.frd h9, h.fst h9, h.fhl h9⟩, h.flw h9⟩
  · rw [hs.1] at h9
    by_cases e : c = sn S 1
    · rw [e]; exact hv
    · have h8 : c < sn S 1 := by omega
      rw [hi 13 c 0 (by omega) (by omega) (by omega), hi 13 c 1 (by omega) (by omega) (by omega), hi 13 c 2 (by omega) (by omega) (by omega), hi 13 c 3 (by omega) (by omega) (by omega), hi 13 c 4 (by omega) (by omega) (by omega), hi 13 c 5 (by omega) (by omega) (by omega), hf 1 _ (by omega), hf 2 _ (by omega), hf 3 _ (by omega), hf 4 _ (by omega), hf 5 _ (by omega)]
      exact ⟨h.cnum h8, h.cfr h8, h.cto h8, h.clo h8, h.cco h8, h.cwd h8⟩
  · by_cases e : x = a
    · subst e
      cases hl : lst S x with
      | none =>
        rw [p6 hl, nxt_w hs.1 hf1 h1N (Nat.zero_le _) (nxt_no (fun i _ h2 => lst_n hl i h2))]
        rfl
      | some i =>
        rw [hp 6 0 x (by omega) (by omega) (by omega) (fun q => by rw [hl] at q; cases q.2.2.2), h.low hx]
        obtain ⟨a2, a3, a4⟩ := lst_s hl
        cases hn9 : nxt S x 0 with
        | none => exact absurd a3 (nxt_n hn9 i (Nat.zero_le _) a2)
        | some k => rw [nxt_o hs.1 hf1 hn9]
    · rw [hp 6 0 x (by omega) (by omega) (by omega) (by omega), h.low hx, nxt_e ha hs.1 hf1 h1N hx e]
  · by_cases e : x = a
    · subst e
      rw [p7, lst_is (S := S') (by rw [hs.1]; omega) h1N (fun i h1 h2 => by omega)]
      rfl
    · rw [hp 7 0 x (by omega) (by omega) (by omega) (by omega), h.high hx, lst_e ha hs.1 hf1 h1N hx e]
  · rw [hs.1] at hc9
    by_cases e : c = sn S 1
    · rw [e, pN, nxt_no (fun i h1 h2 => by omega)]
      rfl
    · have h8 : c < sn S 1 := by omega
      rw [hf1 c h8] at hfr
      by_cases ex : x = a
      · subst ex
        cases hn9 : nxt S x (c + 1) with
        | none =>
          rw [nxt_w hs.1 hf1 h1N (by omega) hn9, p13 c (lst_is h8 hfr (fun i h1 h2 => nxt_n hn9 i h1 h2))]
          rfl
        | some k =>
          obtain ⟨a1, a2, a3, a4⟩ := nxt_s hn9
          rw [nxt_o hs.1 hf1 hn9, hp 13 c 6 (fun q => q.2.elim (fun q => by omega) (fun q => (lst_s q.2).2.2 k (by omega) a2 a3)) (by omega) (by omega) (by omega), h.next h8 hx hfr, hn9]
      · rw [nxt_e ha hs.1 hf1 h1N hx ex, hp 13 c 6 (fun q => q.2.elim (fun q => by omega) (fun q => ex (by
          have := (lst_s q.2).2.1
          rw [hfr] at this
          exact (nI_eq (by omega) (by omega)).mp this))) (by omega) (by omega) (by omega)]
        exact h.next h8 hx hfr
