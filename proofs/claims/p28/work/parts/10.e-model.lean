/-! MAKERS: NETWORK, VAULT, MODEL -/
theorem jgen {J : Nat → List (Option jV) → List jV → jM → Nat → Nat → Prop} {pc : Nat} {L : List (Option jV)} {st : List jV} {k n : Nat} {μ1 : jM} {P : jM → Prop} (h : P μ1) (K : ∀ μ2, P μ2 → J pc L st μ2 k n) : J pc L st μ1 k n := K _ h
theorem jkn {J : Nat → List (Option jV) → List jV → jM → Nat → Nat → Prop} {pc : Nat} {L : List (Option jV)} {st : List jV} {k n k' n' : Nat} {μ1 : jM} (h1 : k = k') (h2 : n = n') (K : J pc L st μ1 k' n') : J pc L st μ1 k n := by
  subst h1
  subst h2
  exact K
/-- one thing made and laid into a field: what is where -/
def mk1 (μ : jM) (k a i f : Nat) : jM := sP (nw μ k) a i f (some (k, mN μ k))
theorem mN_mk1 (μ : jM) (k a i f x : Nat) : mN (mk1 μ k a i f) x = if x = k then mN μ k + 1 else mN μ x := rfl
theorem mI_mk1 (μ : jM) (k a i f x y z : Nat) : mI (mk1 μ k a i f) x y z = if x = k ∧ mN μ k ≤ y then 0 else mI μ x y z := rfl
theorem mG_mk1 (μ : jM) (k a i f x y z : Nat) : mG (mk1 μ k a i f) x y z = if x = k ∧ mN μ k ≤ y then 0 else mG μ x y z := rfl
theorem mP_mk1 (μ : jM) (k a i f x y z : Nat) : mP (mk1 μ k a i f) x y z = if x = a ∧ y = i ∧ z = f then some (k, mN μ k) else if x = k ∧ mN μ k ≤ y then none else mP μ x y z := rfl
theorem eqK_mk1 {μ : jM} {k a i f kd : Nat} (h1 : kd ≠ k) (h2 : kd ≠ a) : eqK μ (mk1 μ k a i f) kd := (eqK_nw h1).tr (eqK_sP h2)
/-- the model's rows, the first f of them -/
def mI0 (μ0 μ : jM) (f : Nat) : Prop := mN μ 20 = 1 ∧ (∀ g, g < 29 → mN μ (21 + g) = if g < f then 1 else 0) ∧ (∀ g, g < f → mP μ 20 0 g = some (21 + g, 0)) ∧ (∀ k y z, 20 ≤ k → k < 50 → mI μ k y z = 0) ∧ mF μ0 μ
theorem mI0_step {μ0 μ : jM} {f k : Nat} (h : mI0 μ0 μ f) (hf : f < 29) (hk : 21 + f = k) : mI0 μ0 (sP (nw μ k) 20 0 f (some (k, mN μ k))) (f + 1) := by
  subst hk
  obtain ⟨h1, h2, h3, h4, h5⟩ := h
  show mI0 μ0 (mk1 μ (21 + f) 20 0 f) (f + 1)
  have e0 : mN μ (21 + f) = 0 := by rw [h2 f hf, if_neg (Nat.lt_irrefl f)]
  refine ⟨?_, fun g hg => ?_, fun g hg => ?_, fun k y z hk1 hk2 => ?_, fun kd hk => ?_⟩
  · rw [mN_mk1, if_neg (by omega), h1]
  · rw [mN_mk1]
    by_cases e : g = f
    · subst e
      rw [if_pos rfl, e0, if_pos (by omega)]
    · rw [if_neg (by omega), h2 g hg]
      by_cases q : g < f
      · rw [if_pos q, if_pos (by omega)]
      · rw [if_neg q, if_neg (by omega)]
  · rw [mP_mk1]
    by_cases e : g = f
    · subst e
      rw [if_pos ⟨rfl, rfl, rfl⟩, e0]
    · rw [if_neg (by omega), if_neg (by omega), h3 g (by omega)]
  · rw [mI_mk1]
    split
    · rfl
    · exact h4 k y z hk1 hk2
  · exact (h5 kd hk).tr (eqK_mk1 (by omega) (by omega))