/-! A FEW ROWS OF whole'S PARTS 09 -/
/-- converters that are not there are not withdrawn -/
def sZ (S : jS) : Prop := ∀ i, sn S 1 ≤ i → sf S 5 i = 0

theorem tk_f {S : jS} {i j a y : Nat} (h : ¬ ((a = 12 ∨ a = 9) ∧ y = i)) (h2 : a ≠ 17) : sf (tk S i j) a y = sf S a y := by
  unfold tk
  rw [sf_su, if_neg (by omega), sf_su, if_neg (by omega), sf_su, if_neg (by omega)]
