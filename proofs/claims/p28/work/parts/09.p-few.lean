/-! A FEW ROWS OF whole'S PARTS 09 -/
/-- converters that are not there are not withdrawn -/
def sZ (S : jS) : Prop := ∀ i, sn S 1 ≤ i → sf S 5 i = 0

theorem b1_nI {p : Prop} [Decidable p] (n : Nat) : nI n + b1 p = nI (n + if p then 1 else 0) := by
  unfold b1
  split
  · exact nI_1 n
  · exact Int32.add_zero _

theorem tk_f {S : jS} {i j a y : Nat} (h : ¬ ((a = 12 ∨ a = 9) ∧ y = i)) (h2 : a ≠ 17) : sf (tk S i j) a y = sf S a y := by
  unfold tk
  rw [sf_su, if_neg (by omega), sf_su, if_neg (by omega), sf_su, if_neg (by omega)]
