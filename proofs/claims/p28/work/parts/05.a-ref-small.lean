/-! THE REFERENCE: SMALL METHODS AND THOSE THAT SEARCH NOTHING -/
theorem bad_in {x : Int32} {n : Nat} (hn : n + 1 < 2 ^ 31) : (0 ≤ x ∧ x ≤ nI n) ↔ ¬ bad x (n + 1) := by
  rw [Int32.le_iff_toInt_le, Int32.le_iff_toInt_le, bad, Int32.lt_iff_toInt_lt, Int32.le_iff_toInt_le, nI_toInt (by omega), nI_toInt hn]
  show (0 : Int) ≤ _ ∧ _ ↔ ¬ (_ < (0 : Int) ∨ _)
  omega
theorem bad_in1 {x : Int32} {n : Nat} (hn : n < 2 ^ 31) : (0 ≤ x ∧ x ≤ nI n - 1) ↔ ¬ bad x n := by
  cases n with
  | zero =>
    constructor
    · rintro ⟨h1, h2⟩
      rw [Int32.le_iff_toInt_le] at h1 h2
      have e : (nI 0 - 1 : Int32).toInt = -1 := by decide
      have e0 : (0 : Int32).toInt = 0 := by decide
      rw [e] at h2
      rw [e0] at h1
      omega
    · intro h
      refine absurd (?_ : bad x 0) h
      by_cases q : x < 0
      · exact Or.inl q
      · exact Or.inr (Int32.not_lt.mp q)
  | succ n =>
    rw [nI_pred]
    exact bad_in hn
/-- an end of the reference's: thrown tells the exception's place in the throws clause -/
def mret (o : Nat × Int32 × jS) (kc : Nat → Nat) (r : Option jV) (μ μ' : jM) : Prop := ∃ v, r = some (aI v) ∧ mI μ' 20 0 35 = nI (kc o.1) ∧ (o.1 = 0 → v = o.2.1) ∧ mR o.2.2 μ' ∧ mF μ μ'
def kA : Nat → Nat := fun c => c
def kB : Nat → Nat := fun c => if c = 3 then 2 else c
def kC : Nat → Nat := fun c => if c = 2 then 1 else c
def kD : Nat → Nat := fun c => if c = 3 then 1 else c
theorem mfail {o : Nat × Int32 × jS} {kc : Nat → Nat} {S S' : jS} {μ0 μ : jM} {c w : Nat} {v v0 x : Int32} (ho : o = (c, v0, S')) (hS : S' = S) (hc : c ≠ 0) (hk : kc c = w) (hx : x = nI w) (hR : mR S (sI μ 20 0 35 x)) (hF : mF μ0 μ) : mret o kc (some (aI v)) μ0 (sI μ 20 0 35 x) := by
  subst ho
  subst hS
  subst hx
  exact ⟨v, rfl, by rw [mI_sI_s]; exact (congrArg nI hk).symm, fun h => absurd h hc, hR, mF_sI (by decide) hF⟩
theorem mret_of {o : Nat × Int32 × jS} {kc : Nat → Nat} {μ μ' : jM} {v : Int32} {S' : jS} (ho : o = (0, v, S')) (h35 : mI μ' 20 0 35 = nI (kc 0)) (hR : mR S' μ') (hF : mF μ μ') : mret o kc (some (aI v)) μ μ' := by
  subst ho
  exact ⟨v, rfl, h35, fun _ => rfl, hR, hF⟩
theorem z35 {μ : jM} : mI (sI μ 20 0 35 0) 20 0 35 = nI 0 := mI_sI_s μ 20 0 35 0
