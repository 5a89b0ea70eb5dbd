/-! THE REFERENCE: METHODS OF THE FACE THAT SEARCH NOTHING -/
theorem nin {v a b : Int32} (h : ¬ (a ≤ v ∧ v ≤ b)) : v < a ∨ b < v := by
  by_cases q : a ≤ v
  · exact Or.inr (Int32.not_le.mp (fun q2 => h ⟨q, q2⟩))
  · exact Or.inl (Int32.not_le.mp q)
theorem inn {v a b : Int32} (h : a ≤ v ∧ v ≤ b) : ¬ (v < a ∨ b < v) := fun q => q.elim (fun q => absurd q (Int32.not_lt.mpr h.1)) (fun q => absurd q (Int32.not_lt.mpr h.2))
theorem z35n {μ : jM} {kd i z : Nat} {v : Int32} (h : mI μ 20 0 35 = nI 0) (hk : ¬ (20 = kd ∧ 35 = z)) : mI (sI μ kd i z v) 20 0 35 = nI 0 := by rw [mI_sI_n μ _ _ _ v (fun q => hk ⟨q.1, q.2.2⟩)]; exact h

/-- .. of law's, that returns nothing -/
def mretv (o : Nat × Int32 × jS) (kc : Nat → Nat) (μ μ' : jM) : Prop := mI μ' 20 0 35 = nI (kc o.1) ∧ mR o.2.2 μ' ∧ mF μ μ'
theorem mfailv {o : Nat × Int32 × jS} {S : jS} {μ0 μ : jM} {c : Nat} {v0 x : Int32} (ho : o = (c, v0, S)) (hc : c ≠ 0) (hk : kA c = c) (hx : x = nI c) (hR : mR S (sI μ 20 0 35 x)) (hF : mF μ0 μ) : mretv o kA μ0 (sI μ 20 0 35 x) := by
  subst ho
  subst hx
  exact ⟨by rw [mI_sI_s]; rfl, hR, mF_sI (by decide) hF⟩
theorem mlaw {S : jS} {μ : jM} {a : Nat} {j y w q : Int32} (hR : mR S μ) (ha : a < 5) (ho : o_law S j y w q = (0, 0, su (su (su S 6 a y) 7 a w) 8 a q)) : mretv (o_law S j y w q) kA μ (sI (sI (sI (sI μ 20 0 35 0) 27 0 a y) 28 0 a w) 29 0 a q) := by
  unfold mretv
  rw [ho]
  exact ⟨(z35n (z35n (z35n z35 (by omega)) (by omega)) (by omega)), mR_v (mR_v (mR_v (mR_x hR (Or.inl ⟨rfl, rfl⟩)) 27 rfl (by omega)) 28 rfl (by omega)) 29 rfl (by omega), mF_sI (by decide) (mF_sI (by decide) (mF_sI (by decide) (mF_sI (by decide) mF.rf)))⟩
