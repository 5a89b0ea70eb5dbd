/-! THE LAW: WHERE ITS ACTS COME TOGETHER -/
def lmask : List Bool → List (Option jV) → List (Option jV)
  | true :: m, x :: r => x :: lmask m r
  | false :: m, _ :: r => none :: lmask m r
  | [], r => r
  | _ :: _, [] => []
theorem lmask_of : ∀ (m : List Bool) (L : List (Option jV)) (i : Nat) (v : jV), (lmask m L)[i]? = some (some v) → L[i]? = some (some v)
  | [], _, _, _, h => h
  | true :: m, x :: r, 0, v, h => h
  | true :: m, x :: r, i + 1, v, h => lmask_of m r i v h
  | false :: m, x :: r, 0, v, h => by simp [lmask] at h
  | false :: m, x :: r, i + 1, v, h => lmask_of m r i v h
  | true :: m, [], i, v, h => by simp [lmask] at h
  | false :: m, [], i, v, h => by simp [lmask] at h
theorem jSc.mask {J : Nat → List (Option jV) → List jV → jM → Nat → Nat → Prop} {cc : ByteArray} {pc : Nat} {L : List (Option jV)} {st : List jV} {μ : jM} {k n : Nat} (h : jSc J cc) (m : List Bool) (K : J pc (lmask m L) st μ k n) : J pc L st μ k n := h.2.2.2 _ _ _ _ _ _ _ (lmask_of m L) K
/-- behind an act -/
def pFin (J : Nat → List (Option jV) → List jV → jM → Nat → Nat → Prop) (c : Nat) (v27 : Int32) : Prop := ∀ (S : jS) (μ : jM) (k n : Nat), xR S μ → pR S μ → sA S → pI (c + 1) S → k ≤ 600 + 1000 * c → n ≤ 8000 + 10000 * c → J 1337 [some (aR 61 0), some (aR 0 0), some (aR 22 0), some (aR 23 0), some (aR 24 0), some (aR 25 0), some (aR 21 0), some (aR 27 0), some (aR 28 0), some (aR 29 0), some (aR 30 0), some (aR 31 0), some (aR 32 0), some (aR 33 0), some (aR 34 0), some (aR 35 0), some (aR 36 0), some (aR 37 0), some (aR 38 0), some (aR 39 0), some (aI (nI (sn S 1))), some (aI (nI (sn S 0))), some (aI (sf S 17 2)), some (aI (sf S 17 0)), some (aI (sf S 17 1)), some (aI (nI c)), none, some (aI v27), none, none, none, none, none, none, none, none] [] μ k n
theorem pFin.use {J : Nat → List (Option jV) → List jV → jM → Nat → Nat → Prop} {c : Nat} {v27 : Int32} (fin : pFin J c v27) (Sc : jSc J cL_law) (S : jS) {x20 x21 x22 x23 x24 : Int32} (e20 : x20 = nI (sn S 1)) (e21 : x21 = nI (sn S 0)) (e22 : x22 = sf S 17 2) (e23 : x23 = sf S 17 0) (e24 : x24 = sf S 17 1) {l26 l28 l29 l30 l31 l32 l33 l34 l35 : Option jV} {μ : jM} {k n : Nat} (hR : xR S μ) (hP : pR S μ) (hA : sA S) (hI : pI (c + 1) S) (hk : k ≤ 600 + 1000 * c) (hn : n ≤ 8000 + 10000 * c) :
    J 1337 [some (aR 61 0), some (aR 0 0), some (aR 22 0), some (aR 23 0), some (aR 24 0), some (aR 25 0), some (aR 21 0), some (aR 27 0), some (aR 28 0), some (aR 29 0), some (aR 30 0), some (aR 31 0), some (aR 32 0), some (aR 33 0), some (aR 34 0), some (aR 35 0), some (aR 36 0), some (aR 37 0), some (aR 38 0), some (aR 39 0), some (aI x20), some (aI x21), some (aI x22), some (aI x23), some (aI x24), some (aI (nI c)), l26, some (aI v27), l28, l29, l30, l31, l32, l33, l34, l35] [] μ k n := by
  subst e20
  subst e21
  subst e22
  subst e23
  subst e24
  exact Sc.mask [true, true, true, true, true, true, true, true, true, true, true, true, true, true, true, true, true, true, true, true, true, true, true, true, true, true, false, true, false, false, false, false, false, false, false, false] (fin S μ k n hR hP hA hI hk hn)
