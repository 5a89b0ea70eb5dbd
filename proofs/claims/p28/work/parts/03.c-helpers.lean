section JV9
variable {l : Launch} {J : Nat → List (Option jV) → List jV → jM → Nat → Nat → Prop} {cc : ByteArray} {nL : Nat} {own : String} {R : Room} {rt : Option FieldType} {md : Nat} {hh : List (Nat × Nat × Nat × Nat)} {ret : Option jV → jM → Prop} {thr : String → jM → Prop} {mc ms : Nat}
variable {pc pc' : Nat} {L : List (Option jV)} {st : List jV} {μ : jM} {k n : Nat}
theorem mj_getV (C : jCtx l J cc nL own R rt md hh ret thr mc ms) {idx kd i ci f : Nat} {v : Int32} (hdg : decode cc pc = .ok (.getfield idx, 3)) (hp : pc + 3 = pc') (hs : jSh kd = .inl ci) (hc : ci < 6) (hf : f < jNf ci) (hty : ∀ ad, jv ad μ (jFt ci f) kd i f = .int (mI μ kd i f)) (h61 : kd ≠ 61) (hw : Cond.fieldLink own idx (jTx ci f).1 (jTx ci f).2.1 (jTx ci f).2.2.1 ∈ jWL) (hi : i < mN μ kd) (hv : mI μ kd i f = v) (K : J pc' L (aI v :: st) μ k n) : J pc L (aR kd i :: st) μ k n :=
  mj_getI C hdg hp hs hc hf hty h61 hw hi (by rw [hv]; exact K)
theorem mj_ialdV (C : jCtx l J cc nL own R rt md hh ret thr mc ms) {kd i N j : Nat} {x v : Int32} (hdg : decode cc pc = .ok (.iaload, 1)) (hp : pc + 1 = pc') (hs : jSh kd = .inr (.int, N)) (h61 : kd ≠ 61) (hN : N < 2 ^ 31) (hi : i < mN μ kd) (hx9 : x = nI j) (hj : j < N) (hv : mI μ kd i j = v) (K : J pc' L (aI v :: st) μ k n) : J pc L (aI x :: aR kd i :: st) μ k n :=
  mj_iald C hdg hp hs h61 hN hi hx9 hj (by rw [hv]; exact K)
end JV9
/-- the name of an exception by its number -/
def exn : Nat → String
  | 1 => "java/lang/IndexOutOfBoundsException"
  | 2 => "java/lang/IllegalArgumentException"
  | _ => "java/lang/IllegalStateException"
theorem thrk_1 : (vx_atS RX5 82 "java/lang/IndexOutOfBoundsException" ["java/lang/RuntimeException", "java/lang/Exception"]).all vx_ot = true := by decide +kernel
theorem thrk_2 : (vx_atS RX5 58 "java/lang/IllegalArgumentException" ["java/lang/RuntimeException", "java/lang/Exception"]).all vx_ot = true := by decide +kernel
theorem thrk_3 : (vx_atS RX5 68 "java/lang/IllegalStateException" ["java/lang/RuntimeException", "java/lang/Exception"]).all vx_ot = true := by decide +kernel
theorem thrw_1 : ∀ w ∈ vx_atS RX5 82 "java/lang/IndexOutOfBoundsException" ["java/lang/RuntimeException", "java/lang/Exception"], w ∈ jWL := by decide +kernel
theorem thrw_2 : ∀ w ∈ vx_atS RX5 58 "java/lang/IllegalArgumentException" ["java/lang/RuntimeException", "java/lang/Exception"], w ∈ jWL := by decide +kernel
theorem thrw_3 : ∀ w ∈ vx_atS RX5 68 "java/lang/IllegalStateException" ["java/lang/RuntimeException", "java/lang/Exception"], w ∈ jWL := by decide +kernel
