/-! THE FIRST STATE -/
def S0 : jS := (fun _ => 0, fun a i => if a = 0 then -1 else if a = 6 then 10 else if a = 8 then 5 else if a = 17 ∧ i < 2 then 1000 else 0)
theorem S0_n (a : Nat) : sn S0 a = 0 := rfl
theorem S0_f (a i : Nat) : sf S0 a i = if a = 0 then -1 else if a = 6 then 10 else if a = 8 then 5 else if a = 17 ∧ i < 2 then 1000 else 0 := rfl
theorem A_0 : sA S0 := by
  refine ⟨⟨⟨by rw [S0_n]; omega, by rw [S0_n]; omega⟩, fun c hc => ?_, fun i hi => ?_, fun j hj => ⟨0, by omega, rfl⟩, 0, by omega, rfl⟩, fun j hj => ?_, fun i hi => rfl⟩
  · rw [S0_n] at hc; omega
  · rw [S0_n] at hi; omega
  · show (-1 : Int32) ≤ 1000
    decide
theorem S0_nxt (a k : Nat) : nxt S0 a k = none := nxt_no (fun i _ h => by rw [S0_n] at h; omega)
theorem S0_lst (a : Nat) : lst S0 a = none := lst_no (fun i h => by rw [S0_n] at h; omega)
