/-! SMALL METHODS -/
theorem bad_no {x : Int32} {n : Nat} (h : ¬ x < 0) (h2 : x < nI n) : ¬ bad x n := by
  rintro (h3 | h3)
  · exact h h3
  · exact absurd h2 (Int32.not_lt.mpr h3)
theorem bad_hi {x : Int32} {n : Nat} (h : ¬ x < nI n) : bad x n := Or.inr (Int32.not_lt.mp h)

set_option maxRecDepth 20000 in
theorem c_X5_requireFormat {l : Launch} (hst : l.stackTraces = false) (f : Int32) : jMet l yX5_requireFormat cX5_requireFormat 1 none 6 100 1 6 (fun avs μ => avs = [aI f]) (fun avs μ r μ' => ¬ bad f 10 ∧ r = none ∧ μ' = μ) (fun avs μ E μ' => bad f 10 ∧ E = exn 1 ∧ μ' = μ) := by
  refine jMet_of hst (by decide) ?_
  intro avs μ J C hav hpre
  subst hpre
  refine ⟨Nat.le_of_ble_eq_true rfl, ?_⟩
  show J 0 [some (aI f)] [] μ 0 0
  refine mj_iload_n (pc' := 1) C dX5_requireFormat_0 rfl rfl ?_
  refine mj_if_lt (tgt := 10) (pc' := 4) C dX5_requireFormat_1 (by decide) rfl (fun h1 => ?_) (fun h1 => ?_)
  · refine mj_throw C (text := "there is no such format") (names := ["java/lang/RuntimeException", "java/lang/Exception"]) dX5_requireFormat_10 dX5_requireFormat_13 dX5_requireFormat_14 dX5_requireFormat_16 dX5_requireFormat_19 rfl rfl kl_X5_78 kn_IOOBE thrw_1 thrk_1 (by decide) (by decide) (by decide) (by decide) (by decide) (by decide) (by decide) ?_
    first | exact ⟨Or.inl h1, rfl, rfl⟩ | exact ⟨bad_hi h7, rfl, rfl⟩
  · refine mj_iload_n (pc' := 5) C dX5_requireFormat_4 rfl rfl ?_
    refine mj_bipush (pc' := 7) (v := 10) C dX5_requireFormat_5 rfl rfl ?_
    refine mj_icmp_lt (tgt := 20) (pc' := 10) C dX5_requireFormat_7 (by decide) rfl (fun h7 => ?_) (fun h7 => ?_)
    · refine mj_vret C dX5_requireFormat_20 (by decide) (by decide) (by decide) ?_
      exact ⟨bad_no h1 h7, rfl, rfl⟩
    · refine mj_throw C (text := "there is no such format") (names := ["java/lang/RuntimeException", "java/lang/Exception"]) dX5_requireFormat_10 dX5_requireFormat_13 dX5_requireFormat_14 dX5_requireFormat_16 dX5_requireFormat_19 rfl rfl kl_X5_78 kn_IOOBE thrw_1 thrk_1 (by decide) (by decide) (by decide) (by decide) (by decide) (by decide) (by decide) ?_
      first | exact ⟨Or.inl h1, rfl, rfl⟩ | exact ⟨bad_hi h7, rfl, rfl⟩

set_option maxRecDepth 20000 in
theorem c_X5_requireRange {l : Launch} (hst : l.stackTraces = false) (v a b : Int32) : jMet l yX5_requireRange cX5_requireRange 3 none 6 100 1 6 (fun avs μ => avs = [aI v, aI a, aI b]) (fun avs μ r μ' => (a ≤ v ∧ v ≤ b) ∧ r = none ∧ μ' = μ) (fun avs μ E μ' => (v < a ∨ b < v) ∧ E = exn 2 ∧ μ' = μ) := by
  refine jMet_of hst (by decide) ?_
  intro avs μ J C hav hpre
  subst hpre
  refine ⟨Nat.le_of_ble_eq_true rfl, ?_⟩
  show J 0 [some (aI v), some (aI a), some (aI b)] [] μ 0 0
  refine mj_iload_n (pc' := 1) C dX5_requireRange_0 rfl rfl ?_
  refine mj_iload_n (pc' := 2) C dX5_requireRange_1 rfl rfl ?_
  refine mj_icmp_lt (tgt := 10) (pc' := 5) C dX5_requireRange_2 (by decide) rfl (fun h2 => ?_) (fun h2 => ?_)
  · refine mj_throw C (text := "an argument is out of its range") (names := ["java/lang/RuntimeException", "java/lang/Exception"]) dX5_requireRange_10 dX5_requireRange_13 dX5_requireRange_14 dX5_requireRange_16 dX5_requireRange_19 rfl rfl kl_X5_54 kn_IAE thrw_2 thrk_2 (by decide) (by decide) (by decide) (by decide) (by decide) (by decide) (by decide) ?_
    first | exact ⟨Or.inl h2, rfl, rfl⟩ | exact ⟨Or.inr (Int32.not_le.mp h7), rfl, rfl⟩
  · refine mj_iload_n (pc' := 6) C dX5_requireRange_5 rfl rfl ?_
    refine mj_iload_n (pc' := 7) C dX5_requireRange_6 rfl rfl ?_
    refine mj_icmp_le (tgt := 20) (pc' := 10) C dX5_requireRange_7 (by decide) rfl (fun h7 => ?_) (fun h7 => ?_)
    · refine mj_vret C dX5_requireRange_20 (by decide) (by decide) (by decide) ?_
      exact ⟨⟨Int32.not_lt.mp h2, h7⟩, rfl, rfl⟩
    · refine mj_throw C (text := "an argument is out of its range") (names := ["java/lang/RuntimeException", "java/lang/Exception"]) dX5_requireRange_10 dX5_requireRange_13 dX5_requireRange_14 dX5_requireRange_16 dX5_requireRange_19 rfl rfl kl_X5_54 kn_IAE thrw_2 thrk_2 (by decide) (by decide) (by decide) (by decide) (by decide) (by decide) (by decide) ?_
      first | exact ⟨Or.inl h2, rfl, rfl⟩ | exact ⟨Or.inr (Int32.not_le.mp h7), rfl, rfl⟩
