/-! THE REFERENCE: SMALL METHODS AND THOSE THAT SEARCH NOTHING -/
theorem bad_in {x : Int32} {n : Nat} (hn : n + 1 < 2 ^ 31) : (0 ≤ x ∧ x ≤ nI n) ↔ ¬ bad x (n + 1) := by
  rw [Int32.le_iff_toInt_le, Int32.le_iff_toInt_le, bad, Int32.lt_iff_toInt_lt, Int32.le_iff_toInt_le, nI_toInt (by omega), nI_toInt hn]
  show (0 : Int) ≤ _ ∧ _ ↔ ¬ (_ < (0 : Int) ∨ _)
  omega
theorem bad_in1 {x : Int32} {n : Nat} (hn : n < 2 ^ 31) : (0 ≤ x ∧ x ≤ nI n - 1) ↔ ¬ bad x n := by
  cases n with
  | zero =>
    constructor
    · rintro ⟨h1, h2⟩
      rw [Int32.le_iff_toInt_le] at h1 h2
      have e : (nI 0 - 1 : Int32).toInt = -1 := by decide
      have e0 : (0 : Int32).toInt = 0 := by decide
      rw [e] at h2
      rw [e0] at h1
      omega
    · intro h
      refine absurd (?_ : bad x 0) h
      by_cases q : x < 0
      · exact Or.inl q
      · exact Or.inr (Int32.not_lt.mp q)
  | succ n =>
    rw [nI_pred]
    exact bad_in hn
/-- an end of the reference's: thrown tells the exception's place in the throws clause -/
def mret (o : Nat × Int32 × jS) (kc : Nat → Nat) (r : Option jV) (μ μ' : jM) : Prop := ∃ v, r = some (aI v) ∧ mI μ' 20 0 35 = nI (kc o.1) ∧ (o.1 = 0 → v = o.2.1) ∧ mR o.2.2 μ' ∧ mF μ μ'
def kA : Nat → Nat := fun c => c
def kB : Nat → Nat := fun c => if c = 3 then 2 else c
def kC : Nat → Nat := fun c => if c = 2 then 1 else c
def kD : Nat → Nat := fun c => if c = 3 then 1 else c
theorem mfail {o : Nat × Int32 × jS} {kc : Nat → Nat} {S S' : jS} {μ0 μ : jM} {c w : Nat} {v v0 x : Int32} (ho : o = (c, v0, S')) (hS : S' = S) (hc : c ≠ 0) (hk : kc c = w) (hx : x = nI w) (hR : mR S (sI μ 20 0 35 x)) (hF : mF μ0 μ) : mret o kc (some (aI v)) μ0 (sI μ 20 0 35 x) := by
  subst ho
  subst hS
  subst hx
  exact ⟨v, rfl, by rw [mI_sI_s]; exact (congrArg nI hk).symm, fun h => absurd h hc, hR, mF_sI (by decide) hF⟩
theorem mret_of {o : Nat × Int32 × jS} {kc : Nat → Nat} {μ μ' : jM} {v : Int32} {S' : jS} (ho : o = (0, v, S')) (h35 : mI μ' 20 0 35 = nI (kc 0)) (hR : mR S' μ') (hF : mF μ μ') : mret o kc (some (aI v)) μ μ' := by
  subst ho
  exact ⟨v, rfl, h35, fun _ => rfl, hR, hF⟩
theorem z35 {μ : jM} : mI (sI μ 20 0 35 0) 20 0 35 = nI 0 := mI_sI_s μ 20 0 35 0

set_option maxRecDepth 20000 in
theorem c_X6_in {l : Launch} (hst : l.stackTraces = false) (v a b : Int32) : jMet l yX6_in cX6_in 3 (some FieldType.boolean) 6 100 0 0 (fun avs μ => avs = [aI v, aI a, aI b]) (fun avs μ r μ' => r = some (aI (b1 (a ≤ v ∧ v ≤ b))) ∧ μ' = μ) (fun avs μ E μ' => False) := by
  refine jMet_of hst (by decide) ?_
  intro avs μ J C hav hpre
  subst hpre
  refine ⟨Nat.le_of_ble_eq_true rfl, ?_⟩
  show J 0 [some (aI v), some (aI a), some (aI b)] [] μ 0 0
  refine mj_iload_n (pc' := 1) C dX6_in_0 rfl rfl ?_
  refine mj_iload_n (pc' := 2) C dX6_in_1 rfl rfl ?_
  refine mj_icmp_lt (tgt := 14) (pc' := 5) C dX6_in_2 (by decide) rfl (fun h2 => ?_) (fun h2 => ?_)
  · have hv : b1 (a ≤ v ∧ v ≤ b) = 0 := b1_f (fun h => absurd h2 (Int32.not_lt.mpr h.1))
    refine mj_iconst (pc' := 15) (v := 0) C dX6_in_14 rfl rfl ?_
    refine mj_zret C rfl dX6_in_15 (by decide) (by decide) (by decide) ?_
    exact ⟨by rw [hv], rfl⟩
  · refine mj_iload_n (pc' := 6) C dX6_in_5 rfl rfl ?_
    refine mj_iload_n (pc' := 7) C dX6_in_6 rfl rfl ?_
    refine mj_icmp_gt (tgt := 14) (pc' := 10) C dX6_in_7 (by decide) rfl (fun h7 => ?_) (fun h7 => ?_)
    · have hv : b1 (a ≤ v ∧ v ≤ b) = 0 := b1_f (fun h => absurd h7 (Int32.not_lt.mpr h.2))
      refine mj_iconst (pc' := 15) (v := 0) C dX6_in_14 rfl rfl ?_
      refine mj_zret C rfl dX6_in_15 (by decide) (by decide) (by decide) ?_
      exact ⟨by rw [hv], rfl⟩
    · have hv : b1 (a ≤ v ∧ v ≤ b) = 1 := b1_t ⟨Int32.not_lt.mp h2, Int32.not_lt.mp h7⟩
      refine mj_iconst (pc' := 11) (v := 1) C dX6_in_10 rfl rfl ?_
      refine mj_goto (pc' := 15) C dX6_in_11 (by decide) ?_
      refine mj_zret C rfl dX6_in_15 (by decide) (by decide) (by decide) ?_
      exact ⟨by rw [hv], rfl⟩

set_option maxRecDepth 20000 in
theorem c_X6_isNoFormat {l : Launch} (hst : l.stackTraces = false) (f : Int32) : jMet l yX6_isNoFormat cX6_isNoFormat 1 (some FieldType.boolean) 7 140 0 0 (fun avs μ => avs = [aI f]) (fun avs μ r μ' => r = some (aI (b1 (bad f 10))) ∧ μ' = μ) (fun avs μ E μ' => False) := by
  refine jMet_of hst (by decide) ?_
  intro avs μ J C hav hpre
  subst hpre
  refine ⟨Nat.le_of_ble_eq_true rfl, ?_⟩
  show J 0 [some (aI f)] [] μ 0 0
  refine mj_iload_n (pc' := 1) C dX6_isNoFormat_0 rfl rfl ?_
  refine mj_iconst (pc' := 2) (v := 0) C dX6_isNoFormat_1 rfl rfl ?_
  refine mj_bipush (pc' := 4) (v := 9) C dX6_isNoFormat_2 rfl rfl ?_
  refine mj_callSN_3 (pc' := 7) C (c_X6_in hst f 0 9) dX6_isNoFormat_4 rfl km_X6_108 ks_yX6_in kn_X6 kc_yX6_in ⟨by decide, by decide, by decide +kernel⟩ ⟨by decide, by decide⟩ (by decide) ⟨by decide, by decide⟩ rfl (fun r4 μ4 hq4 hm4 => ?_) (fun _ _ h9 => h9)
  obtain ⟨rfl, rfl⟩ := hq4
  dsimp only [Option.toList, List.nil_append, List.cons_append]
  refine mj_if_ne (tgt := 14) (pc' := 10) C dX6_isNoFormat_7 (by decide) rfl (fun h7 => ?_) (fun h7 => ?_)
  · have hv : b1 (bad f 10) = 0 := b1_f ((bad_in (n := 9) (by decide)).mp (b1_n h7))
    refine mj_iconst (pc' := 15) (v := 0) C dX6_isNoFormat_14 rfl rfl ?_
    refine mj_zret C rfl dX6_isNoFormat_15 (by decide) (by decide) (by decide) ?_
    exact ⟨by rw [hv], rfl⟩
  · have hv : b1 (bad f 10) = 1 := b1_t (Decidable.not_not.mp (fun h => b1_0.mp h7 ((bad_in (n := 9) (by decide)).mpr h)))
    refine mj_iconst (pc' := 11) (v := 1) C dX6_isNoFormat_10 rfl rfl ?_
    refine mj_goto (pc' := 15) C dX6_isNoFormat_11 (by decide) ?_
    refine mj_zret C rfl dX6_isNoFormat_15 (by decide) (by decide) (by decide) ?_
    exact ⟨by rw [hv], rfl⟩

set_option maxRecDepth 20000 in
theorem c_X6_isNoFile {l : Launch} (hst : l.stackTraces = false) (S : jS) (f : Int32) : jMet l yX6_isNoFile cX6_isNoFile 2 (some FieldType.boolean) 7 140 0 0 (fun avs μ => avs = [aR 20 0, aI f] ∧ mR S μ ∧ sW S) (fun avs μ r μ' => r = some (aI (b1 (bad f (sn S 0)))) ∧ μ' = μ) (fun avs μ E μ' => False) := by
  refine jMet_of hst (by decide) ?_
  intro avs μ J C hav hpre
  obtain ⟨rfl, hR, hW⟩ := hpre
  refine ⟨Nat.le_of_ble_eq_true rfl, ?_⟩
  show J 0 [some (aR 20 0), some (aI f)] [] μ 0 0
  refine mj_iload_n (pc' := 1) C dX6_isNoFile_0 rfl rfl ?_
  refine mj_iconst (pc' := 2) (v := 0) C dX6_isNoFile_1 rfl rfl ?_
  refine mj_aload_n (pc' := 3) C dX6_isNoFile_2 rfl rfl ?_
  refine mj_getV (pc' := 6) C dX6_isNoFile_3 rfl (ci := 6) (f := 30) rfl (by decide) (by decide) (fun _ => rfl) (by decide) kf_X6_112 hR.B.l0 hR.nf ?_
  refine mj_iconst (pc' := 7) (v := 1) C dX6_isNoFile_6 rfl rfl ?_
  refine mj_isub (pc' := 8) C dX6_isNoFile_7 rfl ?_
  refine mj_callSN_3 (pc' := 11) C (c_X6_in hst f 0 (nI (sn S 0) - 1)) dX6_isNoFile_8 rfl km_X6_108 ks_yX6_in kn_X6 kc_yX6_in ⟨by decide, by decide, by decide +kernel⟩ ⟨by decide, by decide⟩ (by decide) ⟨by decide, by decide⟩ rfl (fun r8 μ8 hq8 hm8 => ?_) (fun _ _ h9 => h9)
  obtain ⟨rfl, rfl⟩ := hq8
  dsimp only [Option.toList, List.nil_append, List.cons_append]
  refine mj_if_ne (tgt := 18) (pc' := 14) C dX6_isNoFile_11 (by decide) rfl (fun h11 => ?_) (fun h11 => ?_)
  · have hv : b1 (bad f (sn S 0)) = 0 := b1_f ((bad_in1 (by have := hW.1.1; omega)).mp (b1_n h11))
    refine mj_iconst (pc' := 19) (v := 0) C dX6_isNoFile_18 rfl rfl ?_
    refine mj_zret C rfl dX6_isNoFile_19 (by decide) (by decide) (by decide) ?_
    exact ⟨by rw [hv], rfl⟩
  · have hv : b1 (bad f (sn S 0)) = 1 := b1_t (Decidable.not_not.mp (fun h => b1_0.mp h11 ((bad_in1 (by have := hW.1.1; omega)).mpr h)))
    refine mj_iconst (pc' := 15) (v := 1) C dX6_isNoFile_14 rfl rfl ?_
    refine mj_goto (pc' := 19) C dX6_isNoFile_15 (by decide) ?_
    refine mj_zret C rfl dX6_isNoFile_19 (by decide) (by decide) (by decide) ?_
    exact ⟨by rw [hv], rfl⟩

set_option maxRecDepth 20000 in
theorem c_X6_fails {l : Launch} (hst : l.stackTraces = false) (S : jS) (w : Int32) : jMet l yX6_fails cX6_fails 2 (some FieldType.int) 6 100 0 0 (fun avs μ => avs = [aR 20 0, aI w] ∧ mR S μ) (fun avs μ r μ' => r = some (aI 0) ∧ μ' = sI μ 20 0 35 w) (fun avs μ E μ' => False) := by
  refine jMet_of hst (by decide) ?_
  intro avs μ J C hav hpre
  obtain ⟨rfl, hR0⟩ := hpre
  refine ⟨Nat.le_of_ble_eq_true rfl, ?_⟩
  show J 0 [some (aR 20 0), some (aI w)] [] μ 0 0
  refine mj_aload_n (pc' := 1) C dX6_fails_0 rfl rfl ?_
  refine mj_iload_n (pc' := 2) C dX6_fails_1 rfl rfl ?_
  refine mj_putI (pc' := 5) C dX6_fails_2 rfl (ci := 6) (f := 35) rfl (by decide) (by decide) rfl (fun _ _ => rfl) (by decide) kf_X6_105 rfl rfl hR0.B.l0 ?_
  refine mj_iconst (pc' := 6) (v := 0) C dX6_fails_5 rfl rfl ?_
  refine mj_iret C dX6_fails_6 (by decide) (by decide) (by decide) ?_
  exact ⟨rfl, rfl⟩

set_option maxRecDepth 20000 in
theorem c_X6_thrown {l : Launch} (hst : l.stackTraces = false) (S : jS) : jMet l yX6_thrown cX6_thrown 1 (some FieldType.int) 6 100 0 0 (fun avs μ => avs = [aR 20 0] ∧ mR S μ) (fun avs μ r μ' => r = some (aI (mI μ 20 0 35)) ∧ μ' = μ) (fun avs μ E μ' => False) := by
  refine jMet_of hst (by decide) ?_
  intro avs μ J C hav hpre
  obtain ⟨rfl, hR⟩ := hpre
  refine ⟨Nat.le_of_ble_eq_true rfl, ?_⟩
  show J 0 [some (aR 20 0)] [] μ 0 0
  refine mj_aload_n (pc' := 1) C dX6_thrown_0 rfl rfl ?_
  refine mj_getV (pc' := 4) C dX6_thrown_1 rfl (ci := 6) (f := 35) rfl (by decide) (by decide) (fun _ => rfl) (by decide) kf_X6_105 hR.B.l0 rfl ?_
  refine mj_iret C dX6_thrown_4 (by decide) (by decide) (by decide) ?_
  exact ⟨rfl, rfl⟩

set_option maxRecDepth 20000 in
theorem c_X6_canBeRead {l : Launch} (hst : l.stackTraces = false) (S : jS) (j : Nat) : jMet l yX6_canBeRead cX6_canBeRead 2 (some FieldType.boolean) 6 100 0 0 (fun avs μ => avs = [aR 20 0, aI (nI j)] ∧ mR S μ ∧ j < 10) (fun avs μ r μ' => r = some (aI (b1 (canR S j))) ∧ μ' = μ) (fun avs μ E μ' => False) := by
  refine jMet_of hst (by decide) ?_
  intro avs μ J C hav hpre
  obtain ⟨rfl, hR, hj⟩ := hpre
  refine ⟨Nat.le_of_ble_eq_true rfl, ?_⟩
  show J 0 [some (aR 20 0), some (aI (nI j))] [] μ 0 0
  refine mj_aload_n (pc' := 1) C dX6_canBeRead_0 rfl rfl ?_
  refine mj_getR (pc' := 4) C dX6_canBeRead_1 rfl (ci := 6) (f := 0) rfl (by decide) (by decide) (fun _ => rfl) (by decide) kf_X6_7 hR.B.l0 (hR.B.p 0 (by decide) rfl) ?_
  refine mj_iload_n (pc' := 5) C dX6_canBeRead_4 rfl rfl ?_
  refine mj_ialdV (pc' := 6) C dX6_canBeRead_5 rfl rfl (by decide) (by decide) (hR.B.l 0 (by decide) rfl) rfl (by first | assumption | omega) (hR.v 0 (by decide) rfl (by unfold sl; simp <;> first | assumption | omega)) ?_
  refine mj_iconst (pc' := 7) (v := (-1)) C dX6_canBeRead_6 rfl rfl ?_
  refine mj_icmp_eq (tgt := 23) (pc' := 10) C dX6_canBeRead_7 (by decide) rfl (fun h7 => ?_) (fun h7 => ?_)
  · have hv : b1 (canR S j) = 1 := b1_t (Or.inl h7)
    refine mj_iconst (pc' := 24) (v := 1) C dX6_canBeRead_23 rfl rfl ?_
    refine mj_goto (pc' := 28) C dX6_canBeRead_24 (by decide) ?_
    refine mj_zret C rfl dX6_canBeRead_28 (by decide) (by decide) (by decide) ?_
    exact ⟨by rw [hv], rfl⟩
  · refine mj_aload_n (pc' := 11) C dX6_canBeRead_10 rfl rfl ?_
    refine mj_getR (pc' := 14) C dX6_canBeRead_11 rfl (ci := 6) (f := 0) rfl (by decide) (by decide) (fun _ => rfl) (by decide) kf_X6_7 hR.B.l0 (hR.B.p 0 (by decide) rfl) ?_
    refine mj_iload_n (pc' := 15) C dX6_canBeRead_14 rfl rfl ?_
    refine mj_ialdV (pc' := 16) C dX6_canBeRead_15 rfl rfl (by decide) (by decide) (hR.B.l 0 (by decide) rfl) rfl (by first | assumption | omega) (hR.v 0 (by decide) rfl (by unfold sl; simp <;> first | assumption | omega)) ?_
    refine mj_aload_n (pc' := 17) C dX6_canBeRead_16 rfl rfl ?_
    refine mj_getV (pc' := 20) C dX6_canBeRead_17 rfl (ci := 6) (f := 33) rfl (by decide) (by decide) (fun _ => rfl) (by decide) kf_X6_115 hR.B.l0 hR.now ?_
    refine mj_icmp_lt (tgt := 27) (pc' := 23) C dX6_canBeRead_20 (by decide) rfl (fun h20 => ?_) (fun h20 => ?_)
    · have hv : b1 (canR S j) = 0 := b1_f (fun h => h.elim h7 (fun h => absurd h20 (Int32.not_lt.mpr h)))
      refine mj_iconst (pc' := 28) (v := 0) C dX6_canBeRead_27 rfl rfl ?_
      refine mj_zret C rfl dX6_canBeRead_28 (by decide) (by decide) (by decide) ?_
      exact ⟨by rw [hv], rfl⟩
    · have hv : b1 (canR S j) = 1 := b1_t (Or.inr (Int32.not_lt.mp h20))
      refine mj_iconst (pc' := 24) (v := 1) C dX6_canBeRead_23 rfl rfl ?_
      refine mj_goto (pc' := 28) C dX6_canBeRead_24 (by decide) ?_
      refine mj_zret C rfl dX6_canBeRead_28 (by decide) (by decide) (by decide) ?_
      exact ⟨by rw [hv], rfl⟩

set_option maxRecDepth 20000 in
theorem c_X6_behind {l : Launch} (hst : l.stackTraces = false) (q t : Int32) : jMet l yX6_behind cX6_behind 2 (some FieldType.int) 6 100 0 0 (fun avs μ => avs = [aI q, aI t]) (fun avs μ r μ' => r = some (aI (q * (1000 - t) / 1000)) ∧ μ' = μ) (fun avs μ E μ' => False) := by
  refine jMet_of hst (by decide) ?_
  intro avs μ J C hav hpre
  subst hpre
  refine ⟨Nat.le_of_ble_eq_true rfl, ?_⟩
  show J 0 [some (aI q), some (aI t)] [] μ 0 0
  refine mj_iload_n (pc' := 1) C dX6_behind_0 rfl rfl ?_
  refine mj_sipush (pc' := 4) (v := 1000) C dX6_behind_1 rfl rfl ?_
  refine mj_iload_n (pc' := 5) C dX6_behind_4 rfl rfl ?_
  refine mj_isub (pc' := 6) C dX6_behind_5 rfl ?_
  refine mj_imul (pc' := 7) C dX6_behind_6 rfl ?_
  refine mj_sipush (pc' := 10) (v := 1000) C dX6_behind_7 rfl rfl ?_
  refine mj_idiv (pc' := 11) C dX6_behind_10 rfl (by decide) ?_
  refine mj_iret C dX6_behind_11 (by decide) (by decide) (by decide) ?_
  exact ⟨rfl, rfl⟩

set_option maxRecDepth 20000 in
theorem c_X6_isSafeIn {l : Launch} (hst : l.stackTraces = false) (S : jS) (i j : Nat) : jMet l yX6_isSafeIn cX6_isSafeIn 3 (some FieldType.boolean) 6 100 0 0 (fun avs μ => avs = [aR 20 0, aI (nI i), aI (nI j)] ∧ mR S μ ∧ sW S ∧ i < sn S 0 ∧ j < 10) (fun avs μ r μ' => r = some (aI (b1 (safe S i j))) ∧ μ' = μ) (fun avs μ E μ' => False) := by
  refine jMet_of hst (by decide) ?_
  intro avs μ J C hav hpre
  obtain ⟨rfl, hR, hW, hi, hj⟩ := hpre
  refine ⟨Nat.le_of_ble_eq_true rfl, ?_⟩
  show J 0 [some (aR 20 0), some (aI (nI i)), some (aI (nI j))] [] μ 0 0
  have hW0 := hW.1.1
  refine mj_aload_n (pc' := 1) C dX6_isSafeIn_0 rfl rfl ?_
  refine mj_getR (pc' := 4) C dX6_isSafeIn_1 rfl (ci := 6) (f := 0) rfl (by decide) (by decide) (fun _ => rfl) (by decide) kf_X6_7 hR.B.l0 (hR.B.p 0 (by decide) rfl) ?_
  refine mj_iload_n (pc' := 5) C dX6_isSafeIn_4 rfl rfl ?_
  refine mj_ialdV (pc' := 6) C dX6_isSafeIn_5 rfl rfl (by decide) (by decide) (hR.B.l 0 (by decide) rfl) rfl (by first | assumption | omega) (hR.v 0 (by decide) rfl (by unfold sl; simp <;> first | assumption | omega)) ?_
  refine mj_iconst (pc' := 7) (v := (-1)) C dX6_isSafeIn_6 rfl rfl ?_
  refine mj_icmp_eq (tgt := 34) (pc' := 10) C dX6_isSafeIn_7 (by decide) rfl (fun h7 => ?_) (fun h7 => ?_)
  · have hv : b1 (safe S i j) = 1 := b1_t (Or.inl h7)
    refine mj_iconst (pc' := 35) (v := 1) C dX6_isSafeIn_34 rfl rfl ?_
    refine mj_goto (pc' := 39) C dX6_isSafeIn_35 (by decide) ?_
    refine mj_zret C rfl dX6_isSafeIn_39 (by decide) (by decide) (by decide) ?_
    exact ⟨by rw [hv], rfl⟩
  · refine mj_aload_n (pc' := 11) C dX6_isSafeIn_10 rfl rfl ?_
    refine mj_getR (pc' := 14) C dX6_isSafeIn_11 rfl (ci := 6) (f := 16) rfl (by decide) (by decide) (fun _ => rfl) (by decide) kf_X6_59 hR.B.l0 (hR.B.p 16 (by decide) rfl) ?_
    refine mj_iload_n (pc' := 15) C dX6_isSafeIn_14 rfl rfl ?_
    refine mj_zaldV (pc' := 16) C dX6_isSafeIn_15 rfl rfl (by decide) (by decide) (hR.B.l 16 (by decide) rfl) rfl (by first | assumption | omega) (hR.v 16 (by decide) rfl (by unfold sl; simp <;> first | assumption | omega)) ?_
    refine mj_if_ne (tgt := 38) (pc' := 19) C dX6_isSafeIn_16 (by decide) rfl (fun h16 => ?_) (fun h16 => ?_)
    · have hv : b1 (safe S i j) = 0 := b1_f (fun h => h.elim h7 (fun h => h16 h.1))
      refine mj_iconst (pc' := 39) (v := 0) C dX6_isSafeIn_38 rfl rfl ?_
      refine mj_zret C rfl dX6_isSafeIn_39 (by decide) (by decide) (by decide) ?_
      exact ⟨by rw [hv], rfl⟩
    · refine mj_aload_n (pc' := 20) C dX6_isSafeIn_19 rfl rfl ?_
      refine mj_getR (pc' := 23) C dX6_isSafeIn_20 rfl (ci := 6) (f := 0) rfl (by decide) (by decide) (fun _ => rfl) (by decide) kf_X6_7 hR.B.l0 (hR.B.p 0 (by decide) rfl) ?_
      refine mj_iload_n (pc' := 24) C dX6_isSafeIn_23 rfl rfl ?_
      refine mj_ialdV (pc' := 25) C dX6_isSafeIn_24 rfl rfl (by decide) (by decide) (hR.B.l 0 (by decide) rfl) rfl (by first | assumption | omega) (hR.v 0 (by decide) rfl (by unfold sl; simp <;> first | assumption | omega)) ?_
      refine mj_aload_n (pc' := 26) C dX6_isSafeIn_25 rfl rfl ?_
      refine mj_getR (pc' := 29) C dX6_isSafeIn_26 rfl (ci := 6) (f := 13) rfl (by decide) (by decide) (fun _ => rfl) (by decide) kf_X6_50 hR.B.l0 (hR.B.p 13 (by decide) rfl) ?_
      refine mj_iload_n (pc' := 30) C dX6_isSafeIn_29 rfl rfl ?_
      refine mj_ialdV (pc' := 31) C dX6_isSafeIn_30 rfl rfl (by decide) (by decide) (hR.B.l 13 (by decide) rfl) rfl (by first | assumption | omega) (hR.v 13 (by decide) rfl (by unfold sl; simp <;> first | assumption | omega)) ?_
      refine mj_icmp_lt (tgt := 38) (pc' := 34) C dX6_isSafeIn_31 (by decide) rfl (fun h31 => ?_) (fun h31 => ?_)
      · have hv : b1 (safe S i j) = 0 := b1_f (fun h => h.elim h7 (fun h => absurd h31 (Int32.not_lt.mpr h.2)))
        refine mj_iconst (pc' := 39) (v := 0) C dX6_isSafeIn_38 rfl rfl ?_
        refine mj_zret C rfl dX6_isSafeIn_39 (by decide) (by decide) (by decide) ?_
        exact ⟨by rw [hv], rfl⟩
      · have hv : b1 (safe S i j) = 1 := b1_t (Or.inr ⟨h16, Int32.not_lt.mp h31⟩)
        refine mj_iconst (pc' := 35) (v := 1) C dX6_isSafeIn_34 rfl rfl ?_
        refine mj_goto (pc' := 39) C dX6_isSafeIn_35 (by decide) ?_
        refine mj_zret C rfl dX6_isSafeIn_39 (by decide) (by decide) (by decide) ?_
        exact ⟨by rw [hv], rfl⟩
