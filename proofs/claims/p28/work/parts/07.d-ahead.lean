/-! THE CLASS: FILES THAT ARE MOVED AHEAD, CONVERTERS WITHDRAWN -/
/-- last years are no later than the latest one -/
def sL (S : jS) : Prop := ∀ j, j < 10 → sf S 0 j ≤ 1000
/-- the file of a set that is moved next: its format ends first, the lowest one of those -/
def nd (S : jS) (D : Nat → Bool) : Nat → Option Nat
  | 0 => none
  | i + 1 => match nd S D i with
    | none => if D i = true then some i else none
    | some j => if D i = true ∧ sf S 0 (fF S i) < sf S 0 (fF S j) then some i else some j
noncomputable def mv : Nat → (Nat → Bool) → jS → Nat × jS
  | 0, _, S => (0, S)
  | n + 1, D, S => match nd S D (sn S 0) with
    | none => (0, S)
    | some i => if hv S i ≠ -1 ∧ sf S 10 i * bc (best S (fF S i) (ix (hv S i))) ≤ sf S 17 1 then ((mv n (fun x => D x && !decide (x = i)) (tk S i (ix (hv S i)))).1 + 1, (mv n (fun x => D x && !decide (x = i)) (tk S i (ix (hv S i)))).2) else mv n (fun x => D x && !decide (x = i)) S
noncomputable def o_moveAhead (S : jS) : Nat × Int32 × jS := (0, nI (mv (sn S 0) (fun i => hvB S i && !sfB S i && decide (i < sn S 0)) S).1, (mv (sn S 0) (fun i => hvB S i && !sfB S i && decide (i < sn S 0)) S).2)
def wB (w : Int64) (D : Nat → Bool) : Prop := ∀ i, i < 64 → bt w i = D i
def fv (S : jS) (D : Nat → Bool) (i : Nat) : Int32 × Int32 := match nd S D i with
  | none => (0, 2147483647)
  | some j => (nI j, sf S 0 (fF S j))
theorem fv_s {S : jS} {D : Nat → Bool} {i : Nat} (h : sf S 0 (fF S i) ≤ 1000) : fv S D (i + 1) = if D i = true ∧ sf S 0 (fF S i) < (fv S D i).2 then (nI i, sf S 0 (fF S i)) else fv S D i := by
  have hm : sf S 0 (fF S i) < 2147483647 := Int32.lt_of_le_of_lt h (by decide)
  unfold fv
  show (match (match nd S D i with | none => if D i = true then some i else none | some j => if D i = true ∧ sf S 0 (fF S i) < sf S 0 (fF S j) then some i else some j) with | none => _ | some j => _) = _
  cases nd S D i with
  | none =>
    dsimp only
    by_cases q : D i = true
    · rw [if_pos q, if_pos ⟨q, hm⟩]
    · rw [if_neg q, if_neg (fun h => q h.1)]
  | some j =>
    dsimp only
    by_cases q : D i = true ∧ sf S 0 (fF S i) < sf S 0 (fF S j)
    · rw [if_pos q, if_pos q]
    · rw [if_neg q, if_neg q]
theorem nd_s {S : jS} {D : Nat → Bool} : ∀ n, (∀ j, nd S D n = some j → j < n ∧ D j = true) ∧ (nd S D n = none → ∀ j, j < n → D j = false)
  | 0 => ⟨fun j h => by (cases h), fun _ j h => by omega⟩
  | n + 1 => by
    obtain ⟨h1, h2⟩ := nd_s (S := S) (D := D) n
    unfold nd
    cases hn : nd S D n with
    | none =>
      dsimp only
      by_cases q : D n = true
      · rw [if_pos q]
        refine ⟨fun j h => ?_, fun h => by (cases h)⟩
        cases h
        exact ⟨Nat.lt_succ_self n, q⟩
      · rw [if_neg q]
        refine ⟨fun j h => by (cases h), fun _ j hj => ?_⟩
        by_cases e : j = n
        · rw [e]; exact Bool.eq_false_iff.mpr q
        · exact h2 hn j (by omega)
    | some k =>
      obtain ⟨h3, h4⟩ := h1 k hn
      dsimp only
      split
      · rename_i q
        refine ⟨fun j h => ?_, fun h => by (cases h)⟩
        cases h
        exact ⟨Nat.lt_succ_self n, q.1⟩
      · refine ⟨fun j h => ?_, fun h => by (cases h)⟩
        cases h
        exact ⟨by omega, h4⟩
theorem tk_n (S : jS) (i j a : Nat) : sn (tk S i j) a = sn S a := rfl
theorem tk_0 (S : jS) (i j x : Nat) : sf (tk S i j) 0 x = sf S 0 x := by simp [tk, sf_su]
theorem tk_L {S : jS} (h : sL S) (i j : Nat) : sL (tk S i j) := fun x hx => by rw [tk_0]; exact h x hx
theorem mv_W : ∀ (n : Nat) (D : Nat → Bool) (S : jS), sW S → (∀ i, D i = true → i < sn S 0) → sW (mv n D S).2 ∧ (∀ a, sn (mv n D S).2 a = sn S a) ∧ ∀ x, sf (mv n D S).2 0 x = sf S 0 x
  | 0, _, S, h, _ => ⟨h, fun _ => rfl, fun _ => rfl⟩
  | n + 1, D, S, h, hD => by
    unfold mv
    cases hn : nd S D (sn S 0) with
    | none => exact ⟨h, fun _ => rfl, fun _ => rfl⟩
    | some i =>
      dsimp only
      obtain ⟨hi, -⟩ := (nd_s _).1 i hn
      have hD2 : ∀ x, (D x && !decide (x = i)) = true → x < sn S 0 := fun x hx => hD x (by revert hx; cases D x <;> simp)
      split
      · rename_i q
        have hj : ix (hv S i) < 10 := by
          by_cases hs : sf S 15 i = 0
          · rw [hv_k h hi hs] at q ⊢
            rcases hd_in S i 10 with e | ⟨j, h1, e⟩
            · exact absurd e q.1
            · rw [e, ix_nI (by omega)]
              exact h1
          · exact absurd (hv_n hs) q.1
        obtain ⟨g1, g2, g3⟩ := mv_W n (fun x => D x && !decide (x = i)) (tk S i (ix (hv S i))) (tk_W h hi hj) hD2
        exact ⟨g1, g2, fun x => (g3 x).trans (tk_0 S i _ x)⟩
      · exact mv_W n _ S h hD2
/-- what is known of a memory while converters change -/
def xBB (μ : jM) : Prop := (0 < mN μ 0 ∧ 0 < mN μ 4 ∧ 0 < mN μ 5 ∧ 0 < mN μ 6 ∧ 0 < mN μ 7 ∧ 0 < mN μ 8) ∧ (∀ i, i < 10 → i < mN μ 11) ∧ mP μ 0 0 3 = some (4, 0) ∧ mP μ 4 0 0 = some (5, 0) ∧ mP μ 4 0 2 = some (6, 0) ∧ mP μ 4 0 3 = some (7, 0) ∧ mP μ 4 0 4 = some (8, 0) ∧ ∀ i, i < 10 → mP μ 8 0 i = some (11, i)
theorem xBB.B {μ : jM} (h : xBB μ) : xBB μ := h
theorem xBB.l0 {μ : jM} (h : xBB μ) : 0 < mN μ 0 := h.1.1
theorem xBB.l4 {μ : jM} (h : xBB μ) : 0 < mN μ 4 := h.1.2.1
theorem xBB.l5 {μ : jM} (h : xBB μ) : 0 < mN μ 5 := h.1.2.2.1
theorem xBB.l6 {μ : jM} (h : xBB μ) : 0 < mN μ 6 := h.1.2.2.2.1
theorem xBB.l7 {μ : jM} (h : xBB μ) : 0 < mN μ 7 := h.1.2.2.2.2.1
theorem xBB.l8 {μ : jM} (h : xBB μ) : 0 < mN μ 8 := h.1.2.2.2.2.2
theorem xBB.l11 {μ : jM} (h : xBB μ) {i : Nat} (hi : i < 10) : i < mN μ 11 := h.2.1 i hi
theorem xBB.p03 {μ : jM} (h : xBB μ) : mP μ 0 0 3 = some (4, 0) := h.2.2.1
theorem xBB.p40 {μ : jM} (h : xBB μ) : mP μ 4 0 0 = some (5, 0) := h.2.2.2.1
theorem xBB.p42 {μ : jM} (h : xBB μ) : mP μ 4 0 2 = some (6, 0) := h.2.2.2.2.1
theorem xBB.p43 {μ : jM} (h : xBB μ) : mP μ 4 0 3 = some (7, 0) := h.2.2.2.2.2.1
theorem xBB.p44 {μ : jM} (h : xBB μ) : mP μ 4 0 4 = some (8, 0) := h.2.2.2.2.2.2.1
theorem xBB.p8 {μ : jM} (h : xBB μ) {i : Nat} (hi : i < 10) : mP μ 8 0 i = some (11, i) := h.2.2.2.2.2.2.2 i hi
theorem xR.BB {S : jS} {μ : jM} (h : xR S μ) : xBB μ := ⟨⟨h.B.l0, h.B.l4, h.B.l5, h.B.l6, h.B.l7, h.B.l8⟩, fun _ hi => h.B.l11 hi, h.B.p03, h.B.p40, h.B.p42, h.B.p43, h.B.p44, fun _ hi => h.B.p8 hi⟩
theorem xBB.to {Q : Nat → Nat → Prop} {μ μ' : jM} (h : xBB μ) (hF : oF Q μ μ') : xBB μ' := by
  unfold xBB at h ⊢
  rw [hF.1.1, hF.1.2.1]
  exact h
theorem sW_5 {S : jS} (h : sW S) {c : Nat} : sW (su S 5 c 1) := by
  obtain ⟨h1, h2, h3, h4, h5⟩ := h
  refine ⟨h1, fun k hk => ?_, fun j hj => ?_, fun j hj => ?_, ?_⟩
  · obtain ⟨a1, a2, a3, a4, a5⟩ := h2 k hk
    refine ⟨by simpa [sf_su] using a1, by simpa [sf_su] using a2, by simpa [sf_su] using a3, by simpa [sf_su] using a4, ?_⟩
    rw [sf_su]
    split
    · exact Or.inr rfl
    · exact a5
  · simpa [sf_su] using h3 j hj
  · simpa [sf_su] using h4 j hj
  · simpa [sf_su] using h5
/-- a converter is withdrawn, and no way is kept -/
theorem xR_wd {S : jS} {μ μ' : jM} {c : Nat} (h : xR S μ) (hF : oF (fun kd _ => kd = 11) (sI μ 13 c 5 1) μ') (h0 : ∀ b, b < 10 → mI μ' 11 b 4 = 0) : xR (su S 5 c 1) μ' := by
  have hn : mN μ' = mN μ := hF.1.1
  have hp : mP μ' = mP μ := hF.1.2.1
  have hi : ∀ kd y z, kd ≠ 11 → ¬ (kd = 13 ∧ y = c ∧ z = 5) → mI μ' kd y z = mI μ kd y z := fun kd y z hk h2 => (hF.2 kd y z hk).trans (mI_sI_n _ _ _ _ _ h2)
  have e : ∀ a x, a ≠ 5 → sf (su S 5 c 1) a x = sf S a x := fun a x ha => by rw [sf_su, if_neg (fun q => ha q.1)]
  have en : ∀ a k, nxt (su S 5 c 1) a k = nxt S a k := fun a k => by
    unfold nxt
    simp only [e 1 _ (by decide), sn_su]
  have el : ∀ a, lst (su S 5 c 1) a = lst S a := fun a => by
    unfold lst
    simp only [e 1 _ (by decide), sn_su]
  refine ⟨by rw [hn, hp]; exact h.B, ⟨by rw [hn]; exact h.n12, by rw [hn]; exact h.n13, by rw [hi _ _ _ (by omega) (by omega)]; exact h.fc, by rw [hi _ _ _ (by omega) (by omega)]; exact h.nc⟩, ⟨by rw [hi _ _ _ (by omega) (by omega), e _ _ (by omega)]; exact h.now, by rw [hi _ _ _ (by omega) (by omega), e _ _ (by omega)]; exact h.bud, by rw [hi _ _ _ (by omega) (by omega), e _ _ (by omega)]; exact h.uns⟩, fun j hj => by rw [hi _ _ _ (by omega) (by omega), e _ _ (by omega)]; exact h.last hj, fun j hj => ?_, fun i hii => ?_, fun k hk => ?_, ⟨fun a ha => by rw [hp, en, el]; exact ⟨h.low ha, h.high ha⟩, fun k a hk ha hf => by rw [hp, en]; exact h.next hk ha (by rw [← e 1 k (by decide)]; exact hf)⟩, fun a ha => Or.inl (h0 a ha)⟩
  · have hi10 : ∀ y z, mI μ' 10 y z = mI μ 10 y z := fun y z => hi 10 y z (by omega) (by omega)
    simp only [hi10, e 6 _ (by omega), e 7 _ (by omega), e 8 _ (by omega)]
    exact ⟨h.ly hj, h.ll hj, h.lr hj⟩
  · have hi12 : ∀ y z, mI μ' 12 y z = mI μ 12 y z := fun y z => hi 12 y z (by omega) (by omega)
    simp only [hi12, hp, e 9 _ (by omega), e 10 _ (by omega), e 11 _ (by omega), e 12 _ (by omega), e 13 _ (by omega), e 14 _ (by omega), e 15 _ (by omega), e 16 _ (by omega)]
    exact ⟨⟨h.fsz hii, h.fen hii, h.ffm hii, h.fq hii, h.frd hii, h.fst hii, h.fhl hii⟩, h.flw hii⟩
  · rw [hi 13 k 0 (by omega) (by omega), hi 13 k 1 (by omega) (by omega), hi 13 k 2 (by omega) (by omega), hi 13 k 3 (by omega) (by omega), hi 13 k 4 (by omega) (by omega), e 1 _ (by omega), e 2 _ (by omega), e 3 _ (by omega), e 4 _ (by omega), sf_su, hF.2 13 k 5 (by omega), mI_sI]
    refine ⟨h.cnum hk, h.cfr hk, h.cto hk, h.clo hk, h.cco hk, ?_⟩
    by_cases q : k = c
    · rw [if_pos ⟨rfl, q, rfl⟩, if_pos ⟨rfl, q⟩]
    · rw [if_neg (fun h => q h.2.1), if_neg (fun h => q h.2)]
      exact h.cwd hk
theorem hv_pop {S S' : jS} : ∀ n, lostHv S S' n = cnt (fun i => hvB S i && !hvB S' i) n
  | 0 => rfl
  | n + 1 => by
    show lostHv S S' n + _ = cnt _ n + _
    rw [hv_pop n]
    congr 1
    unfold hvB
    by_cases h1 : hv S n = -1 <;> by_cases h2 : hv S' n = -1 <;> simp [h1, h2]

set_option maxRecDepth 20000 in
theorem c_J13_bitCount_95d88 {l : Launch} (hst : l.stackTraces = false) (x : Int64) : jMet l yJ13_bitCount_95d88 cJ13_bitCount_95d88 2 (some FieldType.int) 6 100 0 0 (fun avs μ => avs = [aL x]) (fun avs μ r μ' => r = some (aI (nI (cnt (bt x) 64))) ∧ μ' = μ) (fun avs μ E μ' => False) := by
  refine jMet_ofF hst pf_bc ?_
  intro avs μ J C hav hpre
  subst hpre
  refine ⟨Nat.le_of_ble_eq_true rfl, ?_⟩
  show J 0 [some (aL x), none] [] μ 0 0
  refine mj_lload_n (pc' := 1) C dJ13_bitCount_95d88_0 rfl rfl ?_
  refine mj_lload_n (pc' := 2) C dJ13_bitCount_95d88_1 rfl rfl ?_
  refine mj_iconst (pc' := 3) (v := 1) C dJ13_bitCount_95d88_2 rfl rfl ?_
  refine mj_lushr (pc' := 4) C dJ13_bitCount_95d88_3 rfl ?_
  refine mj_ldc2 (pc' := 7) C dJ13_bitCount_95d88_4 rfl kk_J13_314 ?_
  refine mj_land (pc' := 8) C dJ13_bitCount_95d88_7 rfl ?_
  refine mj_lsub (pc' := 9) C dJ13_bitCount_95d88_8 rfl ?_
  refine mj_lstore_n_0 (pc' := 10) C dJ13_bitCount_95d88_9 rfl (by decide) ?_
  refine mj_lload_n (pc' := 11) C dJ13_bitCount_95d88_10 rfl rfl ?_
  refine mj_ldc2 (pc' := 14) C dJ13_bitCount_95d88_11 rfl kk_J13_316 ?_
  refine mj_land (pc' := 15) C dJ13_bitCount_95d88_14 rfl ?_
  refine mj_lload_n (pc' := 16) C dJ13_bitCount_95d88_15 rfl rfl ?_
  refine mj_iconst (pc' := 17) (v := 2) C dJ13_bitCount_95d88_16 rfl rfl ?_
  refine mj_lushr (pc' := 18) C dJ13_bitCount_95d88_17 rfl ?_
  refine mj_ldc2 (pc' := 21) C dJ13_bitCount_95d88_18 rfl kk_J13_316 ?_
  refine mj_land (pc' := 22) C dJ13_bitCount_95d88_21 rfl ?_
  refine mj_ladd (pc' := 23) C dJ13_bitCount_95d88_22 rfl ?_
  refine mj_lstore_n_0 (pc' := 24) C dJ13_bitCount_95d88_23 rfl (by decide) ?_
  refine mj_lload_n (pc' := 25) C dJ13_bitCount_95d88_24 rfl rfl ?_
  refine mj_lload_n (pc' := 26) C dJ13_bitCount_95d88_25 rfl rfl ?_
  refine mj_iconst (pc' := 27) (v := 4) C dJ13_bitCount_95d88_26 rfl rfl ?_
  refine mj_lushr (pc' := 28) C dJ13_bitCount_95d88_27 rfl ?_
  refine mj_ladd (pc' := 29) C dJ13_bitCount_95d88_28 rfl ?_
  refine mj_ldc2 (pc' := 32) C dJ13_bitCount_95d88_29 rfl kk_J13_318 ?_
  refine mj_land (pc' := 33) C dJ13_bitCount_95d88_32 rfl ?_
  refine mj_lstore_n_0 (pc' := 34) C dJ13_bitCount_95d88_33 rfl (by decide) ?_
  refine mj_lload_n (pc' := 35) C dJ13_bitCount_95d88_34 rfl rfl ?_
  refine mj_lload_n (pc' := 36) C dJ13_bitCount_95d88_35 rfl rfl ?_
  refine mj_bipush (pc' := 38) (v := 8) C dJ13_bitCount_95d88_36 rfl rfl ?_
  refine mj_lushr (pc' := 39) C dJ13_bitCount_95d88_38 rfl ?_
  refine mj_ladd (pc' := 40) C dJ13_bitCount_95d88_39 rfl ?_
  refine mj_lstore_n_0 (pc' := 41) C dJ13_bitCount_95d88_40 rfl (by decide) ?_
  refine mj_lload_n (pc' := 42) C dJ13_bitCount_95d88_41 rfl rfl ?_
  refine mj_lload_n (pc' := 43) C dJ13_bitCount_95d88_42 rfl rfl ?_
  refine mj_bipush (pc' := 45) (v := 16) C dJ13_bitCount_95d88_43 rfl rfl ?_
  refine mj_lushr (pc' := 46) C dJ13_bitCount_95d88_45 rfl ?_
  refine mj_ladd (pc' := 47) C dJ13_bitCount_95d88_46 rfl ?_
  refine mj_lstore_n_0 (pc' := 48) C dJ13_bitCount_95d88_47 rfl (by decide) ?_
  refine mj_lload_n (pc' := 49) C dJ13_bitCount_95d88_48 rfl rfl ?_
  refine mj_lload_n (pc' := 50) C dJ13_bitCount_95d88_49 rfl rfl ?_
  refine mj_bipush (pc' := 52) (v := 32) C dJ13_bitCount_95d88_50 rfl rfl ?_
  refine mj_lushr (pc' := 53) C dJ13_bitCount_95d88_52 rfl ?_
  refine mj_ladd (pc' := 54) C dJ13_bitCount_95d88_53 rfl ?_
  refine mj_lstore_n_0 (pc' := 55) C dJ13_bitCount_95d88_54 rfl (by decide) ?_
  refine mj_lload_n (pc' := 56) C dJ13_bitCount_95d88_55 rfl rfl ?_
  refine mj_l2i (pc' := 57) C dJ13_bitCount_95d88_56 rfl ?_
  refine mj_bipush (pc' := 59) (v := 127) C dJ13_bitCount_95d88_57 rfl rfl ?_
  refine mj_iand (pc' := 60) C dJ13_bitCount_95d88_59 rfl ?_
  refine mj_iret C dJ13_bitCount_95d88_60 (by decide) (by decide) (by decide) ?_
  exact ⟨by rw [← jpop_c]; rfl, rfl⟩

set_option maxRecDepth 20000 in
theorem c_X5_firstToEnd {l : Launch} (hst : l.stackTraces = false) (S : jS) (Q : Nat → Bool) (w : Int64) : jMet l yX5_firstToEnd cX5_firstToEnd 7 (some FieldType.int) 6 100 0 0 (fun avs μ => avs = [aR 0 0, aL w] ∧ xR S μ ∧ sW S ∧ sL S ∧ wB w Q) (fun avs μ r μ' => r = some (aI (fv S Q (sn S 0)).1) ∧ μ' = μ) (fun avs μ E μ' => False) := by
  refine jMet_of hst (by decide) ?_
  intro avs μ J C hav hpre
  obtain ⟨rfl, hR, hW, hL, hB⟩ := hpre
  refine ⟨Nat.le_of_ble_eq_true rfl, ?_⟩
  show J 0 [some (aR 0 0), some (aL w), none, none, none, none, none] [] μ 0 0
  have hW0 := hW.1.1
  have hW1 := hW.1.2
  refine mj_iconst (pc' := 1) (v := 0) C dX5_firstToEnd_0 rfl rfl ?_
  refine mj_istore_n_3 (pc' := 2) C dX5_firstToEnd_1 rfl (by decide) rfl ?_
  refine mj_ldc (pc' := 4) C dX5_firstToEnd_2 rfl kk_X5_253 ?_
  refine mj_istore_4 (pc' := 6) C dX5_firstToEnd_4 rfl (by decide) rfl ?_
  refine mj_iconst (pc' := 7) (v := 0) C dX5_firstToEnd_6 rfl rfl ?_
  refine mj_istore_5 (pc' := 9) C dX5_firstToEnd_7 rfl (by decide) rfl ?_
  have loop : ∀ (d : Nat) (i : Nat) (x6 : Option jV), i + d = sn S 0 → J 9 [some (aR 0 0), some (aL w), none, some (aI (fv S Q i).1), some (aI (fv S Q i).2), some (aI (nI i)), x6] [] μ 0 0 := by
    intro d
    induction d with
    | zero =>
      intro i x6 hd
      obtain rfl : i = sn S 0 := by omega
      refine mj_iload (pc' := 11) C dX5_firstToEnd_9 rfl rfl ?_
      refine mj_aload_n (pc' := 12) C dX5_firstToEnd_11 rfl rfl ?_
      refine mj_getV (pc' := 15) C dX5_firstToEnd_12 rfl (ci := 5) (f := 4) rfl (by decide) (by decide) (fun _ => rfl) (by decide) kf_X5_146 hR.B.l0 hR.fc ?_
      refine mj_icmp_ge (tgt := 66) (pc' := 18) C dX5_firstToEnd_15 (by decide) rfl (fun _ => ?_) (fun h9 => absurd (Int32.le_refl _) h9)
      refine mj_iload_n (pc' := 67) C dX5_firstToEnd_66 rfl rfl ?_
      refine mj_iret C dX5_firstToEnd_67 (by decide) (by decide) (by decide) ?_
      exact ⟨rfl, rfl⟩
    | succ d ih =>
      intro i x6 hd
      have hlt : i < sn S 0 := by omega
      obtain ⟨hg, eg⟩ := fF_of hW hlt
      have hfs := fv_s (D := Q) (hL _ hg)
      refine mj_iload (pc' := 11) C dX5_firstToEnd_9 rfl rfl ?_
      refine mj_aload_n (pc' := 12) C dX5_firstToEnd_11 rfl rfl ?_
      refine mj_getV (pc' := 15) C dX5_firstToEnd_12 rfl (ci := 5) (f := 4) rfl (by decide) (by decide) (fun _ => rfl) (by decide) kf_X5_146 hR.B.l0 hR.fc ?_
      refine mj_icmp_ge (tgt := 66) (pc' := 18) C dX5_firstToEnd_15 (by decide) rfl (fun h9 => absurd h9 (nI_ge hlt (by omega))) (fun _ => ?_)
      refine mj_aload_n (pc' := 19) C dX5_firstToEnd_18 rfl rfl ?_
      refine mj_getR (pc' := 22) C dX5_firstToEnd_19 rfl (ci := 5) (f := 0) rfl (by decide) (by decide) (fun _ => rfl) (by decide) kf_X5_9 hR.B.l0 hR.B.p00 ?_
      refine mj_aload_n (pc' := 23) C dX5_firstToEnd_22 rfl rfl ?_
      refine mj_getR (pc' := 26) C dX5_firstToEnd_23 rfl (ci := 5) (f := 2) rfl (by decide) (by decide) (fun _ => rfl) (by decide) kf_X5_21 hR.B.l0 hR.B.p02 ?_
      refine mj_iload (pc' := 28) C dX5_firstToEnd_26 rfl rfl ?_
      refine mj_aald (pc' := 29) C dX5_firstToEnd_28 rfl rfl (by decide) rfl (fun _ _ => rfl) (by decide) (by decide) hR.B.l3 rfl (by first | assumption | omega) (hR.B.p3 (by rw [hR.n12]; first | assumption | omega)) ?_
      refine mj_getV (pc' := 32) C dX5_firstToEnd_29 rfl (ci := 4) (f := 3) rfl (by decide) (by decide) (fun _ => rfl) (by decide) kf_X5_165 (hR.l12 (by first | assumption | omega)) ((hR.ffm (by first | assumption | omega)).trans eg) ?_
      refine mj_ialdV (pc' := 33) C dX5_firstToEnd_32 rfl rfl (by decide) (by decide) hR.B.l1 rfl (by first | assumption | omega) (hR.last (by first | assumption | omega)) ?_
      refine mj_istore_6 (pc' := 35) C dX5_firstToEnd_33 rfl (by decide) rfl ?_
      refine mj_lload_n (pc' := 36) C dX5_firstToEnd_35 rfl rfl ?_
      refine mj_lconst (pc' := 37) (v := 1) C dX5_firstToEnd_36 rfl rfl ?_
      refine mj_iload (pc' := 39) C dX5_firstToEnd_37 rfl rfl ?_
      refine mj_lshl (pc' := 40) C dX5_firstToEnd_39 rfl ?_
      refine mj_land (pc' := 41) C dX5_firstToEnd_40 rfl ?_
      refine mj_lconst (pc' := 42) (v := 0) C dX5_firstToEnd_41 rfl rfl ?_
      refine mj_lcmp (pc' := 43) C dX5_firstToEnd_42 rfl ?_
      refine mj_if_eq (tgt := 60) (pc' := 46) C dX5_firstToEnd_43 (by decide) rfl (fun h43 => ?_) (fun h43 => ?_)
      · have hQ : Q i = false := by rw [← hB i (by omega)]; exact (bt_t (by omega)).mp ((lg_cmp_eq _ _).mp h43)
        have e : fv S Q (i + 1) = fv S Q i := by rw [hfs]; exact if_neg (fun h => by rw [hQ] at h; cases h.1)
        have hih := fun x6 => ih (i + 1) x6 (by omega)
        rw [e] at hih
        refine mj_iinc_5 (pc' := 63) (w := 1) C dX5_firstToEnd_60 rfl rfl (by decide) rfl ?_
        refine mj_goto (pc' := 9) C dX5_firstToEnd_63 (by decide) ?_
        rw [nI_1]
        exact hih _
      · have hQ : Q i = true := by
          rw [← hB i (by omega)]
          exact Decidable.byContradiction (fun q => h43 ((lg_cmp_eq _ _).mpr ((bt_t (by omega)).mpr (Bool.eq_false_iff.mpr q))))
        refine mj_iload (pc' := 48) C dX5_firstToEnd_46 rfl rfl ?_
        refine mj_iload (pc' := 50) C dX5_firstToEnd_48 rfl rfl ?_
        refine mj_icmp_ge (tgt := 60) (pc' := 53) C dX5_firstToEnd_50 (by decide) rfl (fun h50 => ?_) (fun h50 => ?_)
        · have e : fv S Q (i + 1) = fv S Q i := by rw [hfs]; exact if_neg (fun h => absurd h.2 (Int32.not_lt.mpr h50))
          have hih := fun x6 => ih (i + 1) x6 (by omega)
          rw [e] at hih
          refine mj_iinc_5 (pc' := 63) (w := 1) C dX5_firstToEnd_60 rfl rfl (by decide) rfl ?_
          refine mj_goto (pc' := 9) C dX5_firstToEnd_63 (by decide) ?_
          rw [nI_1]
          exact hih _
        · have e : fv S Q (i + 1) = (nI i, sf S 0 (fF S i)) := by rw [hfs]; exact if_pos ⟨hQ, Int32.not_le.mp h50⟩
          have hih := fun x6 => ih (i + 1) x6 (by omega)
          rw [e] at hih
          refine mj_iload (pc' := 55) C dX5_firstToEnd_53 rfl rfl ?_
          refine mj_istore_n_3 (pc' := 56) C dX5_firstToEnd_55 rfl (by decide) rfl ?_
          refine mj_iload (pc' := 58) C dX5_firstToEnd_56 rfl rfl ?_
          refine mj_istore_4 (pc' := 60) C dX5_firstToEnd_58 rfl (by decide) rfl ?_
          refine mj_iinc_5 (pc' := 63) (w := 1) C dX5_firstToEnd_60 rfl rfl (by decide) rfl ?_
          refine mj_goto (pc' := 9) C dX5_firstToEnd_63 (by decide) ?_
          rw [nI_1]
          exact hih _
  exact loop (sn S 0) 0 _ (Nat.zero_add _)

set_option maxRecDepth 20000 in
theorem c_X5_moveAhead {l : Launch} (hst : l.stackTraces = false) (S : jS) : jMet l yX5_moveAhead cX5_moveAhead 8 (some FieldType.int) 19 620 0 0 (fun avs μ => avs = [aR 0 0] ∧ xR S μ ∧ sW S ∧ sL S) (fun avs μ r μ' => r = some (aI (o_moveAhead S).2.1) ∧ xR (o_moveAhead S).2.2 μ' ∧ xF μ μ') (fun avs μ E μ' => False) := by
  refine jMet_of hst (by decide) ?_
  intro avs μ J C hav hpre
  obtain ⟨rfl, hR, hW, hL⟩ := hpre
  refine ⟨Nat.le_of_ble_eq_true rfl, ?_⟩
  show J 0 [some (aR 0 0), none, none, none, none, none, none, none] [] μ 0 0
  have hW0 := hW.1.1
  have hW1 := hW.1.2
  obtain ⟨m0, em⟩ : ∃ m0, m0 = (mv (sn S 0) (fun i => hvB S i && !sfB S i && decide (i < sn S 0)) S).1 := ⟨_, rfl⟩
  obtain ⟨Sf, eS⟩ : ∃ Sf, Sf = (mv (sn S 0) (fun i => hvB S i && !sfB S i && decide (i < sn S 0)) S).2 := ⟨_, rfl⟩
  have eo : o_moveAhead S = (0, nI m0, Sf) := by rw [em, eS]; rfl
  rw [eo] at C
  refine mj_aload_n (pc' := 1) C dX5_moveAhead_0 rfl rfl ?_
  refine mj_callVN_0 (ci := 5) (pc' := 4) C (c_X5_filesWithHaven hst S) dX5_moveAhead_1 rfl km_X5_93 ki_yX5_filesWithHaven kz_yX5_filesWithHaven kn_X5 kc_yX5_filesWithHaven rfl (by decide) (by decide) ⟨rfl, by decide, by decide, by decide +kernel⟩ ⟨by decide, by decide⟩ (Nat.le_of_ble_eq_true rfl) ⟨by decide, by decide⟩ ⟨rfl, hR, hW⟩ (fun r1 μ1 hq1 hm1 => ?_) (fun _ _ h9 => h9)
  obtain ⟨rfl, hR1, hF1⟩ := hq1
  dsimp only [Option.toList, List.nil_append, List.cons_append]
  have hR := hR1
  have hF1 := hF1
  refine mj_aload_n (pc' := 5) C dX5_moveAhead_4 rfl rfl ?_
  refine mj_callVN_0 (ci := 5) (pc' := 8) C (c_X5_filesThatAreSafe hst S) dX5_moveAhead_5 rfl km_X5_193 ki_yX5_filesThatAreSafe kz_yX5_filesThatAreSafe kn_X5 kc_yX5_filesThatAreSafe rfl (by decide) (by decide) ⟨rfl, by decide, by decide, by decide +kernel⟩ ⟨by decide, by decide⟩ (Nat.le_of_ble_eq_true rfl) ⟨by decide, by decide⟩ ⟨rfl, hR, hW⟩ (fun r5 μ5 hq5 hm5 => ?_) (fun _ _ h9 => h9)
  obtain ⟨rfl, hq9⟩ := hq5
  have hq9 := hq9.symm
  subst hq9
  dsimp only [Option.toList, List.nil_append, List.cons_append]
  refine mj_ldc2 (pc' := 11) C dX5_moveAhead_8 rfl kk_X5_100 ?_
  refine mj_lxor (pc' := 12) C dX5_moveAhead_11 rfl ?_
  refine mj_land (pc' := 13) C dX5_moveAhead_12 rfl ?_
  have hB1 : wB (bset (hvB S) (sn S 0) &&& (bset (sfB S) (sn S 0) ^^^ -1)) (fun i => hvB S i && !sfB S i && decide (i < sn S 0)) := by
    intro j hj
    rw [bt_and, bt_not _ hj, bt_bset _ _ (by omega) j hj, bt_bset _ _ (by omega) j hj]
    show _ = (hvB S j && !sfB S j && decide (j < sn S 0))
    cases hvB S j <;> cases sfB S j <;> cases decide (j < sn S 0) <;> rfl
  refine mj_lstore_n_1 (pc' := 14) C dX5_moveAhead_13 rfl (by decide) rfl ?_
  refine mj_iconst (pc' := 15) (v := 0) C dX5_moveAhead_14 rfl rfl ?_
  refine mj_istore_n_3 (pc' := 16) C dX5_moveAhead_15 rfl (by decide) rfl ?_
  refine mj_iconst (pc' := 17) (v := 0) C dX5_moveAhead_16 rfl rfl ?_
  refine mj_istore_4 (pc' := 19) C dX5_moveAhead_17 rfl (by decide) rfl ?_
  have loop : ∀ (d : Nat) (t : Nat) (Q : Nat → Bool) (S1 : jS) (w : Int64) (mvd : Nat) (μ1 : jM) (x5 x6 x7 : Option jV), t + d = sn S 0 → sn S1 0 = sn S 0 → sW S1 → sL S1 → xR S1 μ1 → xF μ μ1 → wB w Q → (∀ i, Q i = true → i < sn S 0) → (mvd + (mv d Q S1).1 = m0 ∧ (mv d Q S1).2 = Sf) → J 19 [some (aR 0 0), some (aL w), none, some (aI (nI mvd)), some (aI (nI t)), x5, x6, x7] [] μ1 0 0 := by
    intro d
    induction d with
    | zero =>
      intro t Q S1 w mvd μ1 x5 x6 x7 hd hn hW1 hL1 hR1 hF hB hQ hm
      obtain rfl : t = sn S 0 := by omega
      obtain ⟨hm1, hm2⟩ := hm
      have e1 : mvd = m0 := hm1
      have e2 : S1 = Sf := hm2
      refine mj_iload (pc' := 21) C dX5_moveAhead_19 rfl rfl ?_
      refine mj_aload_n (pc' := 22) C dX5_moveAhead_21 rfl rfl ?_
      refine mj_getV (pc' := 25) C dX5_moveAhead_22 rfl (ci := 5) (f := 4) rfl (by decide) (by decide) (fun _ => rfl) (by decide) kf_X5_146 hR1.B.l0 hR1.fc ?_
      refine mj_icmp_ge (tgt := 107) (pc' := 28) C dX5_moveAhead_25 (by decide) rfl (fun _ => ?_) (fun h9 => absurd (by rw [hn]; exact Int32.le_refl _) h9)
      refine mj_iload_n (pc' := 108) C dX5_moveAhead_107 rfl rfl ?_
      refine mj_iret C dX5_moveAhead_108 (by decide) (by decide) (by decide) ?_
      exact ⟨by rw [e1], by rw [← e2]; exact hR1, hF⟩
    | succ d ih =>
      intro t Q S1 w mvd μ1 x5 x6 x7 hd hn hW1 hL1 hR1 hF hB hQ hm
      have hlt : t < sn S 0 := by omega
      have hW01 := hW1.1.1
      have hW11 := hW1.1.2
      refine mj_iload (pc' := 21) C dX5_moveAhead_19 rfl rfl ?_
      refine mj_aload_n (pc' := 22) C dX5_moveAhead_21 rfl rfl ?_
      refine mj_getV (pc' := 25) C dX5_moveAhead_22 rfl (ci := 5) (f := 4) rfl (by decide) (by decide) (fun _ => rfl) (by decide) kf_X5_146 hR1.B.l0 hR1.fc ?_
      refine mj_icmp_ge (tgt := 107) (pc' := 28) C dX5_moveAhead_25 (by decide) rfl (fun h9 => absurd h9 (by rw [hn]; exact nI_ge hlt (by omega))) (fun _ => ?_)
      refine mj_lload_n (pc' := 29) C dX5_moveAhead_28 rfl rfl ?_
      refine mj_lconst (pc' := 30) (v := 0) C dX5_moveAhead_29 rfl rfl ?_
      refine mj_lcmp (pc' := 31) C dX5_moveAhead_30 rfl ?_
      refine mj_if_eq (tgt := 107) (pc' := 34) C dX5_moveAhead_31 (by decide) rfl (fun h31 => ?_) (fun h31 => ?_)
      · have hz : w = 0 := (lg_cmp_eq _ _).mp h31
        have hnn : nd S1 Q (sn S1 0) = none := by
          cases hq : nd S1 Q (sn S1 0) with
          | none => rfl
          | some i =>
            obtain ⟨g1, g2⟩ := (nd_s _).1 i hq
            rw [← hB i (by omega), bt_z.mp hz i (by omega)] at g2
            cases g2
        unfold mv at hm
        rw [hnn] at hm
        obtain ⟨hm1, hm2⟩ := hm
        have e1 : mvd = m0 := hm1
        have e2 : S1 = Sf := hm2
        refine mj_iload_n (pc' := 108) C dX5_moveAhead_107 rfl rfl ?_
        refine mj_iret C dX5_moveAhead_108 (by decide) (by decide) (by decide) ?_
        exact ⟨by rw [e1], by rw [← e2]; exact hR1, hF⟩
      · obtain ⟨i, hnd⟩ : ∃ i, nd S1 Q (sn S1 0) = some i := by
          cases hq : nd S1 Q (sn S1 0) with
          | some i => exact ⟨i, rfl⟩
          | none =>
            refine absurd ((lg_cmp_eq _ _).mpr (bt_z.mpr (fun j hj => ?_))) h31
            rw [hB j hj]
            cases hj2 : Q j with
            | false => rfl
            | true => rw [← (nd_s _).2 hq j (by rw [hn]; exact hQ j hj2), hj2]
        obtain ⟨hi, hQi⟩ := (nd_s _).1 i hnd
        have efv : (fv S1 Q (sn S1 0)).1 = nI i := by unfold fv; rw [hnd]
        obtain ⟨hg, eg⟩ := fF_of hW1 hi
        refine mj_aload_n (pc' := 35) C dX5_moveAhead_34 rfl rfl ?_
        refine mj_lload_n (pc' := 36) C dX5_moveAhead_35 rfl rfl ?_
        refine mj_callVN_1 (ci := 5) (pc' := 39) C (c_X5_firstToEnd hst S1 Q w) dX5_moveAhead_36 rfl km_X5_196 ki_yX5_firstToEnd kz_yX5_firstToEnd kn_X5 kc_yX5_firstToEnd rfl (by decide) (by decide) ⟨rfl, by decide, by decide, by decide +kernel⟩ ⟨by decide, by decide⟩ (Nat.le_of_ble_eq_true rfl) ⟨by decide, by decide⟩ ⟨rfl, hR1, hW1, hL1, hB⟩ (fun r36 μ36 hq36 hm36 => ?_) (fun _ _ h9 => h9)
        obtain ⟨rfl, hq9⟩ := hq36
        have hq9 := hq9.symm
        subst hq9
        dsimp only [Option.toList, List.nil_append, List.cons_append]
        rw [efv]
        refine mj_istore_5 (pc' := 41) C dX5_moveAhead_39 rfl (by decide) rfl ?_
        refine mj_lload_n (pc' := 42) C dX5_moveAhead_41 rfl rfl ?_
        refine mj_lconst (pc' := 43) (v := 1) C dX5_moveAhead_42 rfl rfl ?_
        refine mj_iload (pc' := 45) C dX5_moveAhead_43 rfl rfl ?_
        refine mj_lshl (pc' := 46) C dX5_moveAhead_45 rfl ?_
        refine mj_ldc2 (pc' := 49) C dX5_moveAhead_46 rfl kk_X5_100 ?_
        refine mj_lxor (pc' := 50) C dX5_moveAhead_49 rfl ?_
        refine mj_land (pc' := 51) C dX5_moveAhead_50 rfl ?_
        have hB2 : wB (w &&& (b1L i ^^^ -1)) (fun x => Q x && !decide (x = i)) := by
          intro j hj
          rw [bt_and, bt_not _ hj, bt_1 i (by omega) j hj, hB j hj]
        have hQ2 : ∀ x, (Q x && !decide (x = i)) = true → x < sn S 0 := fun x hx => hQ x (by revert hx; cases Q x <;> simp)
        refine mj_lstore_n_1 (pc' := 52) C dX5_moveAhead_51 rfl (by decide) rfl ?_
        refine mj_aload_n (pc' := 53) C dX5_moveAhead_52 rfl rfl ?_
        refine mj_getR (pc' := 56) C dX5_moveAhead_53 rfl (ci := 5) (f := 2) rfl (by decide) (by decide) (fun _ => rfl) (by decide) kf_X5_21 hR1.B.l0 hR1.B.p02 ?_
        refine mj_iload (pc' := 58) C dX5_moveAhead_56 rfl rfl ?_
        refine mj_aald (pc' := 59) C dX5_moveAhead_58 rfl rfl (by decide) rfl (fun _ _ => rfl) (by decide) (by decide) hR1.B.l3 rfl (by first | assumption | omega) (hR1.B.p3 (by rw [hR1.n12]; first | assumption | omega)) ?_
        refine mj_astore_6 (pc' := 61) C dX5_moveAhead_59 rfl (by decide) rfl ?_
        refine mj_aload_n (pc' := 62) C dX5_moveAhead_61 rfl rfl ?_
        refine mj_aload (pc' := 64) C dX5_moveAhead_62 rfl rfl ?_
        refine mj_callVN_1 (ci := 5) (pc' := 67) C (c_X5_findHaven hst S1 i) dX5_moveAhead_64 rfl km_X5_199 ki_yX5_findHaven kz_yX5_findHaven kn_X5 kc_yX5_findHaven rfl (by decide) (by decide) ⟨rfl, by decide, by decide, by decide +kernel⟩ ⟨by decide, by decide⟩ (Nat.le_of_ble_eq_true rfl) ⟨by decide, by decide⟩ ⟨rfl, hR1, hW1, hi⟩ (fun r64 μ64 hq64 hm64 => ?_) (fun _ _ h9 => h9)
        obtain ⟨rfl, hR1, hF64⟩ := hq64
        dsimp only [Option.toList, List.nil_append, List.cons_append]
        have hF := hF.tr hF64
        refine mj_istore_7 (pc' := 69) C dX5_moveAhead_67 rfl (by decide) rfl ?_
        refine mj_iload (pc' := 71) C dX5_moveAhead_69 rfl rfl ?_
        refine mj_iconst (pc' := 72) (v := (-1)) C dX5_moveAhead_71 rfl rfl ?_
        refine mj_icmp_eq (tgt := 101) (pc' := 75) C dX5_moveAhead_72 (by decide) rfl (fun h72 => ?_) (fun h72 => ?_)
        · have hm2 : mvd + (mv d (fun x => Q x && !decide (x = i)) S1).1 = m0 ∧ (mv d (fun x => Q x && !decide (x = i)) S1).2 = Sf := by
            unfold mv at hm
            rw [hnd] at hm
            dsimp only at hm
            rw [if_neg (fun h => h.1 h72)] at hm
            exact hm
          have hih := fun x5 x6 x7 => ih (t + 1) (fun x => Q x && !decide (x = i)) S1 (w &&& (b1L i ^^^ -1)) mvd _ x5 x6 x7 (by omega) hn hW1 hL1 hR1 hF hB2 hQ2 hm2
          refine mj_iinc_4 (pc' := 104) (w := 1) C dX5_moveAhead_101 rfl rfl (by decide) rfl ?_
          refine mj_goto (pc' := 19) C dX5_moveAhead_104 (by decide) ?_
          simp only [nI_1]
          exact hih _ _ _
        · obtain ⟨j, hj, ehv⟩ : ∃ j, j < 10 ∧ hv S1 i = nI j := by
            by_cases hs : sf S1 15 i = 0
            · rw [hv_k hW1 hi hs] at h72 ⊢
              rcases hd_in S1 i 10 with e | h
              · exact absurd e h72
              · exact h
            · exact absurd (hv_n hs) h72
          have eix : ix (hv S1 i) = j := by rw [ehv]; exact ix_nI (by omega)
          rw [ehv]
          refine mj_aload_n (pc' := 76) C dX5_moveAhead_75 rfl rfl ?_
          refine mj_aload (pc' := 78) C dX5_moveAhead_76 rfl rfl ?_
          refine mj_iload (pc' := 80) C dX5_moveAhead_78 rfl rfl ?_
          refine mj_callVN_2 (ci := 5) (pc' := 83) C (c_X5_costOfMove hst S1 i j) dX5_moveAhead_80 rfl km_X5_183 ki_yX5_costOfMove kz_yX5_costOfMove kn_X5 kc_yX5_costOfMove rfl (by decide) (by decide) ⟨rfl, by decide, by decide, by decide +kernel⟩ ⟨by decide, by decide⟩ (Nat.le_of_ble_eq_true rfl) ⟨by decide, by decide⟩ ⟨rfl, hR1, hW1, hi, hj⟩ (fun r80 μ80 hq80 hm80 => ?_) (fun _ _ h9 => h9)
          obtain ⟨rfl, hR1, hF80, -⟩ := hq80
          dsimp only [Option.toList, List.nil_append, List.cons_append]
          have hF := hF.tr hF80
          refine mj_aload_n (pc' := 84) C dX5_moveAhead_83 rfl rfl ?_
          refine mj_getV (pc' := 87) C dX5_moveAhead_84 rfl (ci := 5) (f := 7) rfl (by decide) (by decide) (fun _ => rfl) (by decide) kf_X5_36 hR1.B.l0 hR1.uns ?_
          refine mj_icmp_gt (tgt := 101) (pc' := 90) C dX5_moveAhead_87 (by decide) rfl (fun h87 => ?_) (fun h87 => ?_)
          · have hm2 : mvd + (mv d (fun x => Q x && !decide (x = i)) S1).1 = m0 ∧ (mv d (fun x => Q x && !decide (x = i)) S1).2 = Sf := by
              unfold mv at hm
              rw [hnd] at hm
              dsimp only at hm
              rw [eix, if_neg (fun h => absurd h.2 (Int32.not_le.mpr h87))] at hm
              exact hm
            have hih := fun x5 x6 x7 => ih (t + 1) (fun x => Q x && !decide (x = i)) S1 (w &&& (b1L i ^^^ -1)) mvd _ x5 x6 x7 (by omega) hn hW1 hL1 hR1 hF hB2 hQ2 hm2
            refine mj_iinc_4 (pc' := 104) (w := 1) C dX5_moveAhead_101 rfl rfl (by decide) rfl ?_
            refine mj_goto (pc' := 19) C dX5_moveAhead_104 (by decide) ?_
            simp only [nI_1]
            exact hih _ _ _
          · refine mj_aload_n (pc' := 91) C dX5_moveAhead_90 rfl rfl ?_
            refine mj_aload (pc' := 93) C dX5_moveAhead_91 rfl rfl ?_
            refine mj_iload (pc' := 95) C dX5_moveAhead_93 rfl rfl ?_
            refine mj_callVN_2 (ci := 5) (pc' := 98) C (c_X5_take hst S1 i j) dX5_moveAhead_95 rfl km_X5_189 ki_yX5_take kz_yX5_take kn_X5 kc_yX5_take rfl (by decide) (by decide) ⟨rfl, by decide, by decide, by decide +kernel⟩ ⟨by decide, by decide⟩ (Nat.le_of_ble_eq_true rfl) ⟨by decide, by decide⟩ ⟨rfl, hR1, hW1, hi, hj⟩ (fun r95 μ95 hq95 hm95 => ?_) (fun _ _ h9 => h9)
            obtain ⟨rfl, hR1, hF95⟩ := hq95
            dsimp only [Option.toList, List.nil_append, List.cons_append]
            have hF := hF.tr hF95
            have hm2 : mvd + 1 + (mv d (fun x => Q x && !decide (x = i)) (tk S1 i j)).1 = m0 ∧ (mv d (fun x => Q x && !decide (x = i)) (tk S1 i j)).2 = Sf := by
              unfold mv at hm
              rw [hnd] at hm
              dsimp only at hm
              rw [eix, if_pos ⟨h72, Int32.not_lt.mp h87⟩] at hm
              exact ⟨by have := hm.1; dsimp only at this; omega, hm.2⟩
            have hih := fun x5 x6 x7 => ih (t + 1) (fun x => Q x && !decide (x = i)) (tk S1 i j) (w &&& (b1L i ^^^ -1)) (mvd + 1) _ x5 x6 x7 (by omega) hn (tk_W hW1 hi hj) (tk_L hL1 i j) hR1 hF hB2 hQ2 hm2
            refine mj_iinc_3 (pc' := 101) (w := 1) C dX5_moveAhead_98 rfl rfl (by decide) rfl ?_
            refine mj_iinc_4 (pc' := 104) (w := 1) C dX5_moveAhead_101 rfl rfl (by decide) rfl ?_
            refine mj_goto (pc' := 19) C dX5_moveAhead_104 (by decide) ?_
            simp only [nI_1]
            exact hih _ _ _
  exact loop (sn S 0) 0 _ S _ 0 _ _ _ _ (Nat.zero_add _) rfl hW hL hR hF1 hB1 (fun i h => by simp only [Bool.and_eq_true, decide_eq_true_eq] at h; exact h.2) ⟨by rw [em, Nat.zero_add], eS.symm⟩

set_option maxRecDepth 20000 in
theorem c_X3_forgetWays {l : Launch} (hst : l.stackTraces = false)  : jMet l yX3_forgetWays cX3_forgetWays 2 none 6 100 0 0 (fun avs μ => avs = [aR 4 0] ∧ xBB μ) (fun avs μ r μ' => r = none ∧ oF (fun kd _ => kd = 11) μ μ' ∧ ∀ b, b < 10 → mI μ' 11 b 4 = 0) (fun avs μ E μ' => False) := by
  refine jMet_of hst (by decide) ?_
  intro avs μ J C hav hpre
  obtain ⟨rfl, hR⟩ := hpre
  refine ⟨Nat.le_of_ble_eq_true rfl, ?_⟩
  show J 0 [some (aR 4 0), none] [] μ 0 0
  refine mj_iconst (pc' := 1) (v := 0) C dX3_forgetWays_0 rfl rfl ?_
  refine mj_istore_n_1 (pc' := 2) C dX3_forgetWays_1 rfl (by decide) rfl ?_
  have loop : ∀ (d : Nat) (i : Nat) (μ1 : jM), i + d = 10 → oF (fun kd _ => kd = 11) μ μ1 → (∀ b, b < i → mI μ1 11 b 4 = 0) → J 2 [some (aR 4 0), some (aI (nI i))] [] μ1 0 0 := by
    intro d
    induction d with
    | zero =>
      intro i μ1 hd hF hz
      have hR1 := hR.to hF
      obtain rfl : i = 10 := by omega
      refine mj_iload_n (pc' := 3) C dX3_forgetWays_2 rfl rfl ?_
      refine mj_bipush (pc' := 5) (v := 10) C dX3_forgetWays_3 rfl rfl ?_
      refine mj_icmp_ge (tgt := 24) (pc' := 8) C dX3_forgetWays_5 (by decide) rfl (fun _ => ?_) (fun h9 => absurd (by decide) h9)
      refine mj_vret C dX3_forgetWays_24 (by decide) (by decide) (by decide) ?_
      exact ⟨rfl, hF, hz⟩
    | succ d ih =>
      intro i μ1 hd hF hz
      have hR1 := hR.to hF
      have hlt : i < 10 := by omega
      refine mj_iload_n (pc' := 3) C dX3_forgetWays_2 rfl rfl ?_
      refine mj_bipush (pc' := 5) (v := 10) C dX3_forgetWays_3 rfl rfl ?_
      refine mj_icmp_ge (tgt := 24) (pc' := 8) C dX3_forgetWays_5 (by decide) rfl (fun h9 => absurd h9 (nI_ge (b := 10) hlt (by decide))) (fun _ => ?_)
      refine mj_aload_n (pc' := 9) C dX3_forgetWays_8 rfl rfl ?_
      refine mj_getR (pc' := 12) C dX3_forgetWays_9 rfl (ci := 3) (f := 4) rfl (by decide) (by decide) (fun _ => rfl) (by decide) kf_X3_25 hR1.B.l4 hR1.B.p44 ?_
      refine mj_iload_n (pc' := 13) C dX3_forgetWays_12 rfl rfl ?_
      refine mj_aald (pc' := 14) C dX3_forgetWays_13 rfl rfl (by decide) rfl (fun _ _ => rfl) (by decide) (by decide) hR1.B.l8 rfl (by first | assumption | omega) (hR1.B.p8 (by first | assumption | omega)) ?_
      refine mj_iconst (pc' := 15) (v := 0) C dX3_forgetWays_14 rfl rfl ?_
      refine mj_putI (pc' := 18) C dX3_forgetWays_15 rfl (ci := 0) (f := 4) rfl (by decide) (by decide) rfl (fun _ _ => rfl) (by decide) kf_X3_55 rfl rfl (hR1.B.l11 (by first | assumption | omega)) ?_
      refine mj_iinc_1 (pc' := 21) (w := 1) C dX3_forgetWays_18 rfl rfl (by decide) rfl ?_
      refine mj_goto (pc' := 2) C dX3_forgetWays_21 (by decide) ?_
      rw [nI_1]
      refine ih (i + 1) _ (by omega) (oF_sI rfl hF) (fun b hb => ?_)
      by_cases e : b = i
      · subst e; exact mI_sI_s _ _ _ _ _
      · rw [mI_sI_n _ _ _ _ _ (by omega)]; exact hz b (by omega)
  exact loop 10 0 _ rfl oF.rf (fun b hb => absurd hb (Nat.not_lt_zero b))

set_option maxRecDepth 20000 in
theorem c_X3_withdrawOne {l : Launch} (hst : l.stackTraces = false) (S : jS) (c : Nat) : jMet l yX3_withdrawOne cX3_withdrawOne 2 none 7 140 0 0 (fun avs μ => avs = [aR 4 0, aI (nI c)] ∧ xR S μ ∧ sW S ∧ c < sn S 1) (fun avs μ r μ' => r = none ∧ xR (su S 5 c 1) μ' ∧ xF μ μ') (fun avs μ E μ' => False) := by
  refine jMet_of hst (by decide) ?_
  intro avs μ J C hav hpre
  obtain ⟨rfl, hR, hW, hc⟩ := hpre
  refine ⟨Nat.le_of_ble_eq_true rfl, ?_⟩
  show J 0 [some (aR 4 0), some (aI (nI c))] [] μ 0 0
  have hW0 := hW.1.1
  have hW1 := hW.1.2
  refine mj_aload_n (pc' := 1) C dX3_withdrawOne_0 rfl rfl ?_
  refine mj_getR (pc' := 4) C dX3_withdrawOne_1 rfl (ci := 3) (f := 0) rfl (by decide) (by decide) (fun _ => rfl) (by decide) kf_X3_11 hR.B.l4 hR.B.p40 ?_
  refine mj_iload_n (pc' := 5) C dX3_withdrawOne_4 rfl rfl ?_
  refine mj_aald (pc' := 6) C dX3_withdrawOne_5 rfl rfl (by decide) rfl (fun _ _ => rfl) (by decide) (by decide) hR.B.l5 rfl (by first | assumption | omega) (hR.B.p5 (by rw [hR.n13]; first | assumption | omega)) ?_
  refine mj_iconst (pc' := 7) (v := 1) C dX3_withdrawOne_6 rfl rfl ?_
  refine mj_putI (pc' := 10) C dX3_withdrawOne_7 rfl (ci := 1) (f := 5) rfl (by decide) (by decide) rfl (fun _ _ => rfl) (by decide) kf_X3_51 rfl rfl (hR.l13 (by first | assumption | omega)) ?_
  refine mj_aload_n (pc' := 11) C dX3_withdrawOne_10 rfl rfl ?_
  refine mj_callVN_0 (ci := 3) (pc' := 14) C (c_X3_forgetWays hst) dX3_withdrawOne_11 rfl km_X3_45 ki_yX3_forgetWays kz_yX3_forgetWays kn_X3 kc_yX3_forgetWays rfl (by decide) (by decide) ⟨rfl, by decide, by decide, by decide +kernel⟩ ⟨by decide, by decide⟩ (Nat.le_of_ble_eq_true rfl) ⟨by decide, by decide⟩ ⟨rfl, hR.BB⟩ (fun r11 μ11 hq11 hm11 => ?_) (fun _ _ h9 => h9)
  obtain ⟨rfl, hO11, hz11⟩ := hq11
  dsimp only [Option.toList, List.nil_append, List.cons_append]
  refine mj_vret C dX3_withdrawOne_14 (by decide) (by decide) (by decide) ?_
  exact ⟨rfl, xR_wd hR hO11 hz11, (xF_sI (by decide) xF.rf).tr (fun kd hk => ⟨by rw [hO11.1.1], fun y z => ⟨hO11.2 kd y z (by omega), by rw [hO11.1.2.1], by rw [hO11.1.2.2]⟩⟩)⟩

set_option maxRecDepth 20000 in
theorem c_X5_withdraw {l : Launch} (hst : l.stackTraces = false) (S : jS) (c : Int32) : jMet l yX5_withdraw cX5_withdraw 4 (some FieldType.int) 19 620 1 6 (fun avs μ => avs = [aR 0 0, aI c] ∧ xR S μ ∧ sW S) (fun avs μ r μ' => (o_withdraw S c).1 = 0 ∧ r = some (aI (o_withdraw S c).2.1) ∧ xR (o_withdraw S c).2.2 μ' ∧ xF μ μ') (fun avs μ E μ' => (o_withdraw S c).1 ≠ 0 ∧ E = exn (o_withdraw S c).1 ∧ xR S μ' ∧ xF μ μ') := by
  refine jMet_of hst (by decide) ?_
  intro avs μ J C hav hpre
  obtain ⟨rfl, hR, hW⟩ := hpre
  refine ⟨Nat.le_of_ble_eq_true rfl, ?_⟩
  show J 0 [some (aR 0 0), some (aI c), none, none] [] μ 0 0
  have hW0 := hW.1.1
  have hW1 := hW.1.2
  refine mj_iload_n (pc' := 1) C dX5_withdraw_0 rfl rfl ?_
  refine mj_if_lt (tgt := 15) (pc' := 4) C dX5_withdraw_1 (by decide) rfl (fun h1 => ?_) (fun h1 => ?_)
  · have hb : bad c (sn S 1) := Or.inl h1
    refine mj_throw C (text := "there is no such converter") (names := ["java/lang/RuntimeException", "java/lang/Exception"]) dX5_withdraw_15 dX5_withdraw_18 dX5_withdraw_19 dX5_withdraw_21 dX5_withdraw_24 rfl rfl kl_X5_78 kn_IOOBE thrw_1 thrk_1 (by decide) (by decide) (by decide) (by decide) (by decide) (by decide) (by decide) ?_
    exact thr_of (o := o_withdraw S c) (c := 1) (by unfold o_withdraw; rw [if_pos hb]) (by decide) hR xF.rf
  · refine mj_iload_n (pc' := 5) C dX5_withdraw_4 rfl rfl ?_
    refine mj_aload_n (pc' := 6) C dX5_withdraw_5 rfl rfl ?_
    refine mj_getR (pc' := 9) C dX5_withdraw_6 rfl (ci := 5) (f := 3) rfl (by decide) (by decide) (fun _ => rfl) (by decide) kf_X5_28 hR.B.l0 hR.B.p03 ?_
    refine mj_getV (pc' := 12) C dX5_withdraw_9 rfl (ci := 3) (f := 1) rfl (by decide) (by decide) (fun _ => rfl) (by decide) kf_X5_61 hR.B.l4 hR.nc ?_
    refine mj_icmp_lt (tgt := 25) (pc' := 15) C dX5_withdraw_12 (by decide) rfl (fun h12 => ?_) (fun h12 => ?_)
    · have hb := bad_no (n := sn S 1) h1 h12
      obtain ⟨k, hk, rfl, ek⟩ := bad_of hb (by omega)
      refine mj_aload_n (pc' := 26) C dX5_withdraw_25 rfl rfl ?_
      refine mj_getR (pc' := 29) C dX5_withdraw_26 rfl (ci := 5) (f := 3) rfl (by decide) (by decide) (fun _ => rfl) (by decide) kf_X5_28 hR.B.l0 hR.B.p03 ?_
      refine mj_getR (pc' := 32) C dX5_withdraw_29 rfl (ci := 3) (f := 0) rfl (by decide) (by decide) (fun _ => rfl) (by decide) kf_X5_83 hR.B.l4 hR.B.p40 ?_
      refine mj_iload_n (pc' := 33) C dX5_withdraw_32 rfl rfl ?_
      refine mj_aald (pc' := 34) C dX5_withdraw_33 rfl rfl (by decide) rfl (fun _ _ => rfl) (by decide) (by decide) hR.B.l5 rfl (by first | assumption | omega) (hR.B.p5 (by rw [hR.n13]; first | assumption | omega)) ?_
      refine mj_getV (pc' := 37) C dX5_withdraw_34 rfl (ci := 1) (f := 5) rfl (by decide) (by decide) (fun _ => rfl) (by decide) kf_X5_87 (hR.l13 (by first | assumption | omega)) (hR.cwd (by first | assumption | omega)) ?_
      refine mj_if_eq (tgt := 50) (pc' := 40) C dX5_withdraw_37 (by decide) rfl (fun h37 => ?_) (fun h37 => ?_)
      · refine mj_aload_n (pc' := 51) C dX5_withdraw_50 rfl rfl ?_
        refine mj_callVN_0 (ci := 5) (pc' := 54) C (c_X5_filesWithHaven hst S) dX5_withdraw_51 rfl km_X5_93 ki_yX5_filesWithHaven kz_yX5_filesWithHaven kn_X5 kc_yX5_filesWithHaven rfl (by decide) (by decide) ⟨rfl, by decide, by decide, by decide +kernel⟩ ⟨by decide, by decide⟩ (Nat.le_of_ble_eq_true rfl) ⟨by decide, by decide⟩ ⟨rfl, hR, hW⟩ (fun r51 μ51 hq51 hm51 => ?_) (fun _ _ h9 => h9)
        obtain ⟨rfl, hR51, hF51⟩ := hq51
        dsimp only [Option.toList, List.nil_append, List.cons_append]
        have hR := hR51
        refine mj_lstore_n_2 (pc' := 55) C dX5_withdraw_54 rfl (by decide) rfl ?_
        refine mj_aload_n (pc' := 56) C dX5_withdraw_55 rfl rfl ?_
        refine mj_getR (pc' := 59) C dX5_withdraw_56 rfl (ci := 5) (f := 3) rfl (by decide) (by decide) (fun _ => rfl) (by decide) kf_X5_28 hR.B.l0 hR.B.p03 ?_
        refine mj_iload_n (pc' := 60) C dX5_withdraw_59 rfl rfl ?_
        refine mj_callVN_1 (ci := 3) (pc' := 63) C (c_X3_withdrawOne hst S k) dX5_withdraw_60 rfl km_X5_97 ki_yX3_withdrawOne kz_yX3_withdrawOne kn_X3 kc_yX3_withdrawOne rfl (by decide) (by decide) ⟨rfl, by decide, by decide, by decide +kernel⟩ ⟨by decide, by decide⟩ (Nat.le_of_ble_eq_true rfl) ⟨by decide, by decide⟩ ⟨rfl, hR, hW, hk⟩ (fun r60 μ60 hq60 hm60 => ?_) (fun _ _ h9 => h9)
        obtain ⟨rfl, hR60, hF60⟩ := hq60
        dsimp only [Option.toList, List.nil_append, List.cons_append]
        have hR := hR60
        refine mj_lload_n (pc' := 64) C dX5_withdraw_63 rfl rfl ?_
        refine mj_aload_n (pc' := 65) C dX5_withdraw_64 rfl rfl ?_
        refine mj_callVN_0 (ci := 5) (pc' := 68) C (c_X5_filesWithHaven hst (su S 5 k 1)) dX5_withdraw_65 rfl km_X5_93 ki_yX5_filesWithHaven kz_yX5_filesWithHaven kn_X5 kc_yX5_filesWithHaven rfl (by decide) (by decide) ⟨rfl, by decide, by decide, by decide +kernel⟩ ⟨by decide, by decide⟩ (Nat.le_of_ble_eq_true rfl) ⟨by decide, by decide⟩ ⟨rfl, hR, sW_5 hW⟩ (fun r65 μ65 hq65 hm65 => ?_) (fun _ _ h9 => h9)
        obtain ⟨rfl, hR65, hF65⟩ := hq65
        dsimp only [Option.toList, List.nil_append, List.cons_append]
        have hR := hR65
        refine mj_ldc2 (pc' := 71) C dX5_withdraw_68 rfl kk_X5_100 ?_
        refine mj_lxor (pc' := 72) C dX5_withdraw_71 rfl ?_
        refine mj_land (pc' := 73) C dX5_withdraw_72 rfl ?_
        refine mj_callSN_1 (pc' := 76) C (c_J13_bitCount_95d88 hst _) dX5_withdraw_73 rfl km_X5_102 ks_yJ13_bitCount_95d88 kn_J13 kc_yJ13_bitCount_95d88 ⟨by decide, by decide, by decide +kernel⟩ ⟨by decide, by decide⟩ (Nat.le_of_ble_eq_true rfl) ⟨by decide, by decide⟩ rfl (fun r73 μ73 hq73 hm73 => ?_) (fun _ _ h9 => h9)
        obtain ⟨rfl, hq9⟩ := hq73
        have hq9 := hq9.symm
        subst hq9
        dsimp only [Option.toList, List.nil_append, List.cons_append]
        refine mj_iret C dX5_withdraw_76 (by decide) (by decide) (by decide) ?_
        refine ret_of (o := o_withdraw S (nI k)) (v := nI (cnt _ 64)) ?_ hR65 ((hF51.tr hF60).tr hF65)
        unfold o_withdraw
        rw [if_neg hb, ek, if_neg (fun h => h h37), hv_pop]
        have e1 : cnt (fun i => hvB S i && !hvB (su S 5 k 1) i) (sn S 0) = cnt (bt (bset (hvB S) (sn S 0) &&& (bset (hvB (su S 5 k 1)) (sn S 0) ^^^ -1))) 64 := by
          rw [cnt_f (m := sn S 0) 64 (by omega) (fun i h1 h2 => ?_)]
          · refine cnt_c _ (fun i hi => ?_)
            rw [bt_and, bt_not _ (by omega), bt_bset _ _ (by omega) i (by omega), bt_bset _ _ (by omega) i (by omega), decide_eq_true hi]
            rfl
          · rw [bt_and, bt_bset _ _ (by omega) i h2, decide_eq_false (by omega)]
            rfl
        rw [e1]
        rfl
      · refine mj_throw C (text := "the converter is withdrawn") (names := ["java/lang/RuntimeException", "java/lang/Exception"]) dX5_withdraw_40 dX5_withdraw_43 dX5_withdraw_44 dX5_withdraw_46 dX5_withdraw_49 rfl rfl kl_X5_64 kn_ISE thrw_3 thrk_3 (by decide) (by decide) (by decide) (by decide) (by decide) (by decide) (by decide) ?_
        exact thr_of (o := o_withdraw S (nI k)) (c := 3) (by unfold o_withdraw; rw [if_neg hb, ek, if_pos h37]) (by decide) hR xF.rf
    · have hb : bad c (sn S 1) := Or.inr (Int32.not_lt.mp h12)
      refine mj_throw C (text := "there is no such converter") (names := ["java/lang/RuntimeException", "java/lang/Exception"]) dX5_withdraw_15 dX5_withdraw_18 dX5_withdraw_19 dX5_withdraw_21 dX5_withdraw_24 rfl rfl kl_X5_78 kn_IOOBE thrw_1 thrk_1 (by decide) (by decide) (by decide) (by decide) (by decide) (by decide) (by decide) ?_
      exact thr_of (o := o_withdraw S c) (c := 1) (by unfold o_withdraw; rw [if_pos hb]) (by decide) hR xF.rf
