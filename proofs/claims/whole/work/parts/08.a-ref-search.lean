/-! THE REFERENCE: WHAT ITS SEARCH KEEPS -/
/-- .. of the reference's things while it searches -/
def mC (S : jS) (μ : jM) : Prop := mB (mN μ) (mP μ) ∧ (mI μ 20 0 29 = nI (sn S 1) ∧ mI μ 20 0 30 = nI (sn S 0) ∧ mI μ 20 0 31 = sf S 17 0 ∧ mI μ 20 0 32 = sf S 17 1 ∧ mI μ 20 0 33 = sf S 17 2) ∧ (∀ a i, a ≤ 16 → i < sl S a → mI μ (21 + a) 0 i = sf S a i)
theorem mR.C {S : jS} {μ : jM} (h : mR S μ) : mC S μ := ⟨h.1, h.2.1, h.2.2.1⟩
theorem mC.B {S : jS} {μ : jM} (h : mC S μ) : mB (mN μ) (mP μ) := h.1
theorem mC.nc {S : jS} {μ : jM} (h : mC S μ) : mI μ 20 0 29 = nI (sn S 1) := h.2.1.1
theorem mC.nf {S : jS} {μ : jM} (h : mC S μ) : mI μ 20 0 30 = nI (sn S 0) := h.2.1.2.1
theorem mC.bud {S : jS} {μ : jM} (h : mC S μ) : mI μ 20 0 31 = sf S 17 0 := h.2.1.2.2.1
theorem mC.rest {S : jS} {μ : jM} (h : mC S μ) : mI μ 20 0 32 = sf S 17 1 := h.2.1.2.2.2.1
theorem mC.now {S : jS} {μ : jM} (h : mC S μ) : mI μ 20 0 33 = sf S 17 2 := h.2.1.2.2.2.2
theorem mC.v {S : jS} {μ : jM} (h : mC S μ) (a : Nat) {i k : Nat} (ha : a ≤ 16) (hk : 21 + a = k) (hi : i < sl S a) : mI μ k 0 i = sf S a i := by rw [← hk]; exact h.2.2 a i ha hi
theorem mR.mk {S : jS} {μ : jM} (h : mC S μ) (h2 : mI μ 20 0 34 = 0 ∨ (mI μ 20 0 34 = 1 ∧ ∀ a, a < 10 → mTab μ a (best S a))) (h3 : ∀ j, j < 10 → mI μ 49 0 j = 0) : mR S μ := ⟨h.1, h.2.1, h.2.2, h2, h3⟩
/-- what may be written, place by place -/
def oG (Q : Nat → Nat → Nat → Prop) (μ μ' : jM) : Prop := (mN μ' = mN μ ∧ mP μ' = mP μ ∧ mG μ' = mG μ) ∧ ∀ kd y z, ¬ Q kd y z → mI μ' kd y z = mI μ kd y z
theorem oG.rf {Q : Nat → Nat → Nat → Prop} {μ : jM} : oG Q μ μ := ⟨⟨rfl, rfl, rfl⟩, fun _ _ _ _ => rfl⟩
theorem oG.tr {Q : Nat → Nat → Nat → Prop} {μ μ1 μ2 : jM} (h : oG Q μ μ1) (h2 : oG Q μ1 μ2) : oG Q μ μ2 := ⟨⟨h2.1.1.trans h.1.1, h2.1.2.1.trans h.1.2.1, h2.1.2.2.trans h.1.2.2⟩, fun kd y z hq => (h2.2 kd y z hq).trans (h.2 kd y z hq)⟩
theorem oG.up {Q Q' : Nat → Nat → Nat → Prop} {μ μ1 : jM} (h : oG Q μ μ1) (hq : ∀ kd y z, Q kd y z → Q' kd y z) : oG Q' μ μ1 := ⟨h.1, fun kd y z h2 => h.2 kd y z (fun q => h2 (hq kd y z q))⟩
theorem oG_sI {Q : Nat → Nat → Nat → Prop} {μ0 μ : jM} {kd y z : Nat} {v : Int32} (hq : Q kd y z) (h : oG Q μ0 μ) : oG Q μ0 (sI μ kd y z v) := ⟨h.1, fun kd' y' z' h2 => (mI_sI_n μ kd y z v (fun q => h2 (by rw [q.1, q.2.1, q.2.2]; exact hq))).trans (h.2 kd' y' z' h2)⟩
/-- the search writes kinds 40 to 49 -/
def gQ (kd _y _z : Nat) : Prop := 40 ≤ kd ∧ kd ≤ 49
/-- the table's rows of a format -/
def tQ (a kd z : Nat) : Prop := ((kd = 40 ∨ kd = 41 ∨ kd = 42) ∧ 10 * a ≤ z ∧ z < 10 * a + 10) ∨ (kd = 43 ∧ 90 * a ≤ z ∧ z < 90 * a + 90)
def pQ (a b kd _y z : Nat) : Prop := ((kd = 40 ∨ kd = 41 ∨ kd = 42) ∧ z = 10 * a + b) ∨ (kd = 43 ∧ 9 * (10 * a + b) ≤ z ∧ z < 9 * (10 * a + b) + 9)
theorem mC.to {S : jS} {μ μ' : jM} (h : mC S μ) (hF : oG gQ μ μ') : mC S μ' := by
  have hi : ∀ kd y z, kd < 40 → mI μ' kd y z = mI μ kd y z := fun kd y z hk => hF.2 kd y z (by unfold gQ; omega)
  refine ⟨by rw [hF.1.1, hF.1.2.1]; exact h.1, by rw [hi _ _ _ (by omega), hi _ _ _ (by omega), hi _ _ _ (by omega), hi _ _ _ (by omega), hi _ _ _ (by omega)]; exact h.2.1, fun a i ha hi9 => by rw [hi _ _ _ (by omega)]; exact h.2.2 a i ha hi9⟩
theorem oG.f {μ μ' : jM} (h : oG gQ μ μ') : mF μ μ' := fun kd hk => ⟨by rw [h.1.1], fun y z => ⟨h.2 kd y z (by unfold gQ; omega), by rw [h.1.2.1], by rw [h.1.2.2]⟩⟩
theorem mTab_same {a : Nat} {T : jB} {μ μ' : jM} (h : mTab μ a T) (h1 : ∀ kd z, tQ a kd z → mI μ' kd 0 z = mI μ kd 0 z) : mTab μ' a T := by
  intro b hb
  obtain ⟨q1, q2, q3, q4, q5⟩ := h b hb
  refine ⟨by rw [h1 40 _ (by unfold tQ; omega)]; exact q1, by rw [h1 41 _ (by unfold tQ; omega)]; exact q2, by rw [h1 42 _ (by unfold tQ; omega)]; exact q3, q4, fun k hk => by rw [h1 43 _ (by unfold tQ; omega)]; exact q5 k hk⟩
theorem mTab_set {a b : Nat} {T : jB} {μ μ' : jM} {q c : Int32} {w : List Nat} (h : mTab μ a T) (hb : b < 10) (hw : w.length ≤ 9) (h0 : mI μ' 40 0 (10 * a + b) = q ∧ mI μ' 41 0 (10 * a + b) = c ∧ mI μ' 42 0 (10 * a + b) = nI w.length) (hk : ∀ k, k < w.length → mI μ' 43 0 (9 * (10 * a + b) + k) = nI (w.getD k 0)) (hF : ∀ kd z, tQ a kd z → ¬ pQ a b kd 0 z → mI μ' kd 0 z = mI μ kd 0 z) : mTab μ' a (fun x => if x = b then some (q, c, w) else T x) := by
  intro y hy
  dsimp only
  by_cases e : y = b
  · subst e
    rw [if_pos rfl]
    exact ⟨h0.1, h0.2.1, h0.2.2, hw, hk⟩
  · rw [if_neg e]
    obtain ⟨q1, q2, q3, q4, q5⟩ := h y hy
    refine ⟨?_, ?_, ?_, q4, fun k hk => ?_⟩
    · rw [hF 40 _ (by unfold tQ; omega) (by unfold pQ; omega)]; exact q1
    · rw [hF 41 _ (by unfold tQ; omega) (by unfold pQ; omega)]; exact q2
    · rw [hF 42 _ (by unfold tQ; omega) (by unfold pQ; omega)]; exact q3
    · rw [hF 43 _ (by unfold tQ; omega) (by unfold pQ; omega)]; exact q5 k hk
theorem off_3 {T : jB} {b n : Nat} {q c : Int32} (h : ∀ e, T b = some e → e.2.2.length ≤ 9) (hn : n ≤ 9) (hq : -1 < q) : f4 T b q c n ↔ btr (T b) q c n = true := by
  unfold f4 f3 f2
  cases hT : T b with
  | none => exact ⟨fun _ => rfl, fun _ => Or.inl hq⟩
  | some e =>
    obtain ⟨q0, c0, w0⟩ := e
    have h2 := h _ hT
    simp only [bq, bc, bw, btr, Bool.or_eq_true, Bool.and_eq_true, decide_eq_true_eq, nI_ltI (show n < 2 ^ 31 by omega) (show w0.length < 2 ^ 31 by have : w0.length ≤ 9 := h2; omega)]
/-- the next converter on from a format -/
noncomputable def nf (S : jS) (x : Nat) (vis : List Nat) (k : Nat) : Nat := ((List.range' k (sn S 1 - k)).find? (fun i => okb S i x vis)).getD (sn S 1)
theorem nf_is {S : jS} {x k c : Nat} {vis : List Nat} (h1 : k ≤ c) (h2 : c < sn S 1) (h3 : okb S c x vis = true) (h4 : ∀ i, k ≤ i → i < c → ¬ okb S i x vis = true) : nf S x vis k = c := by
  obtain ⟨a1, a2⟩ := fr_find (fun i => okb S i x vis) (sn S 1 - k) k
  unfold nf
  cases h : (List.range' k (sn S 1 - k)).find? (fun i => okb S i x vis) with
  | none => exact absurd h3 (Bool.eq_false_iff.mp (a2 h c h1 (by omega)))
  | some j =>
    obtain ⟨b1, b2, b3, b4⟩ := a1 j h
    show j = c
    rcases Nat.lt_trichotomy j c with q | q | q
    · exact absurd b3 (h4 j b1 q)
    · exact q
    · exact absurd h3 (Bool.eq_false_iff.mp (b4 c h1 q))
theorem nf_no {S : jS} {x k : Nat} {vis : List Nat} (h : ∀ i, k ≤ i → i < sn S 1 → ¬ okb S i x vis = true) : nf S x vis k = sn S 1 := by
  obtain ⟨a1, a2⟩ := fr_find (fun i => okb S i x vis) (sn S 1 - k) k
  unfold nf
  cases h2 : (List.range' k (sn S 1 - k)).find? (fun i => okb S i x vis) with
  | none => rfl
  | some j =>
    obtain ⟨b1, b2, b3, b4⟩ := a1 j h2
    exact absurd b3 (h j b1 (by omega))
theorem nf_s {S : jS} {x k : Nat} {vis : List Nat} (hk : k ≤ sn S 1) : k ≤ nf S x vis k ∧ nf S x vis k ≤ sn S 1 ∧ (nf S x vis k < sn S 1 → okb S (nf S x vis k) x vis = true) ∧ ∀ i, k ≤ i → i < nf S x vis k → ¬ okb S i x vis = true := by
  obtain ⟨a1, a2⟩ := fr_find (fun i => okb S i x vis) (sn S 1 - k) k
  unfold nf
  cases h2 : (List.range' k (sn S 1 - k)).find? (fun i => okb S i x vis) with
  | none => exact ⟨hk, Nat.le_refl _, fun h => absurd h (Nat.lt_irrefl _), fun i h1 h3 => Bool.eq_false_iff.mp (a2 h2 i h1 (by have : i < sn S 1 := h3; omega))⟩
  | some j =>
    obtain ⟨b1, b2, b3, b4⟩ := a1 j h2
    exact ⟨b1, by show j ≤ _; omega, fun _ => b3, fun i h1 h3 => Bool.eq_false_iff.mp (b4 i h1 h3)⟩

set_option maxRecDepth 20000 in
theorem c_X6_nextFrom {l : Launch} (hst : l.stackTraces = false) (S : jS) (x k : Nat) (vis : List Nat) : jMet l yX6_nextFrom cX6_nextFrom 4 (some FieldType.int) 6 100 0 0 (fun avs μ => avs = [aR 20 0, aI (nI x), aI (nI k)] ∧ mC S μ ∧ sW S ∧ (x < 10 ∧ k ≤ sn S 1) ∧ ∀ j, j < 10 → mI μ 49 0 j = b1 (j ∈ vis)) (fun avs μ r μ' => r = some (aI (nI (nf S x vis k))) ∧ μ' = μ) (fun avs μ E μ' => False) := by
  refine jMet_of hst (by decide) ?_
  intro avs μ J C hav hpre
  obtain ⟨rfl, hR, hW, ⟨hx, hk⟩, hon⟩ := hpre
  refine ⟨Nat.le_of_ble_eq_true rfl, ?_⟩
  show J 0 [some (aR 20 0), some (aI (nI x)), some (aI (nI k)), none] [] μ 0 0
  have hW0 := hW.1.1
  have hW1 := hW.1.2
  refine mj_iload_n (pc' := 1) C dX6_nextFrom_0 rfl rfl ?_
  refine mj_istore_n_3 (pc' := 2) C dX6_nextFrom_1 rfl (by decide) rfl ?_
  have loop : ∀ (d : Nat) (c : Nat), c + d = sn S 1 → k ≤ c → (∀ i, k ≤ i → i < c → ¬ okb S i x vis = true) → J 2 [some (aR 20 0), some (aI (nI x)), some (aI (nI k)), some (aI (nI c))] [] μ 0 0 := by
    intro d
    induction d with
    | zero =>
      intro c hd hkc hno
      obtain rfl : c = sn S 1 := by omega
      refine mj_iload_n (pc' := 3) C dX6_nextFrom_2 rfl rfl ?_
      refine mj_aload_n (pc' := 4) C dX6_nextFrom_3 rfl rfl ?_
      refine mj_getV (pc' := 7) C dX6_nextFrom_4 rfl (ci := 6) (f := 29) rfl (by decide) (by decide) (fun _ => rfl) (by decide) kf_X6_118 hR.B.l0 hR.nc ?_
      refine mj_icmp_ge (tgt := 49) (pc' := 10) C dX6_nextFrom_7 (by decide) rfl (fun _ => ?_) (fun h9 => absurd (Int32.le_refl _) h9)
      refine mj_iload_n (pc' := 50) C dX6_nextFrom_49 rfl rfl ?_
      refine mj_iret C dX6_nextFrom_50 (by decide) (by decide) (by decide) ?_
      exact ⟨by rw [nf_no hno], rfl⟩
    | succ d ih =>
      intro c hd hkc hno
      have hlt : c < sn S 1 := by omega
      obtain ⟨b, hb, eb⟩ := (hW.2.1 c hlt).2.1
      refine mj_iload_n (pc' := 3) C dX6_nextFrom_2 rfl rfl ?_
      refine mj_aload_n (pc' := 4) C dX6_nextFrom_3 rfl rfl ?_
      refine mj_getV (pc' := 7) C dX6_nextFrom_4 rfl (ci := 6) (f := 29) rfl (by decide) (by decide) (fun _ => rfl) (by decide) kf_X6_118 hR.B.l0 hR.nc ?_
      refine mj_icmp_ge (tgt := 49) (pc' := 10) C dX6_nextFrom_7 (by decide) rfl (fun h9 => absurd h9 (nI_ge hlt (by omega))) (fun _ => ?_)
      refine mj_aload_n (pc' := 11) C dX6_nextFrom_10 rfl rfl ?_
      refine mj_getR (pc' := 14) C dX6_nextFrom_11 rfl (ci := 6) (f := 5) rfl (by decide) (by decide) (fun _ => rfl) (by decide) kf_X6_25 hR.B.l0 (hR.B.p 5 (by decide) rfl) ?_
      refine mj_iload_n (pc' := 15) C dX6_nextFrom_14 rfl rfl ?_
      refine mj_zaldV (pc' := 16) C dX6_nextFrom_15 rfl rfl (by decide) (by decide) (hR.B.l 5 (by decide) rfl) rfl (by first | assumption | omega) (hR.v 5 (by decide) rfl (by unfold sl; simp <;> first | assumption | omega)) ?_
      refine mj_if_ne (tgt := 43) (pc' := 19) C dX6_nextFrom_16 (by decide) rfl (fun h16 => ?_) (fun h16 => ?_)
      · have hno2 : ∀ i, k ≤ i → i < c + 1 → ¬ okb S i x vis = true := by
          intro i h1 h2
          by_cases e : i = c
          · rw [e]; exact fun q => h16 (okb_iff.mp q).1
          · exact hno i h1 (by omega)
        refine mj_iinc_3 (pc' := 46) (w := 1) C dX6_nextFrom_43 rfl rfl (by decide) rfl ?_
        refine mj_goto (pc' := 2) C dX6_nextFrom_46 (by decide) ?_
        rw [nI_1]
        exact ih (c + 1) (by omega) (by omega) hno2
      · refine mj_aload_n (pc' := 20) C dX6_nextFrom_19 rfl rfl ?_
        refine mj_getR (pc' := 23) C dX6_nextFrom_20 rfl (ci := 6) (f := 1) rfl (by decide) (by decide) (fun _ => rfl) (by decide) kf_X6_13 hR.B.l0 (hR.B.p 1 (by decide) rfl) ?_
        refine mj_iload_n (pc' := 24) C dX6_nextFrom_23 rfl rfl ?_
        refine mj_ialdV (pc' := 25) C dX6_nextFrom_24 rfl rfl (by decide) (by decide) (hR.B.l 1 (by decide) rfl) rfl (by first | assumption | omega) (hR.v 1 (by decide) rfl (by unfold sl; simp <;> first | assumption | omega)) ?_
        refine mj_iload_n (pc' := 26) C dX6_nextFrom_25 rfl rfl ?_
        refine mj_icmp_ne (tgt := 43) (pc' := 29) C dX6_nextFrom_26 (by decide) rfl (fun h26 => ?_) (fun h26 => ?_)
        · have hno2 : ∀ i, k ≤ i → i < c + 1 → ¬ okb S i x vis = true := by
            intro i h1 h2
            by_cases e : i = c
            · rw [e]; exact fun q => h26 (okb_iff.mp q).2.1
            · exact hno i h1 (by omega)
          refine mj_iinc_3 (pc' := 46) (w := 1) C dX6_nextFrom_43 rfl rfl (by decide) rfl ?_
          refine mj_goto (pc' := 2) C dX6_nextFrom_46 (by decide) ?_
          rw [nI_1]
          exact ih (c + 1) (by omega) (by omega) hno2
        · refine mj_aload_n (pc' := 30) C dX6_nextFrom_29 rfl rfl ?_
          refine mj_getR (pc' := 33) C dX6_nextFrom_30 rfl (ci := 6) (f := 28) rfl (by decide) (by decide) (fun _ => rfl) (by decide) kf_X6_95 hR.B.l0 (hR.B.p 28 (by decide) rfl) ?_
          refine mj_aload_n (pc' := 34) C dX6_nextFrom_33 rfl rfl ?_
          refine mj_getR (pc' := 37) C dX6_nextFrom_34 rfl (ci := 6) (f := 2) rfl (by decide) (by decide) (fun _ => rfl) (by decide) kf_X6_16 hR.B.l0 (hR.B.p 2 (by decide) rfl) ?_
          refine mj_iload_n (pc' := 38) C dX6_nextFrom_37 rfl rfl ?_
          refine mj_ialdV (pc' := 39) C dX6_nextFrom_38 rfl rfl (by decide) (by decide) (hR.B.l 2 (by decide) rfl) rfl (by first | assumption | omega) ((hR.v 2 (by decide) rfl (by unfold sl; simp <;> first | assumption | omega)).trans eb) ?_
          refine mj_zaldV (pc' := 40) C dX6_nextFrom_39 rfl rfl (by decide) (by decide) (hR.B.l 28 (by decide) rfl) rfl (by first | assumption | omega) (hon b hb) ?_
          refine mj_if_eq (tgt := 49) (pc' := 43) C dX6_nextFrom_40 (by decide) rfl (fun h40 => ?_) (fun h40 => ?_)
          · have hok : okb S c x vis = true := okb_iff.mpr ⟨h16, h26, by rw [eb, ix_nI (by omega)]; exact b1_0.mp h40⟩
            refine mj_iload_n (pc' := 50) C dX6_nextFrom_49 rfl rfl ?_
            refine mj_iret C dX6_nextFrom_50 (by decide) (by decide) (by decide) ?_
            exact ⟨by rw [nf_is hkc hlt hok hno], rfl⟩
          · have hno2 : ∀ i, k ≤ i → i < c + 1 → ¬ okb S i x vis = true := by
              intro i h1 h2
              by_cases e : i = c
              · rw [e]; exact fun q => by have q2 := (okb_iff.mp q).2.2; rw [eb, ix_nI (by omega)] at q2; exact q2 (b1_n h40)
              · exact hno i h1 (by omega)
            refine mj_iinc_3 (pc' := 46) (w := 1) C dX6_nextFrom_43 rfl rfl (by decide) rfl ?_
            refine mj_goto (pc' := 2) C dX6_nextFrom_46 (by decide) ?_
            rw [nI_1]
            exact ih (c + 1) (by omega) (by omega) hno2
  exact loop (sn S 1 - k) k (by omega) (Nat.le_refl _) (fun i h1 h2 => by omega)

set_option maxRecDepth 20000 in
theorem c_X6_offer {l : Launch} (hst : l.stackTraces = false) (S : jS) (T : jB) (a b : Nat) (q c : Int32) (w : List Nat) : jMet l yX6_offer cX6_offer 7 none 6 100 0 0 (fun avs μ => avs = [aR 20 0, aI (nI (10 * a + b)), aI q, aI c, aI (nI w.length)] ∧ mC S μ ∧ (a < 10 ∧ b < 10 ∧ w.length ≤ 9) ∧ mTab μ a T ∧ (∀ e, T b = some e → e.2.2.length ≤ 9) ∧ -1 < q ∧ ∀ k, k < w.length → mI μ 44 0 k = nI (w.getD k 0)) (fun avs μ r μ' => r = none ∧ oG (pQ a b) μ μ' ∧ mTab μ' a (ofr T b q c w)) (fun avs μ E μ' => False) := by
  refine jMet_of hst (by decide) ?_
  intro avs μ J C hav hpre
  obtain ⟨rfl, hR, ⟨ha, hb, hw⟩, hT, hTb, hq, htr⟩ := hpre
  refine ⟨Nat.le_of_ble_eq_true rfl, ?_⟩
  show J 0 [some (aR 20 0), some (aI (nI (10 * a + b))), some (aI q), some (aI c), some (aI (nI w.length)), none, none] [] μ 0 0
  refine mj_iload_n (pc' := 1) C dX6_offer_0 rfl rfl ?_
  refine mj_aload_n (pc' := 2) C dX6_offer_1 rfl rfl ?_
  refine mj_getR (pc' := 5) C dX6_offer_2 rfl (ci := 6) (f := 19) rfl (by decide) (by decide) (fun _ => rfl) (by decide) kf_X6_68 hR.B.l0 (hR.B.p 19 (by decide) rfl) ?_
  refine mj_iload_n (pc' := 6) C dX6_offer_5 rfl rfl ?_
  refine mj_ialdV (pc' := 7) C dX6_offer_6 rfl rfl (by decide) (by decide) (hR.B.l 19 (by decide) rfl) rfl (by first | assumption | omega) (hT b hb).1 ?_
  refine jn (tgt := 15) (v := aI (b1 (bq (T b) < q))) (st := []) (fun K7 => ?_) ?_
  · refine mj_icmp_le (tgt := 14) (pc' := 10) C dX6_offer_7 (by decide) rfl (fun h7 => ?_) (fun h7 => ?_)
    · have ej : b1 (bq (T b) < q) = 0 := b1_f (Int32.not_lt.mpr h7)
      refine mj_iconst (pc' := 15) (v := 0) C dX6_offer_14 rfl rfl ?_
      rw [ej] at K7
      exact K7
    · have ej : b1 (bq (T b) < q) = 1 := b1_t (Int32.not_le.mp h7)
      refine mj_iconst (pc' := 11) (v := 1) C dX6_offer_10 rfl rfl ?_
      refine mj_goto (pc' := 15) C dX6_offer_11 (by decide) ?_
      rw [ej] at K7
      exact K7
  refine mj_istore_5 (pc' := 17) C dX6_offer_15 rfl (by decide) rfl ?_
  refine mj_iload_n (pc' := 18) C dX6_offer_17 rfl rfl ?_
  refine mj_aload_n (pc' := 19) C dX6_offer_18 rfl rfl ?_
  refine mj_getR (pc' := 22) C dX6_offer_19 rfl (ci := 6) (f := 19) rfl (by decide) (by decide) (fun _ => rfl) (by decide) kf_X6_68 hR.B.l0 (hR.B.p 19 (by decide) rfl) ?_
  refine mj_iload_n (pc' := 23) C dX6_offer_22 rfl rfl ?_
  refine mj_ialdV (pc' := 24) C dX6_offer_23 rfl rfl (by decide) (by decide) (hR.B.l 19 (by decide) rfl) rfl (by first | assumption | omega) (hT b hb).1 ?_
  refine mj_icmp_ne (tgt := 65) (pc' := 27) C dX6_offer_24 (by decide) rfl (fun h24 => ?_) (fun h24 => ?_)
  · have h67t : b1 (bq (T b) < q) = 0 → ¬ btr (T b) q c w.length = true := fun z h => ((off_3 hTb hw hq).mpr h).elim (b1_0.mp z) (fun h => h24 h.1)
    have h67f : ¬ b1 (bq (T b) < q) = 0 → btr (T b) q c w.length = true := fun z => (off_3 hTb hw hq).mp (Or.inl (b1_n z))
    refine mj_iload (pc' := 67) C dX6_offer_65 rfl rfl ?_
    refine mj_if_eq (tgt := 127) (pc' := 70) C dX6_offer_67 (by decide) rfl (fun h67 => ?_) (fun h67 => ?_)
    · have hbt := h67t h67
      have hres : oG (pQ a b) μ μ ∧ mTab μ a (ofr T b q c w) := ⟨oG.rf, by rw [ofr_f hbt]; exact hT⟩
      refine mj_vret C dX6_offer_127 (by decide) (by decide) (by decide) ?_
      exact ⟨rfl, hres⟩
    · have hbt := h67f h67
      refine mj_aload_n (pc' := 71) C dX6_offer_70 rfl rfl ?_
      refine mj_getR (pc' := 74) C dX6_offer_71 rfl (ci := 6) (f := 19) rfl (by decide) (by decide) (fun _ => rfl) (by decide) kf_X6_68 hR.B.l0 (hR.B.p 19 (by decide) rfl) ?_
      refine mj_iload_n (pc' := 75) C dX6_offer_74 rfl rfl ?_
      refine mj_iload_n (pc' := 76) C dX6_offer_75 rfl rfl ?_
      refine mj_iast (pc' := 77) C dX6_offer_76 rfl rfl (by decide) (by decide) (hR.B.l 19 (by decide) rfl) rfl (by first | assumption | omega) ?_
      refine mj_aload_n (pc' := 78) C dX6_offer_77 rfl rfl ?_
      refine mj_getR (pc' := 81) C dX6_offer_78 rfl (ci := 6) (f := 20) rfl (by decide) (by decide) (fun _ => rfl) (by decide) kf_X6_71 hR.B.l0 (hR.B.p 20 (by decide) rfl) ?_
      refine mj_iload_n (pc' := 82) C dX6_offer_81 rfl rfl ?_
      refine mj_iload_n (pc' := 83) C dX6_offer_82 rfl rfl ?_
      refine mj_iast (pc' := 84) C dX6_offer_83 rfl rfl (by decide) (by decide) (hR.B.l 20 (by decide) rfl) rfl (by first | assumption | omega) ?_
      refine mj_aload_n (pc' := 85) C dX6_offer_84 rfl rfl ?_
      refine mj_getR (pc' := 88) C dX6_offer_85 rfl (ci := 6) (f := 21) rfl (by decide) (by decide) (fun _ => rfl) (by decide) kf_X6_74 hR.B.l0 (hR.B.p 21 (by decide) rfl) ?_
      refine mj_iload_n (pc' := 89) C dX6_offer_88 rfl rfl ?_
      refine mj_iload (pc' := 91) C dX6_offer_89 rfl rfl ?_
      refine mj_iast (pc' := 92) C dX6_offer_91 rfl rfl (by decide) (by decide) (hR.B.l 21 (by decide) rfl) rfl (by first | assumption | omega) ?_
      refine mj_iconst (pc' := 93) (v := 0) C dX6_offer_92 rfl rfl ?_
      refine mj_istore_6 (pc' := 95) C dX6_offer_93 rfl (by decide) rfl ?_
      have loop : ∀ (d : Nat) (i : Nat) (μ1 : jM) (x5 : Int32), i + d = w.length → mC S μ1 → oG (fun kd _ z => kd = 43 ∧ 9 * (10 * a + b) ≤ z ∧ z < 9 * (10 * a + b) + 9) (sI (sI (sI μ 40 0 (10 * a + b) q) 41 0 (10 * a + b) c) 42 0 (10 * a + b) (nI w.length)) μ1 → (∀ k, k < i → mI μ1 43 0 (9 * (10 * a + b) + k) = nI (w.getD k 0)) → J 95 [some (aR 20 0), some (aI (nI (10 * a + b))), some (aI q), some (aI c), some (aI (nI w.length)), some (aI x5), some (aI (nI i))] [] μ1 0 0 := by
        intro d
        induction d with
        | zero =>
          intro i μ1 x5 hd hR1 hF hz
          obtain rfl : i = w.length := by omega
          have hres : oG (pQ a b) μ μ1 ∧ mTab μ1 a (ofr T b q c w) := by
            refine ⟨(oG_sI (Or.inl ⟨by omega, rfl⟩) (oG_sI (Or.inl ⟨by omega, rfl⟩) (oG_sI (Or.inl ⟨by omega, rfl⟩) oG.rf))).tr (hF.up (fun kd y z q => Or.inr q)), ?_⟩
            rw [ofr_t hbt]
            refine mTab_set hT hb hw ⟨?_, ?_, ?_⟩ hz (fun kd z h1 h2 => ?_)
            · rw [hF.2 _ _ _ (by omega)]; simp [mI_sI]
            · rw [hF.2 _ _ _ (by omega)]; simp [mI_sI]
            · rw [hF.2 _ _ _ (by omega)]; simp [mI_sI]
            · unfold pQ at h2
              rw [hF.2 _ _ _ (by omega), mI_sI_n _ _ _ _ _ (by omega), mI_sI_n _ _ _ _ _ (by omega), mI_sI_n _ _ _ _ _ (by omega)]
          refine mj_iload (pc' := 97) C dX6_offer_95 rfl rfl ?_
          refine mj_iload (pc' := 99) C dX6_offer_97 rfl rfl ?_
          refine mj_icmp_ge (tgt := 127) (pc' := 102) C dX6_offer_99 (by decide) rfl (fun _ => ?_) (fun h9 => absurd (Int32.le_refl _) h9)
          refine mj_vret C dX6_offer_127 (by decide) (by decide) (by decide) ?_
          exact ⟨rfl, hres⟩
        | succ d ih =>
          intro i μ1 x5 hd hR1 hF hz
          have hlt : i < w.length := by omega
          refine mj_iload (pc' := 97) C dX6_offer_95 rfl rfl ?_
          refine mj_iload (pc' := 99) C dX6_offer_97 rfl rfl ?_
          refine mj_icmp_ge (tgt := 127) (pc' := 102) C dX6_offer_99 (by decide) rfl (fun h9 => absurd h9 (nI_ge hlt (by omega))) (fun _ => ?_)
          refine mj_aload_n (pc' := 103) C dX6_offer_102 rfl rfl ?_
          refine mj_getR (pc' := 106) C dX6_offer_103 rfl (ci := 6) (f := 22) rfl (by decide) (by decide) (fun _ => rfl) (by decide) kf_X6_77 hR1.B.l0 (hR1.B.p 22 (by decide) rfl) ?_
          refine mj_bipush (pc' := 108) (v := 9) C dX6_offer_106 rfl rfl ?_
          refine mj_iload_n (pc' := 109) C dX6_offer_108 rfl rfl ?_
          refine mj_imul (pc' := 110) C dX6_offer_109 rfl ?_
          refine mj_iload (pc' := 112) C dX6_offer_110 rfl rfl ?_
          refine mj_iadd (pc' := 113) C dX6_offer_112 rfl ?_
          refine mj_aload_n (pc' := 114) C dX6_offer_113 rfl rfl ?_
          refine mj_getR (pc' := 117) C dX6_offer_114 rfl (ci := 6) (f := 23) rfl (by decide) (by decide) (fun _ => rfl) (by decide) kf_X6_80 hR1.B.l0 (hR1.B.p 23 (by decide) rfl) ?_
          refine mj_iload (pc' := 119) C dX6_offer_117 rfl rfl ?_
          refine mj_ialdV (pc' := 120) C dX6_offer_119 rfl rfl (by decide) (by decide) (hR1.B.l 23 (by decide) rfl) rfl (by first | assumption | omega) ((hF.2 44 0 i (by omega)).trans (Eq.trans (by simp [mI_sI]) (htr i hlt))) ?_
          refine mj_iast (pc' := 121) C dX6_offer_120 rfl rfl (by decide) (by decide) (hR1.B.l 22 (by decide) rfl) (by show nI 9 * nI _ + nI _ = _; rw [pk_mul, nI_add]) (by omega) ?_
          refine mj_iinc_6 (pc' := 124) (w := 1) C dX6_offer_121 rfl rfl (by decide) rfl ?_
          refine mj_goto (pc' := 95) C dX6_offer_124 (by decide) ?_
          rw [nI_1]
          refine ih (i + 1) _ _ (by omega) (hR1.to (oG_sI (by unfold gQ; omega) oG.rf)) (oG_sI ⟨rfl, by omega, by omega⟩ hF) (fun k hk => ?_)
          by_cases e : k = i
          · subst e; exact mI_sI_s _ _ _ _ _
          · rw [mI_sI_n _ _ _ _ _ (by omega)]; exact hz k (by omega)
      exact loop w.length 0 _ _ (by omega) (hR.to (oG_sI (by unfold gQ; omega) (oG_sI (by unfold gQ; omega) (oG_sI (by unfold gQ; omega) oG.rf)))) oG.rf (fun k hk => absurd hk (Nat.not_lt_zero k))
  · have hnq : ¬ bq (T b) < q := by rw [h24]; exact Int32.lt_irrefl
    have h67t : b1 (f2 T b c ∨ (c = bc (T b) ∧ f3 T b w.length)) = 0 → ¬ btr (T b) q c w.length = true := fun z h => ((off_3 hTb hw hq).mpr h).elim hnq (fun h => b1_0.mp z h.2)
    have h67f : ¬ b1 (f2 T b c ∨ (c = bc (T b) ∧ f3 T b w.length)) = 0 → btr (T b) q c w.length = true := fun z => (off_3 hTb hw hq).mp (Or.inr ⟨h24, b1_n z⟩)
    refine mj_iload_n (pc' := 28) C dX6_offer_27 rfl rfl ?_
    refine mj_aload_n (pc' := 29) C dX6_offer_28 rfl rfl ?_
    refine mj_getR (pc' := 32) C dX6_offer_29 rfl (ci := 6) (f := 20) rfl (by decide) (by decide) (fun _ => rfl) (by decide) kf_X6_71 hR.B.l0 (hR.B.p 20 (by decide) rfl) ?_
    refine mj_iload_n (pc' := 33) C dX6_offer_32 rfl rfl ?_
    refine mj_ialdV (pc' := 34) C dX6_offer_33 rfl rfl (by decide) (by decide) (hR.B.l 20 (by decide) rfl) rfl (by first | assumption | omega) (hT b hb).2.1 ?_
    refine jn (tgt := 63) (v := aI (b1 (f2 T b c ∨ (c = bc (T b) ∧ f3 T b w.length)))) (st := []) (fun K34 => ?_) ?_
    · refine mj_icmp_lt (tgt := 58) (pc' := 37) C dX6_offer_34 (by decide) rfl (fun h34 => ?_) (fun h34 => ?_)
      · have ej : b1 (f2 T b c ∨ (c = bc (T b) ∧ f3 T b w.length)) = 1 := b1_t (Or.inl h34)
        refine mj_iconst (pc' := 59) (v := 1) C dX6_offer_58 rfl rfl ?_
        refine mj_goto (pc' := 63) C dX6_offer_59 (by decide) ?_
        rw [ej] at K34
        exact K34
      · refine mj_iload_n (pc' := 38) C dX6_offer_37 rfl rfl ?_
        refine mj_aload_n (pc' := 39) C dX6_offer_38 rfl rfl ?_
        refine mj_getR (pc' := 42) C dX6_offer_39 rfl (ci := 6) (f := 20) rfl (by decide) (by decide) (fun _ => rfl) (by decide) kf_X6_71 hR.B.l0 (hR.B.p 20 (by decide) rfl) ?_
        refine mj_iload_n (pc' := 43) C dX6_offer_42 rfl rfl ?_
        refine mj_ialdV (pc' := 44) C dX6_offer_43 rfl rfl (by decide) (by decide) (hR.B.l 20 (by decide) rfl) rfl (by first | assumption | omega) (hT b hb).2.1 ?_
        refine mj_icmp_ne (tgt := 62) (pc' := 47) C dX6_offer_44 (by decide) rfl (fun h44 => ?_) (fun h44 => ?_)
        · have ej : b1 (f2 T b c ∨ (c = bc (T b) ∧ f3 T b w.length)) = 0 := b1_f (fun h => h.elim h34 (fun h => h44 h.1))
          refine mj_iconst (pc' := 63) (v := 0) C dX6_offer_62 rfl rfl ?_
          rw [ej] at K34
          exact K34
        · refine mj_iload (pc' := 49) C dX6_offer_47 rfl rfl ?_
          refine mj_aload_n (pc' := 50) C dX6_offer_49 rfl rfl ?_
          refine mj_getR (pc' := 53) C dX6_offer_50 rfl (ci := 6) (f := 21) rfl (by decide) (by decide) (fun _ => rfl) (by decide) kf_X6_74 hR.B.l0 (hR.B.p 21 (by decide) rfl) ?_
          refine mj_iload_n (pc' := 54) C dX6_offer_53 rfl rfl ?_
          refine mj_ialdV (pc' := 55) C dX6_offer_54 rfl rfl (by decide) (by decide) (hR.B.l 21 (by decide) rfl) rfl (by first | assumption | omega) (hT b hb).2.2.1 ?_
          refine mj_icmp_ge (tgt := 62) (pc' := 58) C dX6_offer_55 (by decide) rfl (fun h55 => ?_) (fun h55 => ?_)
          · have ej : b1 (f2 T b c ∨ (c = bc (T b) ∧ f3 T b w.length)) = 0 := b1_f (fun h => h.elim h34 (fun h => Int32.not_lt.mpr h55 h.2))
            refine mj_iconst (pc' := 63) (v := 0) C dX6_offer_62 rfl rfl ?_
            rw [ej] at K34
            exact K34
          · have ej : b1 (f2 T b c ∨ (c = bc (T b) ∧ f3 T b w.length)) = 1 := b1_t (Or.inr ⟨h44, Int32.not_le.mp h55⟩)
            refine mj_iconst (pc' := 59) (v := 1) C dX6_offer_58 rfl rfl ?_
            refine mj_goto (pc' := 63) C dX6_offer_59 (by decide) ?_
            rw [ej] at K34
            exact K34
    refine mj_istore_5 (pc' := 65) C dX6_offer_63 rfl (by decide) rfl ?_
    refine mj_iload (pc' := 67) C dX6_offer_65 rfl rfl ?_
    refine mj_if_eq (tgt := 127) (pc' := 70) C dX6_offer_67 (by decide) rfl (fun h67 => ?_) (fun h67 => ?_)
    · have hbt := h67t h67
      have hres : oG (pQ a b) μ μ ∧ mTab μ a (ofr T b q c w) := ⟨oG.rf, by rw [ofr_f hbt]; exact hT⟩
      refine mj_vret C dX6_offer_127 (by decide) (by decide) (by decide) ?_
      exact ⟨rfl, hres⟩
    · have hbt := h67f h67
      refine mj_aload_n (pc' := 71) C dX6_offer_70 rfl rfl ?_
      refine mj_getR (pc' := 74) C dX6_offer_71 rfl (ci := 6) (f := 19) rfl (by decide) (by decide) (fun _ => rfl) (by decide) kf_X6_68 hR.B.l0 (hR.B.p 19 (by decide) rfl) ?_
      refine mj_iload_n (pc' := 75) C dX6_offer_74 rfl rfl ?_
      refine mj_iload_n (pc' := 76) C dX6_offer_75 rfl rfl ?_
      refine mj_iast (pc' := 77) C dX6_offer_76 rfl rfl (by decide) (by decide) (hR.B.l 19 (by decide) rfl) rfl (by first | assumption | omega) ?_
      refine mj_aload_n (pc' := 78) C dX6_offer_77 rfl rfl ?_
      refine mj_getR (pc' := 81) C dX6_offer_78 rfl (ci := 6) (f := 20) rfl (by decide) (by decide) (fun _ => rfl) (by decide) kf_X6_71 hR.B.l0 (hR.B.p 20 (by decide) rfl) ?_
      refine mj_iload_n (pc' := 82) C dX6_offer_81 rfl rfl ?_
      refine mj_iload_n (pc' := 83) C dX6_offer_82 rfl rfl ?_
      refine mj_iast (pc' := 84) C dX6_offer_83 rfl rfl (by decide) (by decide) (hR.B.l 20 (by decide) rfl) rfl (by first | assumption | omega) ?_
      refine mj_aload_n (pc' := 85) C dX6_offer_84 rfl rfl ?_
      refine mj_getR (pc' := 88) C dX6_offer_85 rfl (ci := 6) (f := 21) rfl (by decide) (by decide) (fun _ => rfl) (by decide) kf_X6_74 hR.B.l0 (hR.B.p 21 (by decide) rfl) ?_
      refine mj_iload_n (pc' := 89) C dX6_offer_88 rfl rfl ?_
      refine mj_iload (pc' := 91) C dX6_offer_89 rfl rfl ?_
      refine mj_iast (pc' := 92) C dX6_offer_91 rfl rfl (by decide) (by decide) (hR.B.l 21 (by decide) rfl) rfl (by first | assumption | omega) ?_
      refine mj_iconst (pc' := 93) (v := 0) C dX6_offer_92 rfl rfl ?_
      refine mj_istore_6 (pc' := 95) C dX6_offer_93 rfl (by decide) rfl ?_
      have loop : ∀ (d : Nat) (i : Nat) (μ1 : jM) (x5 : Int32), i + d = w.length → mC S μ1 → oG (fun kd _ z => kd = 43 ∧ 9 * (10 * a + b) ≤ z ∧ z < 9 * (10 * a + b) + 9) (sI (sI (sI μ 40 0 (10 * a + b) q) 41 0 (10 * a + b) c) 42 0 (10 * a + b) (nI w.length)) μ1 → (∀ k, k < i → mI μ1 43 0 (9 * (10 * a + b) + k) = nI (w.getD k 0)) → J 95 [some (aR 20 0), some (aI (nI (10 * a + b))), some (aI q), some (aI c), some (aI (nI w.length)), some (aI x5), some (aI (nI i))] [] μ1 0 0 := by
        intro d
        induction d with
        | zero =>
          intro i μ1 x5 hd hR1 hF hz
          obtain rfl : i = w.length := by omega
          have hres : oG (pQ a b) μ μ1 ∧ mTab μ1 a (ofr T b q c w) := by
            refine ⟨(oG_sI (Or.inl ⟨by omega, rfl⟩) (oG_sI (Or.inl ⟨by omega, rfl⟩) (oG_sI (Or.inl ⟨by omega, rfl⟩) oG.rf))).tr (hF.up (fun kd y z q => Or.inr q)), ?_⟩
            rw [ofr_t hbt]
            refine mTab_set hT hb hw ⟨?_, ?_, ?_⟩ hz (fun kd z h1 h2 => ?_)
            · rw [hF.2 _ _ _ (by omega)]; simp [mI_sI]
            · rw [hF.2 _ _ _ (by omega)]; simp [mI_sI]
            · rw [hF.2 _ _ _ (by omega)]; simp [mI_sI]
            · unfold pQ at h2
              rw [hF.2 _ _ _ (by omega), mI_sI_n _ _ _ _ _ (by omega), mI_sI_n _ _ _ _ _ (by omega), mI_sI_n _ _ _ _ _ (by omega)]
          refine mj_iload (pc' := 97) C dX6_offer_95 rfl rfl ?_
          refine mj_iload (pc' := 99) C dX6_offer_97 rfl rfl ?_
          refine mj_icmp_ge (tgt := 127) (pc' := 102) C dX6_offer_99 (by decide) rfl (fun _ => ?_) (fun h9 => absurd (Int32.le_refl _) h9)
          refine mj_vret C dX6_offer_127 (by decide) (by decide) (by decide) ?_
          exact ⟨rfl, hres⟩
        | succ d ih =>
          intro i μ1 x5 hd hR1 hF hz
          have hlt : i < w.length := by omega
          refine mj_iload (pc' := 97) C dX6_offer_95 rfl rfl ?_
          refine mj_iload (pc' := 99) C dX6_offer_97 rfl rfl ?_
          refine mj_icmp_ge (tgt := 127) (pc' := 102) C dX6_offer_99 (by decide) rfl (fun h9 => absurd h9 (nI_ge hlt (by omega))) (fun _ => ?_)
          refine mj_aload_n (pc' := 103) C dX6_offer_102 rfl rfl ?_
          refine mj_getR (pc' := 106) C dX6_offer_103 rfl (ci := 6) (f := 22) rfl (by decide) (by decide) (fun _ => rfl) (by decide) kf_X6_77 hR1.B.l0 (hR1.B.p 22 (by decide) rfl) ?_
          refine mj_bipush (pc' := 108) (v := 9) C dX6_offer_106 rfl rfl ?_
          refine mj_iload_n (pc' := 109) C dX6_offer_108 rfl rfl ?_
          refine mj_imul (pc' := 110) C dX6_offer_109 rfl ?_
          refine mj_iload (pc' := 112) C dX6_offer_110 rfl rfl ?_
          refine mj_iadd (pc' := 113) C dX6_offer_112 rfl ?_
          refine mj_aload_n (pc' := 114) C dX6_offer_113 rfl rfl ?_
          refine mj_getR (pc' := 117) C dX6_offer_114 rfl (ci := 6) (f := 23) rfl (by decide) (by decide) (fun _ => rfl) (by decide) kf_X6_80 hR1.B.l0 (hR1.B.p 23 (by decide) rfl) ?_
          refine mj_iload (pc' := 119) C dX6_offer_117 rfl rfl ?_
          refine mj_ialdV (pc' := 120) C dX6_offer_119 rfl rfl (by decide) (by decide) (hR1.B.l 23 (by decide) rfl) rfl (by first | assumption | omega) ((hF.2 44 0 i (by omega)).trans (Eq.trans (by simp [mI_sI]) (htr i hlt))) ?_
          refine mj_iast (pc' := 121) C dX6_offer_120 rfl rfl (by decide) (by decide) (hR1.B.l 22 (by decide) rfl) (by show nI 9 * nI _ + nI _ = _; rw [pk_mul, nI_add]) (by omega) ?_
          refine mj_iinc_6 (pc' := 124) (w := 1) C dX6_offer_121 rfl rfl (by decide) rfl ?_
          refine mj_goto (pc' := 95) C dX6_offer_124 (by decide) ?_
          rw [nI_1]
          refine ih (i + 1) _ _ (by omega) (hR1.to (oG_sI (by unfold gQ; omega) oG.rf)) (oG_sI ⟨rfl, by omega, by omega⟩ hF) (fun k hk => ?_)
          by_cases e : k = i
          · subst e; exact mI_sI_s _ _ _ _ _
          · rw [mI_sI_n _ _ _ _ _ (by omega)]; exact hz k (by omega)
      exact loop w.length 0 _ _ (by omega) (hR.to (oG_sI (by unfold gQ; omega) (oG_sI (by unfold gQ; omega) (oG_sI (by unfold gQ; omega) oG.rf)))) oG.rf (fun k hk => absurd hk (Nat.not_lt_zero k))
