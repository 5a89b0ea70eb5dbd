/-! THE LAW'S OWN ROWS OF NUMBERS TELL S: last 21, from 22, to 23, loss 24, cost 25, years 27, least 28, reads 29, format 30, size 31, lawOf 32, most 33, end 34, readIn 35, state 36, held 37, haven 38, price 39 -/
def pB (μ : jM) : Prop := ∀ f, f < 19 → f ≠ 5 → 0 < mN μ (21 + f)
theorem pB.l {μ : jM} (h : pB μ) (f : Nat) (hf : f < 19 ∧ f ≠ 5) {k : Nat} (hk : 21 + f = k) : 0 < mN μ k := hk ▸ h f hf.1 hf.2
def pL (S : jS) (a : Nat) : Nat := if a = 0 then 10 else if a ≤ 5 then sn S 1 else if a ≤ 8 then 5 else sn S 0
def pf (S : jS) (a i : Nat) : Int32 := if a = 3 ∧ sf S 5 i ≠ 0 then -1 else sf S a i
def pR (S : jS) (μ : jM) : Prop := pB μ ∧ (∀ a i, a ≤ 16 → a ≠ 5 → a ≠ 12 → i < pL S a → mI μ (21 + a) 0 i = pf S a i) ∧ (∀ i, i < sn S 0 → sf S 12 i ≤ mI μ 33 0 i) ∧ ∀ i, sn S 0 ≤ i → i < 12 → mI μ 36 0 i = 0 ∧ mI μ 37 0 i = 0
theorem pf_n {S : jS} {a i : Nat} (h : a ≠ 3) : pf S a i = sf S a i := if_neg (fun q => h q.1)
section PR
variable {S : jS} {μ : jM}
theorem pR.B (h : pR S μ) : pB μ := h.1
theorem pR.v (h : pR S μ) (a : Nat) {i k : Nat} (ha : a ≤ 16 ∧ a ≠ 3 ∧ a ≠ 5 ∧ a ≠ 12) (hk : 21 + a = k) (hi : i < pL S a) : mI μ k 0 i = sf S a i := by
  rw [← hk, h.2.1 a i ha.1 ha.2.2.1 ha.2.2.2 hi, pf_n ha.2.1]
theorem pR.last (h : pR S μ) {i : Nat} (hi : i < 10) : mI μ 21 0 i = sf S 0 i := h.v 0 (by decide) rfl hi
theorem pR.frm (h : pR S μ) {i : Nat} (hi : i < sn S 1) : mI μ 22 0 i = sf S 1 i := h.v 1 (by decide) rfl hi
theorem pR.tow (h : pR S μ) {i : Nat} (hi : i < sn S 1) : mI μ 23 0 i = sf S 2 i := h.v 2 (by decide) rfl hi
theorem pR.cst (h : pR S μ) {i : Nat} (hi : i < sn S 1) : mI μ 25 0 i = sf S 4 i := h.v 4 (by decide) rfl hi
theorem pR.los (h : pR S μ) {i : Nat} (hi : i < sn S 1) : mI μ 24 0 i = pf S 3 i := h.2.1 3 i (by decide) (by decide) (by decide) hi
theorem pR.yrs (h : pR S μ) {i : Nat} (hi : i < 5) : mI μ 27 0 i = sf S 6 i := h.v 6 (by decide) rfl hi
theorem pR.lea (h : pR S μ) {i : Nat} (hi : i < 5) : mI μ 28 0 i = sf S 7 i := h.v 7 (by decide) rfl hi
theorem pR.rds (h : pR S μ) {i : Nat} (hi : i < 5) : mI μ 29 0 i = sf S 8 i := h.v 8 (by decide) rfl hi
theorem pR.fmt (h : pR S μ) {i : Nat} (hi : i < sn S 0) : mI μ 30 0 i = sf S 9 i := h.v 9 (by decide) rfl hi
theorem pR.siz (h : pR S μ) {i : Nat} (hi : i < sn S 0) : mI μ 31 0 i = sf S 10 i := h.v 10 (by decide) rfl hi
theorem pR.lwo (h : pR S μ) {i : Nat} (hi : i < sn S 0) : mI μ 32 0 i = sf S 11 i := h.v 11 (by decide) rfl hi
theorem pR.enn (h : pR S μ) {i : Nat} (hi : i < sn S 0) : mI μ 34 0 i = sf S 13 i := h.v 13 (by decide) rfl hi
theorem pR.rin (h : pR S μ) {i : Nat} (hi : i < sn S 0) : mI μ 35 0 i = sf S 14 i := h.v 14 (by decide) rfl hi
theorem pR.sta (h : pR S μ) {i : Nat} (hi : i < sn S 0) : mI μ 36 0 i = sf S 15 i := h.v 15 (by decide) rfl hi
theorem pR.hld (h : pR S μ) {i : Nat} (hi : i < sn S 0) : mI μ 37 0 i = sf S 16 i := h.v 16 (by decide) rfl hi
theorem pR.mos (h : pR S μ) {i : Nat} (hi : i < sn S 0) : sf S 12 i ≤ mI μ 33 0 i := h.2.2.1 i hi
/-- the class has written -/
theorem pR.kept {μ' : jM} (h : pR S μ) (hF : xF μ μ') : pR S μ' := by
  have hi : ∀ kd z, 20 ≤ kd → mI μ' kd 0 z = mI μ kd 0 z := fun kd z hk => ((hF kd hk).2 0 z).1
  refine ⟨fun f hf hf5 => by rw [(hF _ (by omega)).1]; exact h.1 f hf hf5, fun a i h1 h2 h3 h4 => by rw [hi _ _ (by omega)]; exact h.2.1 a i h1 h2 h3 h4, fun i h1 => by rw [hi _ _ (by omega)]; exact h.2.2.1 i h1, fun i h1 h2 => by rw [hi _ _ (by omega), hi _ _ (by omega)]; exact h.2.2.2 i h1 h2⟩
/-- .. nothing was written, S is told by other numbers -/
theorem pR.other {S' : jS} (h : pR S μ) (h0 : sn S' 0 = sn S 0) (h1 : sn S' 1 = sn S 1) (hs : ∀ a i, a ≤ 16 → a ≠ 12 → (a = 9 → i < sn S 0) → sf S' a i = sf S a i) (hq : ∀ i, i < sn S 0 → sf S' 12 i ≤ sf S 12 i) : pR S' μ := by
  refine ⟨h.1, fun a i k1 k2 k3 k4 => ?_, fun i k1 => ?_, fun i k1 k2 => h.2.2.2 i (by rw [← h0]; exact k1) k2⟩
  · unfold pf
    rw [hs 5 i (by omega) (by omega) (by omega), hs a i k1 k3 (fun e => by subst e; unfold pL at k4; rw [if_neg (by decide), if_neg (by decide), if_neg (by decide), h0] at k4; exact k4)]
    exact h.2.1 a i k1 k2 k3 (by unfold pL at k4 ⊢; rw [← h0, ← h1]; exact k4)
  · rw [h0] at k1
    exact Int32.le_trans (hq i k1) (h.2.2.1 i k1)
/-- one number of S -/
theorem pR_v {v : Int32} {a j : Nat} (h : pR S μ) (k : Nat) (hk : 21 + a = k) (ha : a = 0 ∨ (5 < a ∧ a ≤ 16 ∧ a ≠ 12)) (hj : a ≤ 14 ∨ j < sn S 0) : pR (su S a j v) (sI μ k 0 j v) := by
  subst hk
  refine ⟨h.1, fun b i k1 k2 k3 k4 => ?_, fun i k1 => ?_, fun i k1 k2 => ?_⟩
  · rw [mI_sI]
    by_cases e : b = a ∧ i = j
    · obtain ⟨rfl, rfl⟩ := e
      rw [if_pos ⟨rfl, rfl, rfl⟩, pf_n (by omega), sf_su, if_pos ⟨rfl, rfl⟩]
    · rw [if_neg (fun q => e ⟨by omega, q.2.2⟩), h.2.1 b i k1 k2 k3 k4]
      have e5 : sf (su S a j v) 5 i = sf S 5 i := by rw [sf_su, if_neg (fun q => by omega)]
      have eb : sf (su S a j v) b i = sf S b i := by rw [sf_su, if_neg e]
      unfold pf
      rw [e5, eb]
  · rw [mI_sI_n _ _ _ _ _ (fun q => by omega), sf_su, if_neg (fun q => by omega)]
    exact h.2.2.1 i k1
  · have k1' : sn S 0 ≤ i := k1
    rw [mI_sI_n _ _ _ _ _ (fun q => by omega), mI_sI_n _ _ _ _ _ (fun q => by omega)]
    exact h.2.2.2 i k1 k2
/-- a converter withdrawn -/
theorem pR_wd {c : Nat} (h : pR S μ) : pR (su S 5 c 1) (sI μ 24 0 c (-1)) := by
  refine ⟨h.1, fun b i k1 k2 k3 k4 => ?_, fun i k1 => ?_, fun i k1 k2 => ?_⟩
  · rw [mI_sI]
    have eb : sf (su S 5 c 1) b i = sf S b i := by rw [sf_su, if_neg (fun q => k2 q.1)]
    by_cases e : b = 3 ∧ i = c
    · obtain ⟨rfl, rfl⟩ := e
      have e5 : sf (su S 5 i 1) 5 i = 1 := by rw [sf_su, if_pos ⟨rfl, rfl⟩]
      unfold pf
      rw [if_pos ⟨rfl, rfl, rfl⟩, e5, if_pos ⟨rfl, by decide⟩]
    · rw [if_neg (fun q => e ⟨by omega, q.2.2⟩), h.2.1 b i k1 k2 k3 k4]
      unfold pf
      by_cases e3 : b = 3
      · have e4 : i ≠ c := fun q => e ⟨e3, q⟩
        have e5 : sf (su S 5 c 1) 5 i = sf S 5 i := by rw [sf_su, if_neg (fun q => e4 q.2)]
        rw [e5, eb]
      · rw [if_neg (fun q => e3 q.1), if_neg (fun q => e3 q.1), eb]
  · rw [mI_sI_n _ _ _ _ _ (fun q => by omega), sf_su, if_neg (fun q => by omega)]
    exact h.2.2.1 i k1
  · rw [mI_sI_n _ _ _ _ _ (fun q => by omega), mI_sI_n _ _ _ _ _ (fun q => by omega)]
    exact h.2.2.2 i k1 k2
/-- behind the end of a row -/
theorem pR_out {v : Int32} {a j : Nat} (h : pR S μ) (k : Nat) (hk : 21 + a = k) (ha : a ≤ 14 ∨ a = 17 ∨ a = 18) (hj : a ≤ 16 → pL S a ≤ j) : pR S (sI μ k 0 j v) := by
  subst hk
  refine ⟨h.1, fun b i k1 k2 k3 k4 => ?_, fun i k1 => ?_, fun i k1 k2 => ?_⟩
  · rw [mI_sI_n _ _ _ _ _ (fun q => ?_)]
    · exact h.2.1 b i k1 k2 k3 k4
    · obtain rfl : b = a := by omega
      have := hj k1
      omega
  · rw [mI_sI_n _ _ _ _ _ (fun q => ?_)]
    · exact h.2.2.1 i k1
    · obtain rfl : a = 12 := by omega
      have : sn S 0 ≤ j := hj (by omega)
      omega
  · rw [mI_sI_n _ _ _ _ _ (fun q => by omega), mI_sI_n _ _ _ _ _ (fun q => by omega)]
    exact h.2.2.2 i k1 k2
/-- the greatest quality that a file may have -/
theorem pR_m {v : Int32} {j : Nat} (h : pR S μ) (hv : sf S 12 j ≤ v) : pR S (sI μ 33 0 j v) := by
  refine ⟨h.1, fun b i k1 k2 k3 k4 => ?_, fun i k1 => ?_, fun i k1 k2 => ?_⟩
  · rw [mI_sI_n _ _ _ _ _ (fun q => by omega)]
    exact h.2.1 b i k1 k2 k3 k4
  · rw [mI_sI]
    by_cases e : i = j
    · subst e
      rw [if_pos ⟨rfl, rfl, rfl⟩]
      exact hv
    · rw [if_neg (fun q => e q.2.2)]
      exact h.2.2.1 i k1
  · rw [mI_sI_n _ _ _ _ _ (fun q => by omega), mI_sI_n _ _ _ _ _ (fun q => by omega)]
    exact h.2.2.2 i k1 k2
theorem pR_conv {a b lo co : Int32} (h : pR S μ) (h1 : mI μ 22 0 (sn S 1) = a) (h2 : mI μ 23 0 (sn S 1) = b) (h3 : mI μ 24 0 (sn S 1) = lo) (h4 : mI μ 25 0 (sn S 1) = co) : pR (sa (su (su (su (su (su S 1 (sn S 1) a) 2 (sn S 1) b) 3 (sn S 1) lo) 4 (sn S 1) co) 5 (sn S 1) 0) 1) μ := by
  obtain ⟨S', e⟩ : ∃ S', S' = sa (su (su (su (su (su S 1 (sn S 1) a) 2 (sn S 1) b) 3 (sn S 1) lo) 4 (sn S 1) co) 5 (sn S 1) 0) 1 := ⟨_, rfl⟩
  have n1 : sn S' 1 = sn S 1 + 1 := by rw [e]; simp [sn_sa, sn_su]
  have n0 : sn S' 0 = sn S 0 := by rw [e]; simp [sn_sa, sn_su]
  have f : ∀ a x, ¬ (1 ≤ a ∧ a ≤ 5 ∧ x = sn S 1) → sf S' a x = sf S a x := fun a x q => by
    rw [e, sf_sa, sf_su, if_neg (by omega), sf_su, if_neg (by omega), sf_su, if_neg (by omega), sf_su, if_neg (by omega), sf_su, if_neg (by omega)]
  have v1 : sf S' 1 (sn S 1) = a := by rw [e]; simp [sf_sa, sf_su]
  have v2 : sf S' 2 (sn S 1) = b := by rw [e]; simp [sf_sa, sf_su]
  have v3 : sf S' 3 (sn S 1) = lo := by rw [e]; simp [sf_sa, sf_su]
  have v4 : sf S' 4 (sn S 1) = co := by rw [e]; simp [sf_sa, sf_su]
  have v5 : sf S' 5 (sn S 1) = 0 := by rw [e]; simp [sf_sa, sf_su]
  rw [← e]
  clear e
  refine ⟨h.1, fun x i k1 k2 k3 k4 => ?_, fun i k1 => ?_, fun i k1 k2 => h.2.2.2 i (by rw [← n0]; exact k1) k2⟩
  · by_cases q : 1 ≤ x ∧ x ≤ 5 ∧ i = sn S 1
    · obtain ⟨q1, q2, rfl⟩ := q
      unfold pf
      rw [v5, if_neg (fun q => q.2 rfl)]
      rcases (show x = 1 ∨ x = 2 ∨ x = 3 ∨ x = 4 by omega) with rfl | rfl | rfl | rfl
      · rw [v1]; exact h1
      · rw [v2]; exact h2
      · rw [v3]; exact h3
      · rw [v4]; exact h4
    · have e5 : pf S' x i = pf S x i := by
        unfold pf
        by_cases e3 : x = 3
        · rw [f x i q, f 5 i (by omega)]
        · rw [if_neg (fun q => e3 q.1), if_neg (fun q => e3 q.1), f x i q]
      rw [e5]
      refine h.2.1 x i k1 k2 k3 ?_
      unfold pL at k4 ⊢
      rw [n0, n1] at k4
      split at k4
      · rw [if_pos (by assumption)]; exact k4
      · rename_i g0
        rw [if_neg g0]
        split at k4
        · rw [if_pos (by assumption)]; omega
        · rename_i g5
          rw [if_neg g5]
          exact k4
  · rw [n0] at k1
    rw [f 12 i (by omega)]
    exact h.2.2.1 i k1
theorem pR_file {f9 sz j e9 : Int32} (h : pR S μ) (h12 : sn S 0 < 12) (h1 : mI μ 30 0 (sn S 0) = f9) (h2 : mI μ 31 0 (sn S 0) = sz) (h3 : mI μ 32 0 (sn S 0) = j) (h4 : mI μ 33 0 (sn S 0) = 1000) (h5 : mI μ 34 0 (sn S 0) = e9) (h6 : mI μ 35 0 (sn S 0) = sf S 17 2) :
    pR (sa (su (su (su (su (su (su (su (su S 9 (sn S 0) f9) 10 (sn S 0) sz) 11 (sn S 0) j) 12 (sn S 0) 1000) 13 (sn S 0) e9) 14 (sn S 0) (sf S 17 2)) 15 (sn S 0) 0) 16 (sn S 0) 0) 0) μ := by
  obtain ⟨S', e⟩ : ∃ S', S' = sa (su (su (su (su (su (su (su (su S 9 (sn S 0) f9) 10 (sn S 0) sz) 11 (sn S 0) j) 12 (sn S 0) 1000) 13 (sn S 0) e9) 14 (sn S 0) (sf S 17 2)) 15 (sn S 0) 0) 16 (sn S 0) 0) 0 := ⟨_, rfl⟩
  have n0 : sn S' 0 = sn S 0 + 1 := by rw [e]; simp [sn_sa, sn_su]
  have n1 : sn S' 1 = sn S 1 := by rw [e]; simp [sn_sa, sn_su]
  have f : ∀ a x, ¬ (9 ≤ a ∧ a ≤ 16 ∧ x = sn S 0) → sf S' a x = sf S a x := fun a x q => by
    rw [e, sf_sa, sf_su, if_neg (by omega), sf_su, if_neg (by omega), sf_su, if_neg (by omega), sf_su, if_neg (by omega), sf_su, if_neg (by omega), sf_su, if_neg (by omega), sf_su, if_neg (by omega), sf_su, if_neg (by omega)]
  have v9 : sf S' 9 (sn S 0) = f9 := by rw [e]; simp [sf_sa, sf_su]
  have v10 : sf S' 10 (sn S 0) = sz := by rw [e]; simp [sf_sa, sf_su]
  have v11 : sf S' 11 (sn S 0) = j := by rw [e]; simp [sf_sa, sf_su]
  have v12 : sf S' 12 (sn S 0) = 1000 := by rw [e]; simp [sf_sa, sf_su]
  have v13 : sf S' 13 (sn S 0) = e9 := by rw [e]; simp [sf_sa, sf_su]
  have v14 : sf S' 14 (sn S 0) = sf S 17 2 := by rw [e]; simp [sf_sa, sf_su]
  have v15 : sf S' 15 (sn S 0) = 0 := by rw [e]; simp [sf_sa, sf_su]
  have v16 : sf S' 16 (sn S 0) = 0 := by rw [e]; simp [sf_sa, sf_su]
  rw [← e]
  clear e
  refine ⟨h.1, fun x i k1 k2 k3 k4 => ?_, fun i k1 => ?_, fun i k1 k2 => h.2.2.2 i (by rw [n0] at k1; omega) k2⟩
  · by_cases q : 9 ≤ x ∧ x ≤ 16 ∧ i = sn S 0
    · obtain ⟨q1, q2, rfl⟩ := q
      rw [pf_n (by omega)]
      rcases (show x = 9 ∨ x = 10 ∨ x = 11 ∨ x = 13 ∨ x = 14 ∨ x = 15 ∨ x = 16 by omega) with rfl | rfl | rfl | rfl | rfl | rfl | rfl
      · rw [v9]; exact h1
      · rw [v10]; exact h2
      · rw [v11]; exact h3
      · rw [v13]; exact h5
      · rw [v14]; exact h6
      · rw [v15]; exact (h.2.2.2 _ (Nat.le_refl _) h12).1
      · rw [v16]; exact (h.2.2.2 _ (Nat.le_refl _) h12).2
    · have e5 : pf S' x i = pf S x i := by
        unfold pf
        rw [f x i q, f 5 i (by omega)]
      rw [e5]
      refine h.2.1 x i k1 k2 k3 ?_
      unfold pL at k4 ⊢
      rw [n0, n1] at k4
      split at k4
      · rw [if_pos (by assumption)]; exact k4
      · rename_i g0
        rw [if_neg g0]
        split at k4
        · rw [if_pos (by assumption)]; exact k4
        · rename_i g5
          rw [if_neg g5]
          split at k4
          · rw [if_pos (by assumption)]; exact k4
          · rename_i g8
            rw [if_neg g8]
            omega
  · by_cases q : i = sn S 0
    · rw [q, v12, h4]
      exact Int32.le_refl _
    · rw [f 12 i (by omega)]
      exact h.2.2.1 i (by omega)
end PR
theorem sI_id {μ : jM} {a b c : Nat} {v : Int32} (h : mI μ a b c = v) : sI μ a b c v = μ := by
  subst h
  refine Prod.ext rfl (Prod.ext ?_ rfl)
  funext x y z
  show (if x = a ∧ y = b ∧ z = c then mI μ a b c else mI μ x y z) = mI μ x y z
  split
  · rename_i q
    obtain ⟨rfl, rfl, rfl⟩ := q
    rfl
  · rfl
theorem xR.o {S : jS} {μ : jM} {a b c : Nat} {v : Int32} (h : xR S μ) (ha : 20 ≤ a) : xR S (sI μ a b c v) := h.kept (fun kd hk => eqK_sI (by omega))
/-- the havens and prices that the law has asked for -/
def pH (S : jS) (μ : jM) : Prop := ∀ i, i < sn S 0 → mI μ 38 0 i = hv S i ∧ mI μ 39 0 i = prc S i
theorem pH.kept {S : jS} {μ μ' : jM} (h : pH S μ) (hF : xF μ μ') : pH S μ' := fun i hi => by
  rw [((hF 38 (by omega)).2 0 i).1, ((hF 39 (by omega)).2 0 i).1]
  exact h i hi
theorem pH.o {S : jS} {μ : jM} {a b c : Nat} {v : Int32} (h : pH S μ) (ha : a ≠ 38 ∧ a ≠ 39) : pH S (sI μ a b c v) := fun i hi => by
  rw [mI_sI_n _ _ _ _ _ (fun q => ha.1 q.1.symm), mI_sI_n _ _ _ _ _ (fun q => ha.2 q.1.symm)]
  exact h i hi
/-- what else is known of S behind c acts -/
def pI (c : Nat) (S : jS) : Prop := sn S 0 ≤ 12 ∧ 0 ≤ sf S 17 1 ∧ 0 ≤ sf S 17 0 ∧ ∃ y, y ≤ c ∧ sf S 17 2 = nI y
theorem pI.up {c : Nat} {S : jS} (h : pI c S) : pI (c + 1) S := ⟨h.1, h.2.1, h.2.2.1, h.2.2.2.elim fun y q => ⟨y, by omega, q.2⟩⟩
