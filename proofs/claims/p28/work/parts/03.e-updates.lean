/-! WHAT A WRITE MAKES OF THE RELATIONS -/
/-- the converters are the same -/
def cK (S S' : jS) : Prop := sn S' 1 = sn S 1 ∧ ∀ a c, 1 ≤ a → a ≤ 5 → sf S' a c = sf S a c
theorem cK.rf {S : jS} : cK S S := ⟨rfl, fun _ _ _ _ => rfl⟩
theorem cK.tr {S S1 S2 : jS} (h : cK S S1) (h2 : cK S1 S2) : cK S S2 := ⟨h2.1.trans h.1, fun a c h3 h4 => (h2.2 a c h3 h4).trans (h.2 a c h3 h4)⟩
theorem cK_su {S : jS} {a i : Nat} {v : Int32} (h : a = 0 ∨ 5 < a) : cK S (su S a i v) := ⟨rfl, fun b c h1 h2 => by rw [sf_su, if_neg (fun q => by omega)]⟩
theorem okb_cK {S S' : jS} (h : cK S S') (c a : Nat) (vis : List Nat) : okb S' c a vis = okb S c a vis := by
  unfold okb
  rw [h.2 5 c (by omega) (by omega), h.2 1 c (by omega) (by omega), h.2 2 c (by omega) (by omega)]
theorem stQ_cK {S S' : jS} (h : cK S S') (c : Nat) (q : Int32) : stQ S' c q = stQ S c q := by
  unfold stQ
  rw [h.2 3 c (by omega) (by omega)]
theorem dfs_cK {S S' : jS} (h : cK S S') : ∀ (n a : Nat) (vis : List Nat) (q c : Int32) (w : List Nat) (T : jB), dfs S' n a vis q c w T = dfs S n a vis q c w T
  | 0, _, _, _, _, _, _ => rfl
  | n + 1, a, vis, q, c, w, T => by
    unfold dfs
    rw [h.1]
    congr 1
    funext T k
    rw [okb_cK h, h.2 2 k (by omega) (by omega), stQ_cK h, h.2 4 k (by omega) (by omega)]
    split
    · exact dfs_cK h n _ _ _ _ _ _
    · rfl
theorem best_cK {S S' : jS} (h : cK S S') : best S' = best S := funext fun a => dfs_cK h 10 a [a] 1000 0 [] _
theorem gq_cK {S S' : jS} (h : cK S S') (g : Nat) : ∀ (n a : Nat) (vis : List Nat) (q m : Int32), gq S' g n a vis q m = gq S g n a vis q m
  | 0, _, _, _, _ => rfl
  | n + 1, a, vis, q, m => by
    unfold gq
    rw [h.1]
    congr 1
    funext m k
    rw [okb_cK h, h.2 2 k (by omega) (by omega), stQ_cK h]
    split
    · exact gq_cK h g n _ _ _ _
    · rfl
theorem alg_cK {S S' : jS} (h : cK S S') (w : List Nat) (q : Int32) : alg S' w q = alg S w q := by
  unfold alg
  rw [show (fun (q : Int32) (c : Nat) => stQ S' c q) = fun q c => stQ S c q from funext fun q => funext fun c => stQ_cK h c q]
theorem nxt_cK {S S' : jS} (h : cK S S') (a k : Nat) : nxt S' a k = nxt S a k := by
  unfold nxt
  rw [h.1]
  congr 1
  funext c
  rw [h.2 1 c (by omega) (by omega)]
theorem lst_cK {S S' : jS} (h : cK S S') (a : Nat) : lst S' a = lst S a := by
  unfold lst
  rw [h.1]
  congr 1
  funext c
  rw [h.2 1 c (by omega) (by omega)]
theorem xR_gen {S S' : jS} {μ μ' : jM} (h : xR S μ) (hc : cK S S') (hn : sn S' 0 = sn S 0) (hN : mN μ' = mN μ) (hP : mP μ' = mP μ) (hk : ∀ kd y z, kd = 4 ∨ kd = 11 ∨ kd = 13 ∨ kd = 14 ∨ kd = 15 ∨ kd = 16 ∨ kd = 18 → mI μ' kd y z = mI μ kd y z) (h11 : ∀ i, sf S' 11 i = sf S 11 i)
    (h0 : mI μ' 0 0 4 = nI (sn S 0) ∧ mI μ' 0 0 5 = sf S' 17 2 ∧ mI μ' 0 0 6 = sf S' 17 0 ∧ mI μ' 0 0 7 = sf S' 17 1) (h1 : ∀ j, j < 10 → mI μ' 1 0 j = sf S' 0 j) (h10 : ∀ j, j < 5 → mI μ' 10 j 0 = sf S' 6 j ∧ mI μ' 10 j 1 = sf S' 7 j ∧ mI μ' 10 j 2 = sf S' 8 j)
    (h12 : ∀ i, i < sn S 0 → mI μ' 12 i 0 = sf S' 10 i ∧ mI μ' 12 i 2 = sf S' 13 i ∧ mI μ' 12 i 3 = sf S' 9 i ∧ mI μ' 12 i 4 = sf S' 12 i ∧ mI μ' 12 i 5 = sf S' 14 i ∧ mI μ' 12 i 6 = sf S' 15 i ∧ mI μ' 12 i 7 = sf S' 16 i) : xR S' μ' := by
  refine ⟨by rw [hN, hP]; exact h.B, ⟨by rw [hN, hn]; exact h.n12, by rw [hN, hc.1]; exact h.n13, by rw [hn]; exact h0.1, by rw [hk _ _ _ (by omega), hc.1]; exact h.nc⟩, h0.2, h1, h10, fun i hi => ?_, fun c hc9 => ?_, ⟨fun a ha => ?_, fun c a hc9 ha hf => ?_⟩, fun a ha => ?_⟩
  · rw [hn] at hi
    refine ⟨h12 i hi, ?_⟩
    rw [h11, hP]
    exact h.flw hi
  · rw [hc.1] at hc9
    simp only [hk 13 _ _ (by omega), hc.2 1 c (by omega) (by omega), hc.2 2 c (by omega) (by omega), hc.2 3 c (by omega) (by omega), hc.2 4 c (by omega) (by omega), hc.2 5 c (by omega) (by omega)]
    exact ⟨h.cnum hc9, h.cfr hc9, h.cto hc9, h.clo hc9, h.cco hc9, h.cwd hc9⟩
  · rw [hP, nxt_cK hc, lst_cK hc]
    exact ⟨h.low ha, h.high ha⟩
  · rw [hP, nxt_cK hc]
    rw [hc.1] at hc9
    rw [hc.2 1 c (by omega) (by omega)] at hf
    exact h.next hc9 ha hf
  · rw [hk 11 _ _ (by omega), best_cK hc]
    refine (h.cache ha).imp id (fun q => ⟨q.1, fun b hb => ?_⟩)
    simp only [hk 14 _ _ (by omega), hk 15 _ _ (by omega), hk 16 _ _ (by omega), hk 18 _ _ (by omega)]
    exact q.2 b hb
/-- of many: the one that is written -/
theorem upj {x y a b c : Nat} {v w : Int32} {f : Int32} (h : f = w) : (if x = a ∧ y = b then v else f) = if x = a ∧ y = b then v else w := by rw [h]
section UPD
variable {S : jS} {μ : jM} {v : Int32}
theorem xR_last (h : xR S μ) {j : Nat} (hj : j < 10) : xR (su S 0 j v) (sI μ 1 0 j v) := by
  refine xR_gen h (cK_su (Or.inl rfl)) rfl rfl rfl (fun kd y z hk => mI_sI_n μ 1 0 j v (fun q => by omega)) (fun i => by simp [sf_su]) ?_ (fun i hi => ?_) (fun i hi => ?_) (fun i hi => ?_)
  · simp [mI_sI, sf_su, h.fc, h.now, h.bud, h.uns]
  · rw [mI_sI, sf_su, h.last hi]
    simp
  · simp [mI_sI, sf_su, h.ly hi, h.ll hi, h.lr hi]
  · simp [mI_sI, sf_su, h.fsz hi, h.fen hi, h.ffm hi, h.fq hi, h.frd hi, h.fst hi, h.fhl hi]
theorem xR_law {a f : Nat} (h : xR S μ) {j : Nat} (hj : j < 5) (ha : (a = 6 ∧ f = 0) ∨ (a = 7 ∧ f = 1) ∨ (a = 8 ∧ f = 2)) : xR (su S a j v) (sI μ 10 j f v) := by
  rcases ha with ⟨rfl, rfl⟩ | ⟨rfl, rfl⟩ | ⟨rfl, rfl⟩ <;>
  · refine xR_gen h (cK_su (by omega)) rfl rfl rfl (fun kd y z hk => mI_sI_n μ 10 j _ v (fun q => by omega)) (fun i => by simp [sf_su]) ?_ (fun i hi => ?_) (fun i hi => ?_) (fun i hi => ?_)
    · simp [mI_sI, sf_su, h.fc, h.now, h.bud, h.uns]
    · simp [mI_sI, sf_su, h.last hi]
    · simp [mI_sI, sf_su, h.ly hi, h.ll hi, h.lr hi]
    · simp [mI_sI, sf_su, h.fsz hi, h.fen hi, h.ffm hi, h.fq hi, h.frd hi, h.fst hi, h.fhl hi]
theorem xR_file {a f : Nat} (h : xR S μ) {j : Nat} (ha : (a = 9 ∧ f = 3) ∨ (a = 12 ∧ f = 4) ∨ (a = 14 ∧ f = 5) ∨ (a = 15 ∧ f = 6) ∨ (a = 16 ∧ f = 7)) : xR (su S a j v) (sI μ 12 j f v) := by
  rcases ha with ⟨rfl, rfl⟩ | ⟨rfl, rfl⟩ | ⟨rfl, rfl⟩ | ⟨rfl, rfl⟩ | ⟨rfl, rfl⟩ <;>
  · refine xR_gen h (cK_su (by omega)) rfl rfl rfl (fun kd y z hk => mI_sI_n μ 12 j _ v (fun q => by omega)) (fun i => by simp [sf_su]) ?_ (fun i hi => ?_) (fun i hi => ?_) (fun i hi => ?_)
    · simp [mI_sI, sf_su, h.fc, h.now, h.bud, h.uns]
    · simp [mI_sI, sf_su, h.last hi]
    · simp [mI_sI, sf_su, h.ly hi, h.ll hi, h.lr hi]
    · simp [mI_sI, sf_su, h.fsz hi, h.fen hi, h.ffm hi, h.fq hi, h.frd hi, h.fst hi, h.fhl hi]
theorem xR_vault {a f : Nat} (h : xR S μ) (ha : (a = 0 ∧ f = 6) ∨ (a = 1 ∧ f = 7) ∨ (a = 2 ∧ f = 5)) : xR (su S 17 a v) (sI μ 0 0 f v) := by
  rcases ha with ⟨rfl, rfl⟩ | ⟨rfl, rfl⟩ | ⟨rfl, rfl⟩ <;>
  · refine xR_gen h (cK_su (by omega)) rfl rfl rfl (fun kd y z hk => mI_sI_n μ 0 0 _ v (fun q => by omega)) (fun i => by simp [sf_su]) ?_ (fun i hi => ?_) (fun i hi => ?_) (fun i hi => ?_)
    · simp [mI_sI, sf_su, h.fc, h.now, h.bud, h.uns]
    · simp [mI_sI, sf_su, h.last hi]
    · simp [mI_sI, sf_su, h.ly hi, h.ll hi, h.lr hi]
    · simp [mI_sI, sf_su, h.fsz hi, h.fen hi, h.ffm hi, h.fq hi, h.frd hi, h.fst hi, h.fhl hi]
theorem sl_cn {S S' : jS} (h0 : sn S' 0 = sn S 0) (h1 : sn S' 1 = sn S 1) (a : Nat) : sl S' a = sl S a := by
  unfold sl
  rw [h0, h1]
theorem mR_gen {S S' : jS} {μ μ' : jM} (h : mR S μ) (hc : cK S S') (hn : sn S' 0 = sn S 0) (hN : mN μ' = mN μ) (hP : mP μ' = mP μ) (hk : ∀ kd y z, kd = 40 ∨ kd = 41 ∨ kd = 42 ∨ kd = 43 ∨ kd = 49 → mI μ' kd y z = mI μ kd y z)
    (h0 : mI μ' 20 0 29 = nI (sn S 1) ∧ mI μ' 20 0 30 = nI (sn S 0) ∧ mI μ' 20 0 31 = sf S' 17 0 ∧ mI μ' 20 0 32 = sf S' 17 1 ∧ mI μ' 20 0 33 = sf S' 17 2) (h34 : mI μ' 20 0 34 = mI μ 20 0 34) (hv : ∀ a i, a ≤ 16 → i < sl S a → mI μ' (21 + a) 0 i = sf S' a i) : mR S' μ' := by
  refine ⟨by rw [hN, hP]; exact h.B, by rw [hn, hc.1]; exact h0, fun a i ha hi => hv a i ha (by rw [← sl_cn hn hc.1]; exact hi), ?_, fun j hj => by rw [hk _ _ _ (by omega)]; exact h.on hj⟩
  rw [h34, best_cK hc]
  refine h.found.imp id (fun q => ⟨q.1, fun a ha b hb => ?_⟩)
  simp only [hk 40 _ _ (by omega), hk 41 _ _ (by omega), hk 42 _ _ (by omega), hk 43 _ _ (by omega)]
  exact q.2 a ha b hb
theorem mR_v {a j : Nat} (h : mR S μ) (k : Nat) (hk : 21 + a = k) (ha : a = 0 ∨ (5 < a ∧ a ≤ 16)) : mR (su S a j v) (sI μ k 0 j v) := by
  subst hk
  refine mR_gen h (cK_su (by omega)) rfl rfl rfl (fun kd y z hk => mI_sI_n μ _ 0 j v (fun q => by omega)) ?_ (mI_sI_n μ _ 0 j v (fun q => by omega)) (fun b i hb hi => ?_)
  · have e2 : ∀ z, sf (su S a j v) 17 z = sf S 17 z := fun z => by rw [sf_su, if_neg (fun q => by omega)]
    rw [mI_sI_n μ _ _ _ v (fun q => by omega), mI_sI_n μ _ _ _ v (fun q => by omega), mI_sI_n μ _ _ _ v (fun q => by omega), mI_sI_n μ _ _ _ v (fun q => by omega), mI_sI_n μ _ _ _ v (fun q => by omega), e2, e2, e2]
    exact ⟨h.nc, h.nf, h.bud, h.rest, h.now⟩
  · rw [mI_sI, sf_su, h.v b hb rfl hi]
    by_cases e : b = a
    · simp [e]
    · have e2 : ¬ (21 + b = 21 + a ∧ 0 = 0 ∧ i = j) := fun q => e (by omega)
      have e3 : ¬ (b = a ∧ i = j) := fun q => e q.1
      rw [if_neg e2, if_neg e3]
theorem mR_s {a f : Nat} (h : mR S μ) (ha : (a = 0 ∧ f = 31) ∨ (a = 1 ∧ f = 32) ∨ (a = 2 ∧ f = 33)) : mR (su S 17 a v) (sI μ 20 0 f v) := by
  rcases ha with ⟨rfl, rfl⟩ | ⟨rfl, rfl⟩ | ⟨rfl, rfl⟩ <;>
  · refine mR_gen h (cK_su (by omega)) rfl rfl rfl (fun kd y z hk => mI_sI_n μ _ 0 _ v (fun q => by omega)) ?_ (mI_sI_n μ _ 0 _ v (fun q => by omega)) (fun b i hb hi => ?_)
    · simp [mI_sI, sf_su, h.nc, h.nf, h.bud, h.rest, h.now]
    · rw [mI_sI_n μ _ 0 _ v (fun q => by omega), sf_su, if_neg (fun q => by omega)]
      exact h.v b hb rfl hi
/-- a number of the reference's that tells nothing of S -/
theorem mR_x {kd i z : Nat} (h : mR S μ) (hk : (kd = 20 ∧ z = 35) ∨ kd = 38 ∨ kd = 39 ∨ (44 ≤ kd ∧ kd ≤ 48)) : mR S (sI μ kd i z v) := by
  refine mR_gen h cK.rf rfl rfl rfl (fun k9 y z9 hk9 => mI_sI_n μ _ _ _ v (fun q => by omega)) ?_ (mI_sI_n μ _ _ _ v (fun q => by omega)) (fun b j hb hj => ?_)
  · rw [mI_sI_n μ _ _ _ v (fun q => by omega), mI_sI_n μ _ _ _ v (fun q => by omega), mI_sI_n μ _ _ _ v (fun q => by omega), mI_sI_n μ _ _ _ v (fun q => by omega), mI_sI_n μ _ _ _ v (fun q => by omega)]
    exact ⟨h.nc, h.nf, h.bud, h.rest, h.now⟩
  · rw [mI_sI_n μ _ _ _ v (fun q => by omega)]
    exact h.v b hb rfl hj
end UPD
