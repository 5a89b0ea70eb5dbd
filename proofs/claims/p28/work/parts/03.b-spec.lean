/-! WAYS: the table of the best ways from a format, by going through all ways, lower converters first -/
abbrev jB : Type := Nat → Option (Int32 × Int32 × List Nat)
def stQ (S : jS) (c : Nat) (q : Int32) : Int32 := q * (1000 - sf S 3 c) / 1000
def okc (S : jS) (c a : Nat) (vis : List Nat) : Prop := sf S 5 c = 0 ∧ sf S 1 c = nI a ∧ ix (sf S 2 c) ∉ vis
noncomputable def okb (S : jS) (c a : Nat) (vis : List Nat) : Bool := decide (sf S 5 c = 0) && decide (sf S 1 c = nI a) && decide (ix (sf S 2 c) ∉ vis)
theorem okb_iff {S : jS} {c a : Nat} {vis : List Nat} : okb S c a vis = true ↔ okc S c a vis := by
  simp [okb, okc, and_assoc]
/-- is a way of quality q, cost c, with n converters better than what is known -/
def btr (o : Option (Int32 × Int32 × List Nat)) (q c : Int32) (n : Nat) : Bool := match o with
  | none => true
  | some (q0, c0, w0) => decide (q0 < q) || (decide (q = q0) && (decide (c < c0) || (decide (c = c0) && decide (n < w0.length))))
def ofr (T : jB) (b : Nat) (q c : Int32) (w : List Nat) : jB := fun x => if x = b ∧ btr (T b) q c w.length = true then some (q, c, w) else T x
noncomputable def dfs (S : jS) : Nat → Nat → List Nat → Int32 → Int32 → List Nat → jB → jB
  | 0, _, _, _, _, _, T => T
  | n + 1, a, vis, q, c, w, T => (List.range (sn S 1)).foldl (fun T k => if okb S k a vis = true then dfs S n (ix (sf S 2 k)) (ix (sf S 2 k) :: vis) (stQ S k q) (c + sf S 4 k) (w ++ [k]) T else T) (ofr T a q c w)
noncomputable def best (S : jS) (a : Nat) : jB := dfs S 10 a [a] 1000 0 [] (fun _ => none)
/-- the greatest quality to a goal over all ways -/
noncomputable def gq (S : jS) (goal : Nat) : Nat → Nat → List Nat → Int32 → Int32 → Int32
  | 0, _, _, _, m => m
  | n + 1, a, vis, q, m => (List.range (sn S 1)).foldl (fun m k => if okb S k a vis = true then gq S goal n (ix (sf S 2 k)) (ix (sf S 2 k) :: vis) (stQ S k q) m else m) (if a = goal ∧ m < q then q else m)
def bq (o : Option (Int32 × Int32 × List Nat)) : Int32 := match o with
  | none => -1
  | some (q, _, _) => q
def bc (o : Option (Int32 × Int32 × List Nat)) : Int32 := match o with
  | none => -1
  | some (_, c, _) => c
def bw (o : Option (Int32 × Int32 × List Nat)) : List Nat := match o with
  | none => []
  | some (_, _, w) => w
/-- along a way -/
def alg (S : jS) (w : List Nat) (q : Int32) : Int32 := w.foldl (fun q c => stQ S c q) q
/-- the lowest converter from k on that leads from a -/
def nxt (S : jS) (a k : Nat) : Option Nat := (List.range' k (sn S 1 - k)).find? (fun c => decide (sf S 1 c = nI a))
/-- the highest converter that leads from a -/
def lst (S : jS) (a : Nat) : Option Nat := (List.range (sn S 1)).reverse.find? (fun c => decide (sf S 1 c = nI a))
def xTab (μ : jM) (a : Nat) (T : jB) : Prop := ∀ b, b < 10 → mI μ 14 a b = bq (T b) ∧ mI μ 15 a b = bc (T b) ∧ mI μ 16 a b = nI (bw (T b)).length ∧ (bw (T b)).length ≤ 9 ∧ ∀ k, k < (bw (T b)).length → mI μ 18 (10 * a + b) k = nI ((bw (T b)).getD k 0)
def mTab (μ : jM) (a : Nat) (T : jB) : Prop := ∀ b, b < 10 → mI μ 40 0 (10 * a + b) = bq (T b) ∧ mI μ 41 0 (10 * a + b) = bc (T b) ∧ mI μ 42 0 (10 * a + b) = nI (bw (T b)).length ∧ (bw (T b)).length ≤ 9 ∧ ∀ k, k < (bw (T b)).length → mI μ 43 0 (9 * (10 * a + b) + k) = nI ((bw (T b)).getD k 0)
/-- the class's things tell S -/
def xR (S : jS) (μ : jM) : Prop :=
  xB (mN μ) (mP μ) ∧ (mN μ 12 = sn S 0 ∧ mN μ 13 = sn S 1 ∧ mI μ 0 0 4 = nI (sn S 0) ∧ mI μ 4 0 1 = nI (sn S 1)) ∧ (mI μ 0 0 5 = sf S 17 2 ∧ mI μ 0 0 6 = sf S 17 0 ∧ mI μ 0 0 7 = sf S 17 1) ∧
  (∀ j, j < 10 → mI μ 1 0 j = sf S 0 j) ∧ (∀ j, j < 5 → mI μ 10 j 0 = sf S 6 j ∧ mI μ 10 j 1 = sf S 7 j ∧ mI μ 10 j 2 = sf S 8 j) ∧
  (∀ i, i < sn S 0 → (mI μ 12 i 0 = sf S 10 i ∧ mI μ 12 i 2 = sf S 13 i ∧ mI μ 12 i 3 = sf S 9 i ∧ mI μ 12 i 4 = sf S 12 i ∧ mI μ 12 i 5 = sf S 14 i ∧ mI μ 12 i 6 = sf S 15 i ∧ mI μ 12 i 7 = sf S 16 i) ∧ ∃ u, u < 5 ∧ sf S 11 i = nI u ∧ mP μ 12 i 1 = some (10, u)) ∧
  (∀ c, c < sn S 1 → mI μ 13 c 0 = nI c ∧ mI μ 13 c 1 = sf S 1 c ∧ mI μ 13 c 2 = sf S 2 c ∧ mI μ 13 c 3 = sf S 3 c ∧ mI μ 13 c 4 = sf S 4 c ∧ mI μ 13 c 5 = sf S 5 c) ∧
  ((∀ a, a < 10 → mP μ 6 0 a = (nxt S a 0).map (fun c => (13, c)) ∧ mP μ 7 0 a = (lst S a).map (fun c => (13, c))) ∧ ∀ c a, c < sn S 1 → a < 10 → sf S 1 c = nI a → mP μ 13 c 6 = (nxt S a (c + 1)).map (fun c => (13, c))) ∧
  ∀ a, a < 10 → mI μ 11 a 4 = 0 ∨ (mI μ 11 a 4 = 1 ∧ xTab μ a (best S a))
section XR
variable {S : jS} {μ : jM} (h : xR S μ)
theorem xR.B (h : xR S μ) : xB (mN μ) (mP μ) := h.1
theorem xR.n12 (h : xR S μ) : mN μ 12 = sn S 0 := h.2.1.1
theorem xR.n13 (h : xR S μ) : mN μ 13 = sn S 1 := h.2.1.2.1
theorem xR.l12 (h : xR S μ) {i : Nat} (hi : i < sn S 0) : i < mN μ 12 := by rw [h.n12]; exact hi
theorem xR.l13 (h : xR S μ) {i : Nat} (hi : i < sn S 1) : i < mN μ 13 := by rw [h.n13]; exact hi
theorem xR.fc (h : xR S μ) : mI μ 0 0 4 = nI (sn S 0) := h.2.1.2.2.1
theorem xR.nc (h : xR S μ) : mI μ 4 0 1 = nI (sn S 1) := h.2.1.2.2.2
theorem xR.now (h : xR S μ) : mI μ 0 0 5 = sf S 17 2 := h.2.2.1.1
theorem xR.bud (h : xR S μ) : mI μ 0 0 6 = sf S 17 0 := h.2.2.1.2.1
theorem xR.uns (h : xR S μ) : mI μ 0 0 7 = sf S 17 1 := h.2.2.1.2.2
theorem xR.last (h : xR S μ) {j : Nat} (hj : j < 10) : mI μ 1 0 j = sf S 0 j := h.2.2.2.1 j hj
theorem xR.ly (h : xR S μ) {j : Nat} (hj : j < 5) : mI μ 10 j 0 = sf S 6 j := (h.2.2.2.2.1 j hj).1
theorem xR.ll (h : xR S μ) {j : Nat} (hj : j < 5) : mI μ 10 j 1 = sf S 7 j := (h.2.2.2.2.1 j hj).2.1
theorem xR.lr (h : xR S μ) {j : Nat} (hj : j < 5) : mI μ 10 j 2 = sf S 8 j := (h.2.2.2.2.1 j hj).2.2
theorem xR.fsz (h : xR S μ) {i : Nat} (hi : i < sn S 0) : mI μ 12 i 0 = sf S 10 i := (h.2.2.2.2.2.1 i hi).1.1
theorem xR.fen (h : xR S μ) {i : Nat} (hi : i < sn S 0) : mI μ 12 i 2 = sf S 13 i := (h.2.2.2.2.2.1 i hi).1.2.1
theorem xR.ffm (h : xR S μ) {i : Nat} (hi : i < sn S 0) : mI μ 12 i 3 = sf S 9 i := (h.2.2.2.2.2.1 i hi).1.2.2.1
theorem xR.fq (h : xR S μ) {i : Nat} (hi : i < sn S 0) : mI μ 12 i 4 = sf S 12 i := (h.2.2.2.2.2.1 i hi).1.2.2.2.1
theorem xR.frd (h : xR S μ) {i : Nat} (hi : i < sn S 0) : mI μ 12 i 5 = sf S 14 i := (h.2.2.2.2.2.1 i hi).1.2.2.2.2.1
theorem xR.fst (h : xR S μ) {i : Nat} (hi : i < sn S 0) : mI μ 12 i 6 = sf S 15 i := (h.2.2.2.2.2.1 i hi).1.2.2.2.2.2.1
theorem xR.fhl (h : xR S μ) {i : Nat} (hi : i < sn S 0) : mI μ 12 i 7 = sf S 16 i := (h.2.2.2.2.2.1 i hi).1.2.2.2.2.2.2
theorem xR.flw (h : xR S μ) {i : Nat} (hi : i < sn S 0) : ∃ u, u < 5 ∧ sf S 11 i = nI u ∧ mP μ 12 i 1 = some (10, u) := (h.2.2.2.2.2.1 i hi).2
theorem xR.cnum (h : xR S μ) {c : Nat} (hc : c < sn S 1) : mI μ 13 c 0 = nI c := (h.2.2.2.2.2.2.1 c hc).1
theorem xR.cfr (h : xR S μ) {c : Nat} (hc : c < sn S 1) : mI μ 13 c 1 = sf S 1 c := (h.2.2.2.2.2.2.1 c hc).2.1
theorem xR.cto (h : xR S μ) {c : Nat} (hc : c < sn S 1) : mI μ 13 c 2 = sf S 2 c := (h.2.2.2.2.2.2.1 c hc).2.2.1
theorem xR.clo (h : xR S μ) {c : Nat} (hc : c < sn S 1) : mI μ 13 c 3 = sf S 3 c := (h.2.2.2.2.2.2.1 c hc).2.2.2.1
theorem xR.cco (h : xR S μ) {c : Nat} (hc : c < sn S 1) : mI μ 13 c 4 = sf S 4 c := (h.2.2.2.2.2.2.1 c hc).2.2.2.2.1
theorem xR.cwd (h : xR S μ) {c : Nat} (hc : c < sn S 1) : mI μ 13 c 5 = sf S 5 c := (h.2.2.2.2.2.2.1 c hc).2.2.2.2.2
theorem xR.low (h : xR S μ) {a : Nat} (ha : a < 10) : mP μ 6 0 a = (nxt S a 0).map (fun c => (13, c)) := (h.2.2.2.2.2.2.2.1.1 a ha).1
theorem xR.high (h : xR S μ) {a : Nat} (ha : a < 10) : mP μ 7 0 a = (lst S a).map (fun c => (13, c)) := (h.2.2.2.2.2.2.2.1.1 a ha).2
theorem xR.next (h : xR S μ) {c a : Nat} (hc : c < sn S 1) (ha : a < 10) (hf : sf S 1 c = nI a) : mP μ 13 c 6 = (nxt S a (c + 1)).map (fun c => (13, c)) := h.2.2.2.2.2.2.2.1.2 c a hc ha hf
theorem xR.cache (h : xR S μ) {a : Nat} (ha : a < 10) : mI μ 11 a 4 = 0 ∨ (mI μ 11 a 4 = 1 ∧ xTab μ a (best S a)) := h.2.2.2.2.2.2.2.2 a ha
end XR
/-- how many of what -/
def sl (S : jS) (a : Nat) : Nat := if a = 0 then 10 else if a = 5 then 30 else if a ≤ 5 then sn S 1 else if a ≤ 8 then 5 else sn S 0
/-- the reference's things tell S -/
def mR (S : jS) (μ : jM) : Prop :=
  mB (mN μ) (mP μ) ∧ (mI μ 20 0 29 = nI (sn S 1) ∧ mI μ 20 0 30 = nI (sn S 0) ∧ mI μ 20 0 31 = sf S 17 0 ∧ mI μ 20 0 32 = sf S 17 1 ∧ mI μ 20 0 33 = sf S 17 2) ∧ (∀ a i, a ≤ 16 → i < sl S a → mI μ (21 + a) 0 i = sf S a i) ∧
  (mI μ 20 0 34 = 0 ∨ (mI μ 20 0 34 = 1 ∧ ∀ a, a < 10 → mTab μ a (best S a))) ∧ ∀ j, j < 10 → mI μ 49 0 j = 0
section MR
variable {S : jS} {μ : jM}
theorem mR.B (h : mR S μ) : mB (mN μ) (mP μ) := h.1
theorem mR.nc (h : mR S μ) : mI μ 20 0 29 = nI (sn S 1) := h.2.1.1
theorem mR.nf (h : mR S μ) : mI μ 20 0 30 = nI (sn S 0) := h.2.1.2.1
theorem mR.bud (h : mR S μ) : mI μ 20 0 31 = sf S 17 0 := h.2.1.2.2.1
theorem mR.rest (h : mR S μ) : mI μ 20 0 32 = sf S 17 1 := h.2.1.2.2.2.1
theorem mR.now (h : mR S μ) : mI μ 20 0 33 = sf S 17 2 := h.2.1.2.2.2.2
theorem mR.v (h : mR S μ) (a : Nat) {i k : Nat} (ha : a ≤ 16) (hk : 21 + a = k) (hi : i < sl S a) : mI μ k 0 i = sf S a i := by rw [← hk]; exact h.2.2.1 a i ha hi
theorem mR.found (h : mR S μ) : mI μ 20 0 34 = 0 ∨ (mI μ 20 0 34 = 1 ∧ ∀ a, a < 10 → mTab μ a (best S a)) := h.2.2.2.1
theorem mR.on (h : mR S μ) {j : Nat} (hj : j < 10) : mI μ 49 0 j = 0 := h.2.2.2.2 j hj
end MR
/-- things of some kinds are the same -/
def eqK (μ μ' : jM) (kd : Nat) : Prop := mN μ' kd = mN μ kd ∧ ∀ y z, mI μ' kd y z = mI μ kd y z ∧ mP μ' kd y z = mP μ kd y z ∧ mG μ' kd y z = mG μ kd y z
/-- the class writes its own things alone -/
def xF (μ μ' : jM) : Prop := ∀ kd, 20 ≤ kd → eqK μ μ' kd
/-- the reference writes its own things alone -/
def mF (μ μ' : jM) : Prop := ∀ kd, kd < 20 ∨ 50 ≤ kd → eqK μ μ' kd
theorem eqK.rf {μ : jM} {kd : Nat} : eqK μ μ kd := ⟨rfl, fun _ _ => ⟨rfl, rfl, rfl⟩⟩
theorem eqK.tr {μ μ1 μ2 : jM} {kd : Nat} (h : eqK μ μ1 kd) (h2 : eqK μ1 μ2 kd) : eqK μ μ2 kd := ⟨h2.1.trans h.1, fun y z => ⟨(h2.2 y z).1.trans (h.2 y z).1, (h2.2 y z).2.1.trans (h.2 y z).2.1, (h2.2 y z).2.2.trans (h.2 y z).2.2⟩⟩
theorem xF.rf {μ : jM} : xF μ μ := fun _ _ => eqK.rf
theorem mF.rf {μ : jM} : mF μ μ := fun _ _ => eqK.rf
theorem xF.tr {μ μ1 μ2 : jM} (h : xF μ μ1) (h2 : xF μ1 μ2) : xF μ μ2 := fun kd hk => (h kd hk).tr (h2 kd hk)
theorem mF.tr {μ μ1 μ2 : jM} (h : mF μ μ1) (h2 : mF μ1 μ2) : mF μ μ2 := fun kd hk => (h kd hk).tr (h2 kd hk)
theorem eqK_sI {μ : jM} {a b c kd : Nat} {v : Int32} (h : kd ≠ a) : eqK μ (sI μ a b c v) kd := ⟨rfl, fun y z => ⟨mI_sI_n μ a b c v (fun q => h q.1), rfl, rfl⟩⟩
theorem eqK_sP {μ : jM} {a b c kd : Nat} {v : Option (Nat × Nat)} (h : kd ≠ a) : eqK μ (sP μ a b c v) kd := ⟨rfl, fun y z => ⟨rfl, mP_sP_n μ a b c v (fun q => h q.1), rfl⟩⟩
theorem eqK_nw {μ : jM} {a kd : Nat} (h : kd ≠ a) : eqK μ (nw μ a) kd := ⟨by rw [mN_nw, if_neg h], fun y z => ⟨by rw [mI_nw, if_neg (fun q => h q.1)], by rw [mP_nw, if_neg (fun q => h q.1)], by rw [mG_nw, if_neg (fun q => h q.1)]⟩⟩
theorem xF_sI {μ μ0 : jM} {a b c : Nat} {v : Int32} (h : a < 20) (k : xF μ0 μ) : xF μ0 (sI μ a b c v) := fun kd hk => (k kd hk).tr (eqK_sI (by omega))
theorem xF_sP {μ μ0 : jM} {a b c : Nat} {v : Option (Nat × Nat)} (h : a < 20) (k : xF μ0 μ) : xF μ0 (sP μ a b c v) := fun kd hk => (k kd hk).tr (eqK_sP (by omega))
theorem xF_nw {μ μ0 : jM} {a : Nat} (h : a < 20) (k : xF μ0 μ) : xF μ0 (nw μ a) := fun kd hk => (k kd hk).tr (eqK_nw (by omega))
theorem mF_sI {μ μ0 : jM} {a b c : Nat} {v : Int32} (h : 20 ≤ a ∧ a < 50) (k : mF μ0 μ) : mF μ0 (sI μ a b c v) := fun kd hk => (k kd hk).tr (eqK_sI (by omega))
theorem mF_sP {μ μ0 : jM} {a b c : Nat} {v : Option (Nat × Nat)} (h : 20 ≤ a ∧ a < 50) (k : mF μ0 μ) : mF μ0 (sP μ a b c v) := fun kd hk => (k kd hk).tr (eqK_sP (by omega))
theorem mF_nw {μ μ0 : jM} {a : Nat} (h : 20 ≤ a ∧ a < 50) (k : mF μ0 μ) : mF μ0 (nw μ a) := fun kd hk => (k kd hk).tr (eqK_nw (by omega))
/-- the reference's things are still told when the class has written -/
theorem mR.kept {S : jS} {μ μ' : jM} (h : mR S μ) (hF : xF μ μ') : mR S μ' := by
  have hi : ∀ kd y z, 20 ≤ kd → mI μ' kd y z = mI μ kd y z := fun kd y z hk => ((hF kd hk).2 y z).1
  have hp : ∀ kd y z, 20 ≤ kd → mP μ' kd y z = mP μ kd y z := fun kd y z hk => ((hF kd hk).2 y z).2.1
  have hn : ∀ kd, 20 ≤ kd → mN μ' kd = mN μ kd := fun kd hk => (hF kd hk).1
  obtain ⟨h1, ⟨a1, a2, a3, a4, a5⟩, h3, h4, h5⟩ := h
  refine ⟨⟨by rw [hn 20 (by omega)]; exact h1.1, fun f hf => ⟨by rw [hn _ (by omega)]; exact (h1.2 f hf).1, by rw [hp _ _ _ (by omega)]; exact (h1.2 f hf).2⟩⟩, ⟨?_, ?_, ?_, ?_, ?_⟩, fun a i ha hi' => ?_, ?_, fun j hj => ?_⟩
  · rw [hi _ _ _ (by omega)]; exact a1
  · rw [hi _ _ _ (by omega)]; exact a2
  · rw [hi _ _ _ (by omega)]; exact a3
  · rw [hi _ _ _ (by omega)]; exact a4
  · rw [hi _ _ _ (by omega)]; exact a5
  · rw [hi _ _ _ (by omega)]; exact h3 a i ha hi'
  · rw [hi _ _ _ (by omega)]
    refine h4.imp id (fun h => ⟨h.1, fun a ha b hb => ?_⟩)
    obtain ⟨q1, q2, q3, q4, q5⟩ := h.2 a ha b hb
    exact ⟨by rw [hi _ _ _ (by omega)]; exact q1, by rw [hi _ _ _ (by omega)]; exact q2, by rw [hi _ _ _ (by omega)]; exact q3, q4, fun k hk => by rw [hi _ _ _ (by omega)]; exact q5 k hk⟩
  · rw [hi _ _ _ (by omega)]; exact h5 j hj
/-- .. and the class's things when the reference has written -/
theorem xR.kept {S : jS} {μ μ' : jM} (h : xR S μ) (hF : ∀ kd, kd < 20 → eqK μ μ' kd) : xR S μ' := by
  have hi : ∀ kd y z, kd < 20 → mI μ' kd y z = mI μ kd y z := fun kd y z hk => ((hF kd hk).2 y z).1
  have hp : ∀ kd y z, kd < 20 → mP μ' kd y z = mP μ kd y z := fun kd y z hk => ((hF kd hk).2 y z).2.1
  have hn : ∀ kd, kd < 20 → mN μ' kd = mN μ kd := fun kd hk => (hF kd hk).1
  unfold xR xB xTab at h ⊢
  simp only [hi 0 _ _ (by omega), hi 1 _ _ (by omega), hi 4 _ _ (by omega), hi 10 _ _ (by omega), hi 11 _ _ (by omega), hi 12 _ _ (by omega), hi 13 _ _ (by omega), hi 14 _ _ (by omega), hi 15 _ _ (by omega), hi 16 _ _ (by omega), hi 18 _ _ (by omega), hp 0 _ _ (by omega), hp 2 _ _ (by omega), hp 3 _ _ (by omega), hp 4 _ _ (by omega), hp 5 _ _ (by omega), hp 6 _ _ (by omega), hp 7 _ _ (by omega), hp 8 _ _ (by omega), hp 11 _ _ (by omega), hp 12 _ _ (by omega), hp 13 _ _ (by omega), hp 17 _ _ (by omega), hn 0 (by omega), hn 1 (by omega), hn 2 (by omega), hn 3 (by omega), hn 4 (by omega), hn 5 (by omega), hn 6 (by omega), hn 7 (by omega), hn 8 (by omega), hn 9 (by omega), hn 10 (by omega), hn 11 (by omega), hn 12 (by omega), hn 13 (by omega), hn 14 (by omega), hn 15 (by omega), hn 16 (by omega), hn 17 (by omega), hn 18 (by omega)] at h ⊢
  exact h
