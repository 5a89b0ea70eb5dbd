/-! THE MATHEMATICAL STATE: counts (0 files, 1 converters) and numbers by (what, which): 0 last year of a format; 1 from, 2 to, 3 loss, 4 price, 5 withdrawn of a converter; 6 years, 7 least, 8 reads of a law; 9 format, 10 size, 11 law, 12 quality, 13 end, 14 read in, 15 state, 16 held of a file; 17: 0 the budget, 1 what is left, 2 the year -/
abbrev jS : Type := (Nat → Nat) × (Nat → Nat → Int32)
def sn (S : jS) (a : Nat) : Nat := S.1 a
def sf (S : jS) (a i : Nat) : Int32 := S.2 a i
def su (S : jS) (a i : Nat) (v : Int32) : jS := (S.1, fun x y => if x = a ∧ y = i then v else S.2 x y)
def sa (S : jS) (a : Nat) : jS := (fun x => if x = a then S.1 a + 1 else S.1 x, S.2)
theorem sn_su (S : jS) (a i : Nat) (v : Int32) (x : Nat) : sn (su S a i v) x = sn S x := rfl
theorem sf_su (S : jS) (a i : Nat) (v : Int32) (x y : Nat) : sf (su S a i v) x y = if x = a ∧ y = i then v else sf S x y := rfl
theorem sf_sa (S : jS) (a x y : Nat) : sf (sa S a) x y = sf S x y := rfl
theorem sn_sa (S : jS) (a x : Nat) : sn (sa S a) x = if x = a then sn S a + 1 else sn S x := rfl
def ix (x : Int32) : Nat := x.toNatClampNeg
/-- out of 0 .. n - 1 -/
abbrev bad (x : Int32) (n : Nat) : Prop := x < 0 ∨ nI n ≤ x
theorem bad_of {x : Int32} {n : Nat} (h : ¬ bad x n) (hn : n < 2 ^ 31) : ∃ j, j < n ∧ x = nI j ∧ ix x = j := by
  rcases pk_ix x hn with h1 | h1 | ⟨j, h1, rfl⟩
  · exact absurd (Or.inl h1) h
  · exact absurd (Or.inr h1) h
  · exact ⟨j, h1, rfl, nI_clamp (by omega)⟩
theorem bad_nI {j n : Nat} (h : j < n) (hn : n < 2 ^ 31) : ¬ bad (nI j) n := by
  rintro (h1 | h1)
  · exact nI_pos (by omega) h1
  · exact nI_ge h hn h1
theorem ix_nI {j : Nat} (h : j < 2 ^ 31) : ix (nI j) = j := nI_clamp h
/-- can a format be read in the year of now -/
abbrev canR (S : jS) (j : Nat) : Prop := sf S 0 j = -1 ∨ sf S 17 2 ≤ sf S 0 j
/-- is a file safe in a format -/
abbrev safe (S : jS) (i j : Nat) : Prop := sf S 0 j = -1 ∨ (sf S 16 i = 0 ∧ sf S 13 i ≤ sf S 0 j)
/-- well formed -/
def sW (S : jS) : Prop :=
  (sn S 0 ≤ 40 ∧ sn S 1 ≤ 30) ∧
  (∀ c, c < sn S 1 → (∃ u, u < 10 ∧ sf S 1 c = nI u) ∧ (∃ u, u < 10 ∧ sf S 2 c = nI u) ∧ (∃ u, u ≤ 500 ∧ sf S 3 c = nI u) ∧ (∃ u, u ≤ 100 ∧ sf S 4 c = nI u) ∧ (sf S 5 c = 0 ∨ sf S 5 c = 1)) ∧
  (∀ i, i < sn S 0 → (∃ u, u < 10 ∧ sf S 9 i = nI u) ∧ (∃ u, u < 5 ∧ sf S 11 i = nI u) ∧ (∃ u, u ≤ 1000 ∧ sf S 12 i = nI u) ∧ (∃ u, 1 ≤ u ∧ u ≤ 100 ∧ sf S 10 i = nI u) ∧ (sf S 16 i = 0 ∨ sf S 16 i = 1)) ∧
  (∀ j, j < 5 → ∃ u, u ≤ 1000 ∧ sf S 7 j = nI u) ∧ ∃ u, u ≤ 900 ∧ sf S 17 2 = nI u
/-- where x's things lie: the counts and the references that never change, by N and P -/
def xB (N : Nat → Nat) (P : Nat → Nat → Nat → Option (Nat × Nat)) : Prop :=
  (N 0 = 1 ∧ N 1 = 1 ∧ N 2 = 1 ∧ N 3 = 1 ∧ N 4 = 1 ∧ N 5 = 1 ∧ N 6 = 1 ∧ N 7 = 1 ∧ N 8 = 1 ∧ N 9 = 1) ∧ (N 10 = 5 ∧ N 11 = 10 ∧ N 14 = 10 ∧ N 15 = 10 ∧ N 16 = 10 ∧ N 17 = 10 ∧ N 18 = 100) ∧
  (P 0 0 0 = some (1, 0) ∧ P 0 0 1 = some (2, 0) ∧ P 0 0 2 = some (3, 0) ∧ P 0 0 3 = some (4, 0)) ∧ (P 4 0 0 = some (5, 0) ∧ P 4 0 2 = some (6, 0) ∧ P 4 0 3 = some (7, 0) ∧ P 4 0 4 = some (8, 0) ∧ P 4 0 5 = some (9, 0)) ∧
  (∀ i, i < 5 → P 2 0 i = some (10, i)) ∧ (∀ i, i < 10 → P 8 0 i = some (11, i)) ∧ (∀ i, i < 10 → P 11 i 0 = some (14, i) ∧ P 11 i 1 = some (15, i) ∧ P 11 i 2 = some (16, i) ∧ P 11 i 3 = some (17, i)) ∧ (∀ i j, i < 10 → j < 10 → P 17 i j = some (18, 10 * i + j)) ∧
  (∀ i, i < N 12 → P 3 0 i = some (12, i)) ∧ (∀ i, i < N 13 → P 5 0 i = some (13, i))
section XB
variable {N : Nat → Nat} {P : Nat → Nat → Nat → Option (Nat × Nat)}
theorem xB.l0 (h : xB N P) : 0 < N 0 := by rw [h.1.1]; decide
theorem xB.l1 (h : xB N P) : 0 < N 1 := by rw [h.1.2.1]; decide
theorem xB.l2 (h : xB N P) : 0 < N 2 := by rw [h.1.2.2.1]; decide
theorem xB.l3 (h : xB N P) : 0 < N 3 := by rw [h.1.2.2.2.1]; decide
theorem xB.l4 (h : xB N P) : 0 < N 4 := by rw [h.1.2.2.2.2.1]; decide
theorem xB.l5 (h : xB N P) : 0 < N 5 := by rw [h.1.2.2.2.2.2.1]; decide
theorem xB.l6 (h : xB N P) : 0 < N 6 := by rw [h.1.2.2.2.2.2.2.1]; decide
theorem xB.l7 (h : xB N P) : 0 < N 7 := by rw [h.1.2.2.2.2.2.2.2.1]; decide
theorem xB.l8 (h : xB N P) : 0 < N 8 := by rw [h.1.2.2.2.2.2.2.2.2.1]; decide
theorem xB.l9 (h : xB N P) : 0 < N 9 := by rw [h.1.2.2.2.2.2.2.2.2.2]; decide
theorem xB.l10 (h : xB N P) {i : Nat} (hi : i < 5) : i < N 10 := by rw [h.2.1.1]; exact hi
theorem xB.l11 (h : xB N P) {i : Nat} (hi : i < 10) : i < N 11 := by rw [h.2.1.2.1]; exact hi
theorem xB.l14 (h : xB N P) {i : Nat} (hi : i < 10) : i < N 14 := by rw [h.2.1.2.2.1]; exact hi
theorem xB.l15 (h : xB N P) {i : Nat} (hi : i < 10) : i < N 15 := by rw [h.2.1.2.2.2.1]; exact hi
theorem xB.l16 (h : xB N P) {i : Nat} (hi : i < 10) : i < N 16 := by rw [h.2.1.2.2.2.2.1]; exact hi
theorem xB.l17 (h : xB N P) {i : Nat} (hi : i < 10) : i < N 17 := by rw [h.2.1.2.2.2.2.2.1]; exact hi
theorem xB.l18 (h : xB N P) {i : Nat} (hi : i < 100) : i < N 18 := by rw [h.2.1.2.2.2.2.2.2]; exact hi
theorem xB.p00 (h : xB N P) : P 0 0 0 = some (1, 0) := h.2.2.1.1
theorem xB.p01 (h : xB N P) : P 0 0 1 = some (2, 0) := h.2.2.1.2.1
theorem xB.p02 (h : xB N P) : P 0 0 2 = some (3, 0) := h.2.2.1.2.2.1
theorem xB.p03 (h : xB N P) : P 0 0 3 = some (4, 0) := h.2.2.1.2.2.2
theorem xB.p40 (h : xB N P) : P 4 0 0 = some (5, 0) := h.2.2.2.1.1
theorem xB.p42 (h : xB N P) : P 4 0 2 = some (6, 0) := h.2.2.2.1.2.1
theorem xB.p43 (h : xB N P) : P 4 0 3 = some (7, 0) := h.2.2.2.1.2.2.1
theorem xB.p44 (h : xB N P) : P 4 0 4 = some (8, 0) := h.2.2.2.1.2.2.2.1
theorem xB.p45 (h : xB N P) : P 4 0 5 = some (9, 0) := h.2.2.2.1.2.2.2.2
theorem xB.p2 (h : xB N P) {i : Nat} (hi : i < 5) : P 2 0 i = some (10, i) := h.2.2.2.2.1 i hi
theorem xB.p8 (h : xB N P) {i : Nat} (hi : i < 10) : P 8 0 i = some (11, i) := h.2.2.2.2.2.1 i hi
theorem xB.pq (h : xB N P) {i : Nat} (hi : i < 10) : P 11 i 0 = some (14, i) := (h.2.2.2.2.2.2.1 i hi).1
theorem xB.pc (h : xB N P) {i : Nat} (hi : i < 10) : P 11 i 1 = some (15, i) := (h.2.2.2.2.2.2.1 i hi).2.1
theorem xB.pl (h : xB N P) {i : Nat} (hi : i < 10) : P 11 i 2 = some (16, i) := (h.2.2.2.2.2.2.1 i hi).2.2.1
theorem xB.ps (h : xB N P) {i : Nat} (hi : i < 10) : P 11 i 3 = some (17, i) := (h.2.2.2.2.2.2.1 i hi).2.2.2
theorem xB.p17 (h : xB N P) {i j : Nat} (hi : i < 10) (hj : j < 10) : P 17 i j = some (18, 10 * i + j) := h.2.2.2.2.2.2.2.1 i j hi hj
theorem xB.p3 (h : xB N P) {i : Nat} (hi : i < N 12) : P 3 0 i = some (12, i) := h.2.2.2.2.2.2.2.2.1 i hi
theorem xB.p5 (h : xB N P) {i : Nat} (hi : i < N 13) : P 5 0 i = some (13, i) := h.2.2.2.2.2.2.2.2.2 i hi
end XB
/-- where the reference's things lie -/
def mB (N : Nat → Nat) (P : Nat → Nat → Nat → Option (Nat × Nat)) : Prop := N 20 = 1 ∧ (∀ f, f < 29 → N (21 + f) = 1 ∧ P 20 0 f = some (21 + f, 0))
section MB
variable {N : Nat → Nat} {P : Nat → Nat → Nat → Option (Nat × Nat)}
theorem mB.l0 (h : mB N P) : 0 < N 20 := by rw [h.1]; decide
theorem mB.l (h : mB N P) (f : Nat) (hf : f < 29) {k : Nat} (hk : 21 + f = k) : 0 < N k := by rw [← hk, (h.2 f hf).1]; decide
theorem mB.p (h : mB N P) (f : Nat) (hf : f < 29) {k : Nat} (hk : 21 + f = k) : P 20 0 f = some (k, 0) := by rw [← hk]; exact (h.2 f hf).2
end MB
/-- a truth as a number -/
def b1 (p : Prop) [Decidable p] : Int32 := if p then 1 else 0
theorem b1_t {p : Prop} [Decidable p] (h : p) : b1 p = 1 := if_pos h
theorem b1_f {p : Prop} [Decidable p] (h : ¬ p) : b1 p = 0 := if_neg h
theorem b1_0 {p : Prop} [Decidable p] : b1 p = 0 ↔ ¬ p := by
  unfold b1
  split <;> simp_all
theorem b1_n {p : Prop} [Decidable p] (h : ¬ b1 p = 0) : p := by
  by_cases q : p
  · exact q
  · exact absurd (b1_f q) h
theorem b1_and {p : Prop} [Decidable p] : b1 p &&& 1 = b1 p := by
  unfold b1
  split <;> rfl
theorem b1r_t {p : Prop} [Decidable p] (h : p) : (some (aI 1) : Option jV) = some (aI (b1 p)) := by rw [b1_t h]
theorem b1r_f {p : Prop} [Decidable p] (h : ¬ p) : (some (aI 0) : Option jV) = some (aI (b1 p)) := by rw [b1_f h]
