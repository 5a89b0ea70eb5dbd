/-! BITS -/
def bt (x : Int64) (i : Nat) : Bool := x.toBitVec.getLsbD i
abbrev b1L (i : Nat) : Int64 := (1 : Int64) <<< ((nI i).toInt64 &&& 63)
theorem bt_1 : ∀ i, i < 64 → ∀ j, j < 64 → bt (b1L i) j = decide (j = i) := by decide +kernel
theorem bt_or (x y : Int64) (i : Nat) : bt (x ||| y) i = (bt x i || bt y i) := by
  unfold bt
  rw [Int64.toBitVec_or, BitVec.getLsbD_or]
theorem bt_and (x y : Int64) (i : Nat) : bt (x &&& y) i = (bt x i && bt y i) := by
  unfold bt
  rw [Int64.toBitVec_and, BitVec.getLsbD_and]
theorem bt_m1 : ∀ i, i < 64 → bt (-1) i = true := by decide +kernel
theorem bt_not (x : Int64) {i : Nat} (hi : i < 64) : bt (x ^^^ -1) i = !bt x i := by
  have h := bt_m1 i hi
  unfold bt at h ⊢
  rw [Int64.toBitVec_xor, BitVec.getLsbD_xor, h]
  cases x.toBitVec.getLsbD i <;> rfl
theorem bt_0 : ∀ i, i < 64 → bt 0 i = false := by decide +kernel
theorem bt_ext {x y : Int64} (h : ∀ i, i < 64 → bt x i = bt y i) : x = y := Int64.toBitVec_inj.1 (BitVec.eq_of_getLsbD_eq (fun i hi => h i hi))
theorem bt_z {x : Int64} : x = 0 ↔ ∀ i, i < 64 → bt x i = false := by
  constructor
  · rintro rfl
    exact bt_0
  · exact fun h => bt_ext (fun i hi => (h i hi).trans (bt_0 i hi).symm)
theorem bt_t {x : Int64} {i : Nat} (hi : i < 64) : x &&& b1L i = 0 ↔ bt x i = false := by
  rw [bt_z]
  constructor
  · intro h
    have := h i hi
    rw [bt_and, bt_1 i hi i hi] at this
    simpa using this
  · intro h j hj
    rw [bt_and, bt_1 i hi j hj]
    by_cases e : j = i
    · rw [e, h]; rfl
    · simp [e]
theorem bt_bset (P : Nat → Bool) : ∀ (n : Nat), n ≤ 64 → ∀ j, j < 64 → bt (bset P n) j = (decide (j < n) && P j)
  | 0, _, j, hj => by
    show bt 0 j = _
    rw [bt_0 j hj]
    simp
  | n + 1, hn, j, hj => by
    have ih := bt_bset P n (by omega) j hj
    show bt (if P n = true then bset P n ||| b1L n else bset P n) j = _
    by_cases e : j = n
    · subst e
      cases hP : P j with
      | true => simp [bt_or, bt_1 j hj j hj, hP]
      | false => simp [ih, hP]
    · have e2 : decide (j < n + 1) = decide (j < n) := by simp; omega
      rw [e2, ← ih]
      split
      · rw [bt_or, bt_1 n (by omega) j hj]
        simp [e]
      · rfl
/-- how many -/
def cnt (f : Nat → Bool) : Nat → Nat
  | 0 => 0
  | i + 1 => cnt f i + (if f i = true then 1 else 0)
theorem cnt_c {f g : Nat → Bool} : ∀ n, (∀ i, i < n → f i = g i) → cnt f n = cnt g n
  | 0, _ => rfl
  | n + 1, h => by
    show cnt f n + _ = cnt g n + _
    rw [cnt_c n (fun i hi => h i (by omega)), h n (by omega)]
theorem cnt_f {f : Nat → Bool} {m : Nat} : ∀ n, m ≤ n → (∀ i, m ≤ i → i < n → f i = false) → cnt f n = cnt f m
  | 0, h, _ => by rw [Nat.le_zero.mp h]
  | n + 1, h, h2 => by
    by_cases e : m = n + 1
    · rw [e]
    · show cnt f n + _ = _
      rw [h2 n (by omega) (by omega), cnt_f n (by omega) (fun i h3 h4 => h2 i h3 (by omega))]
      rfl
theorem cnt_a {f : Nat → Bool} (m : Nat) : ∀ n, cnt f (m + n) = cnt f m + cnt (fun i => f (m + i)) n
  | 0 => rfl
  | n + 1 => by
    show cnt f (m + n) + _ = cnt f m + (cnt _ n + _)
    rw [cnt_a m n]
    exact Nat.add_assoc _ _ _
/-! bits are counted byte by byte -/
def p1 (b : Nat) : Nat := b - ((b / 2) &&& 0x55)
def p2 (b : Nat) : Nat := (p1 b &&& 0x33) + ((p1 b / 4) &&& 0x33)
def p3 (b : Nat) : Nat := (p2 b + p2 b / 16) &&& 0x0f
theorem p3_c : ∀ b, b < 256 → p3 b = cnt (fun i => b.testBit i) 8 := by decide +kernel

theorem and_256 (a b c d : Nat) (hb : b < 256) (hd : d < 256) : (256 * a + b) &&& (256 * c + d) = 256 * (a &&& c) + (b &&& d) := by
  have hbd : b &&& d < 2 ^ 8 := Nat.lt_of_le_of_lt Nat.and_le_left hb
  refine Nat.eq_of_testBit_eq (fun i => ?_)
  have e : (256 : Nat) = 2 ^ 8 := by decide
  rw [Nat.testBit_and, e, Nat.testBit_two_pow_mul_add a (i := 8) hb, Nat.testBit_two_pow_mul_add c (i := 8) hd, Nat.testBit_two_pow_mul_add (a &&& c) (i := 8) hbd]
  split
  · rw [Nat.testBit_and]
  · rw [Nat.testBit_and]
def mk (m : Nat) : Nat → Nat
  | 0 => 0
  | k + 1 => 256 * mk m k + m
def g1 (k x : Nat) : Nat := x - ((x / 2) &&& mk 0x55 k)
def g2 (k x : Nat) : Nat := (x &&& mk 0x33 k) + ((x / 4) &&& mk 0x33 k)
def g3 (k x : Nat) : Nat := (x + x / 16) &&& mk 0x0f k
def gr : Nat → Nat → Nat
  | 0, _ => 0
  | k + 1, x => 256 * gr k (x / 256) + p3 (x % 256)
theorem a1 : ∀ b, b < 256 → ∀ r, r < 2 → (128 * r + b / 2) &&& 0x55 = (b / 2) &&& 0x55 := by decide +kernel
theorem a2 : ∀ b, b < 256 → ∀ r, r < 4 → (64 * r + b / 4) &&& 0x33 = (b / 4) &&& 0x33 := by decide +kernel
theorem a3 : ∀ b, b < 256 → ∀ r, r < 5 → (p2 b + 16 * r + p2 b / 16) &&& 0x0f = p3 b ∧ p2 b + 16 * r + p2 b / 16 < 256 := by decide +kernel
theorem a4 : ∀ b, b < 256 → p1 b < 256 ∧ p2 b < 256 ∧ p2 b % 16 ≤ 4 ∧ p3 b ≤ 8 ∧ (b / 2) &&& 0x55 ≤ b := by decide +kernel
theorem g1_s (k a b : Nat) (hb : b < 256) : g1 (k + 1) (256 * a + b) = 256 * g1 k a + p1 b := by
  have e1 : (256 * a + b) / 2 = 256 * (a / 2) + (128 * (a % 2) + b / 2) := by omega
  have h1 := a1 b hb (a % 2) (Nat.mod_lt _ (by decide))
  have h2 : (a / 2) &&& mk 0x55 k ≤ a := Nat.le_trans Nat.and_le_left (Nat.div_le_self a 2)
  have h3 := (a4 b hb).2.2.2.2
  unfold g1
  rw [e1, show mk 0x55 (k + 1) = 256 * mk 0x55 k + 0x55 from rfl, and_256 _ _ _ _ (by omega) (by decide), h1]
  unfold p1
  omega
theorem g2_s (k a b : Nat) (hb : b < 256) : g2 (k + 1) (256 * a + p1 b) = 256 * g2 k a + p2 b := by
  have h0 := (a4 b hb).1
  have e1 : (256 * a + p1 b) / 4 = 256 * (a / 4) + (64 * (a % 4) + p1 b / 4) := by omega
  have h1 := a2 (p1 b) h0 (a % 4) (Nat.mod_lt _ (by decide))
  unfold g2
  rw [e1, show mk 0x33 (k + 1) = 256 * mk 0x33 k + 0x33 from rfl, and_256 _ _ _ _ h0 (by decide), and_256 _ _ _ _ (by omega) (by decide), h1]
  unfold p2
  omega
theorem g_all : ∀ (k x : Nat), x < 256 ^ k → g3 k (g2 k (g1 k x)) = gr k x ∧ g2 k (g1 k x) % 16 ≤ 4
  | 0, x, h => by
    have e : x = 0 := by
      have : (256 : Nat) ^ 0 = 1 := rfl
      omega
    subst e
    exact ⟨rfl, Nat.zero_le _⟩
  | k + 1, x, h => by
    have hb : x % 256 < 256 := Nat.mod_lt _ (by decide)
    have hx : x / 256 < 256 ^ k := by
      rw [Nat.pow_succ] at h
      exact Nat.div_lt_of_lt_mul (by rw [Nat.mul_comm]; exact h)
    obtain ⟨i1, i2⟩ := g_all k (x / 256) hx
    have e : x = 256 * (x / 256) + x % 256 := by omega
    have e2 : g2 (k + 1) (g1 (k + 1) x) = 256 * g2 k (g1 k (x / 256)) + p2 (x % 256) := by
      conv => lhs; rw [e]
      rw [g1_s k _ _ hb, g2_s k _ _ hb]
    obtain ⟨q1, q2, q3, q4, -⟩ := a4 (x % 256) hb
    rw [e2]
    generalize g2 k (g1 k (x / 256)) = y at i1 i2
    obtain ⟨r1, r2⟩ := a3 (x % 256) hb (y % 16) (by omega)
    refine ⟨?_, by omega⟩
    have e3 : 256 * y + p2 (x % 256) + (256 * y + p2 (x % 256)) / 16 = 256 * (y + y / 16) + (p2 (x % 256) + 16 * (y % 16) + p2 (x % 256) / 16) := by omega
    show (256 * y + p2 (x % 256) + (256 * y + p2 (x % 256)) / 16) &&& (256 * mk 0x0f k + 0x0f) = 256 * gr k (x / 256) + p3 (x % 256)
    rw [e3, and_256 _ _ _ _ r2 (by decide), r1]
    have i1' : (y + y / 16) &&& mk 0x0f k = gr k (x / 256) := i1
    rw [i1']
/-- the bits of a number, byte by byte -/
theorem gr_c : ∀ (k x : Nat), ∃ c : Nat, c = cnt (fun i => x.testBit i) (8 * k) ∧ cnt (fun i => x.testBit i) (8 * k) = c := fun k x => ⟨_, rfl, rfl⟩
theorem tb_8 (x i : Nat) : (x / 256).testBit i = x.testBit (8 + i) := by
  have e : (256 : Nat) = 2 ^ 8 := by decide
  rw [e, Nat.testBit_div_two_pow, Nat.add_comm]
theorem tb_m (x i : Nat) (hi : i < 8) : (x % 256).testBit i = x.testBit i := by
  have e : (256 : Nat) = 2 ^ 8 := by decide
  rw [e, Nat.testBit_mod_two_pow]
  simp [hi]
def sm : Nat → Nat → Nat
  | 0, _ => 0
  | k + 1, x => p3 (x % 256) + sm k (x / 256)
theorem sm_c : ∀ (k x : Nat), sm k x = cnt (fun i => x.testBit i) (8 * k)
  | 0, _ => rfl
  | k + 1, x => by
    have e : 8 * (k + 1) = 8 + 8 * k := by omega
    rw [e, cnt_a]
    show p3 (x % 256) + sm k (x / 256) = _
    rw [sm_c k (x / 256), p3_c _ (Nat.mod_lt _ (by decide)), cnt_c 8 (fun i hi => tb_m x i hi), cnt_c (8 * k) (fun i _ => tb_8 x i)]
theorem sum8 (x y3 y4 y5 y6 : Nat) (h3 : y3 = gr 8 x) (h4 : y4 = y3 + y3 / 256) (h5 : y5 = y4 + y4 / 65536) (h6 : y6 = y5 + y5 / 4294967296) : y6 % 128 = sm 8 x ∧ y6 < 2 ^ 62 ∧ y5 < 2 ^ 62 ∧ y4 < 2 ^ 62 := by
  have q : ∀ z, p3 (z % 256) ≤ 8 := fun z => (a4 _ (Nat.mod_lt _ (by decide))).2.2.2.1
  simp only [gr] at h3
  simp only [sm]
  have q0 := q x
  have q1 := q (x / 256)
  have q2 := q (x / 256 / 256)
  have q3 := q (x / 256 / 256 / 256)
  have q4 := q (x / 256 / 256 / 256 / 256)
  have q5 := q (x / 256 / 256 / 256 / 256 / 256)
  have q6 := q (x / 256 / 256 / 256 / 256 / 256 / 256)
  have q7 := q (x / 256 / 256 / 256 / 256 / 256 / 256 / 256)
  generalize p3 (x % 256) = c0 at *
  generalize p3 (x / 256 % 256) = c1 at *
  generalize p3 (x / 256 / 256 % 256) = c2 at *
  generalize p3 (x / 256 / 256 / 256 % 256) = c3 at *
  generalize p3 (x / 256 / 256 / 256 / 256 % 256) = c4 at *
  generalize p3 (x / 256 / 256 / 256 / 256 / 256 % 256) = c5 at *
  generalize p3 (x / 256 / 256 / 256 / 256 / 256 / 256 % 256) = c6 at *
  generalize p3 (x / 256 / 256 / 256 / 256 / 256 / 256 / 256 % 256) = c7 at *
  have e3 : y3 / 256 = c1 + 256 * (c2 + 256 * (c3 + 256 * (c4 + 256 * (c5 + 256 * (c6 + 256 * c7))))) := by omega
  have e4 : y4 = (c0 + c1) + 256 * ((c1 + c2) + 256 * ((c2 + c3) + 256 * ((c3 + c4) + 256 * ((c4 + c5) + 256 * ((c5 + c6) + 256 * ((c6 + c7) + 256 * c7)))))) := by omega
  have e5 : y4 / 65536 = (c2 + c3) + 256 * ((c3 + c4) + 256 * ((c4 + c5) + 256 * ((c5 + c6) + 256 * ((c6 + c7) + 256 * c7)))) := by omega
  have e6 : y5 = (c0 + c1 + c2 + c3) + 256 * ((c1 + c2 + c3 + c4) + 256 * ((c2 + c3 + c4 + c5) + 256 * ((c3 + c4 + c5 + c6) + 256 * ((c4 + c5 + c6 + c7) + 256 * ((c5 + c6 + c7) + 256 * ((c6 + c7) + 256 * c7)))))) := by omega
  have e7 : y5 / 4294967296 = (c4 + c5 + c6 + c7) + 256 * ((c5 + c6 + c7) + 256 * ((c6 + c7) + 256 * c7)) := by omega
  have e8 : y6 = (c0 + c1 + c2 + c3 + (c4 + c5 + c6 + c7)) + 256 * ((c1 + c2 + c3 + c4) + (c5 + c6 + c7) + 256 * ((c2 + c3 + c4 + c5) + (c6 + c7) + 256 * ((c3 + c4 + c5 + c6) + c7 + 256 * ((c4 + c5 + c6 + c7) + 256 * ((c5 + c6 + c7) + 256 * ((c6 + c7) + 256 * c7)))))) := by omega
  refine ⟨by omega, by omega, by omega, by omega⟩
def tN (x : Int64) : Nat := x.toBitVec.toNat
abbrev lus (x : Int64) (k : Int32) : Int64 := (x.toUInt64 >>> (k.toInt64.toUInt64 &&& Int64.toUInt64 63)).toInt64
theorem tN_lus (x : Int64) (k : Int32) (j : Nat) (h : (k.toInt64.toUInt64 &&& Int64.toUInt64 63).toNat % 64 = j) : tN (lus x k) = tN x / 2 ^ j := by
  show (x.toUInt64 >>> (k.toInt64.toUInt64 &&& Int64.toUInt64 63)).toNat = x.toUInt64.toNat / 2 ^ j
  rw [UInt64.toNat_shiftRight, h, Nat.shiftRight_eq_div_pow]
theorem tN_and (x y : Int64) : tN (x &&& y) = tN x &&& tN y := by
  unfold tN
  rw [Int64.toBitVec_and, BitVec.toNat_and]
theorem tN_add {x y : Int64} (h : tN x + tN y < 2 ^ 64) : tN (x + y) = tN x + tN y := by
  unfold tN at h ⊢
  rw [Int64.toBitVec_add, BitVec.toNat_add, Nat.mod_eq_of_lt h]
theorem tN_sub {x y : Int64} (h : tN y ≤ tN x) : tN (x - y) = tN x - tN y := by
  unfold tN at h ⊢
  rw [Int64.toBitVec_sub, BitVec.toNat_sub_of_le h]
theorem tN_lt (x : Int64) : tN x < 2 ^ 64 := x.toBitVec.isLt
def jpop (x : Int64) : Int32 :=
  let x1 := x - (lus x 1 &&& 6148914691236517205)
  let x2 := (x1 &&& 3689348814741910323) + (lus x1 2 &&& 3689348814741910323)
  let x3 := (x2 + lus x2 4) &&& 1085102592571150095
  let x4 := x3 + lus x3 8
  let x5 := x4 + lus x4 16
  let x6 := x5 + lus x5 32
  x6.toInt32 &&& 127
theorem jpop_c (x : Int64) : jpop x = nI (cnt (bt x) 64) := by
  obtain ⟨x1, e1⟩ : ∃ x1, x1 = x - (lus x 1 &&& 6148914691236517205) := ⟨_, rfl⟩
  obtain ⟨x2, e2⟩ : ∃ x2, x2 = (x1 &&& 3689348814741910323) + (lus x1 2 &&& 3689348814741910323) := ⟨_, rfl⟩
  obtain ⟨x3, e3⟩ : ∃ x3, x3 = (x2 + lus x2 4) &&& 1085102592571150095 := ⟨_, rfl⟩
  obtain ⟨x4, e4⟩ : ∃ x4, x4 = x3 + lus x3 8 := ⟨_, rfl⟩
  obtain ⟨x5, e5⟩ : ∃ x5, x5 = x4 + lus x4 16 := ⟨_, rfl⟩
  obtain ⟨x6, e6⟩ : ∃ x6, x6 = x5 + lus x5 32 := ⟨_, rfl⟩
  have hj : jpop x = x6.toInt32 &&& 127 := by rw [e6, e5, e4, e3, e2, e1]; rfl
  have m5 : tN 6148914691236517205 = mk 0x55 8 := by decide +kernel
  have m3 : tN 3689348814741910323 = mk 0x33 8 := by decide +kernel
  have mf : tN 1085102592571150095 = mk 0x0f 8 := by decide +kernel
  have n1 : tN x1 = g1 8 (tN x) := by
    have h1 : tN (lus x 1 &&& 6148914691236517205) = (tN x / 2) &&& mk 0x55 8 := by rw [tN_and, tN_lus x 1 1 (by decide), m5]
    rw [e1, tN_sub (by rw [h1]; exact Nat.le_trans Nat.and_le_left (Nat.div_le_self _ _)), h1]
    rfl
  have b3 : mk 0x33 8 < 2 ^ 62 := by decide +kernel
  have n2 : tN x2 = g2 8 (tN x1) ∧ tN x2 < 2 ^ 63 := by
    have h1 : tN (lus x1 2 &&& 3689348814741910323) = (tN x1 / 4) &&& mk 0x33 8 := by rw [tN_and, tN_lus x1 2 2 (by decide), m3]
    have h2 : tN (x1 &&& 3689348814741910323) = tN x1 &&& mk 0x33 8 := by rw [tN_and, m3]
    have h3 : tN x1 &&& mk 0x33 8 ≤ mk 0x33 8 := Nat.and_le_right
    have h4 : (tN x1 / 4) &&& mk 0x33 8 ≤ mk 0x33 8 := Nat.and_le_right
    rw [e2, tN_add (by rw [h1, h2]; omega), h1, h2]
    exact ⟨rfl, by omega⟩
  have n3 : tN x3 = g3 8 (tN x2) := by
    have h1 : tN (lus x2 4) = tN x2 / 16 := tN_lus x2 4 4 (by decide)
    rw [e3, tN_and, mf, tN_add (by rw [h1]; have := n2.2; omega), h1]
    rfl
  have hg := (g_all 8 (tN x) (tN_lt x)).1
  rw [← n1, ← n2.1, ← n3] at hg
  obtain ⟨s1, s2, s3, s4⟩ := sum8 (tN x) (tN x3) _ _ _ hg rfl rfl rfl
  have l4 : tN (lus x3 8) = tN x3 / 256 := tN_lus x3 8 8 (by decide)
  have n4 : tN x4 = tN x3 + tN x3 / 256 := by rw [e4, tN_add (by rw [l4]; omega), l4]
  have l5 : tN (lus x4 16) = tN x4 / 65536 := tN_lus x4 16 16 (by decide)
  have n5 : tN x5 = tN x4 + tN x4 / 65536 := by rw [e5, tN_add (by rw [l5, n4]; omega), l5]
  have l6 : tN (lus x5 32) = tN x5 / 4294967296 := tN_lus x5 32 32 (by decide)
  have n6 : tN x6 = tN x5 + tN x5 / 4294967296 := by rw [e6, tN_add (by rw [l6, n5, n4]; omega), l6]
  rw [← n4, ← n5, ← n6] at s1
  have hc : sm 8 (tN x) = cnt (bt x) 64 := sm_c 8 (tN x)
  rw [hj]
  refine Int32.toBitVec_inj.1 (BitVec.eq_of_toNat_eq ?_)
  rw [Int32.toBitVec_and, BitVec.toNat_and, Int64.toBitVec_toInt32, BitVec.signExtend_eq_setWidth_of_le _ (by decide), BitVec.toNat_setWidth]
  have h127 : (127 : Int32).toBitVec.toNat = 2 ^ 7 - 1 := by decide
  rw [h127, Nat.and_two_pow_sub_one_eq_mod]
  show tN x6 % 2 ^ 32 % 2 ^ 7 = (BitVec.ofNat 32 (cnt (bt x) 64)).toNat
  rw [BitVec.toNat_ofNat, ← hc]
  omega
