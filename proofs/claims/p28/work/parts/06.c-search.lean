/-! THE SEARCH, CONVERTER BY CONVERTER -/
theorem fr_find (p : Nat → Bool) : ∀ (n j : Nat), (∀ k, (List.range' j n).find? p = some k → j ≤ k ∧ k < j + n ∧ p k = true ∧ ∀ i, j ≤ i → i < k → p i = false) ∧ ((List.range' j n).find? p = none → ∀ i, j ≤ i → i < j + n → p i = false)
  | 0, j => ⟨fun k h => (by cases h), fun _ i h1 h2 => (by omega)⟩
  | n + 1, j => by
    obtain ⟨h1, h2⟩ := fr_find p n (j + 1)
    rw [List.range'_succ, List.find?_cons]
    cases hp : p j with
    | true =>
      refine ⟨fun k h => ?_, fun h => (by cases h)⟩
      cases h
      exact ⟨Nat.le_refl _, by omega, hp, fun i h3 h4 => by omega⟩
    | false =>
      refine ⟨fun k h => ?_, fun h i h3 h4 => ?_⟩
      · obtain ⟨a1, a2, a3, a4⟩ := h1 k h
        refine ⟨by omega, by omega, a3, fun i h3 h4 => ?_⟩
        by_cases e : i = j
        · rw [e]; exact hp
        · exact a4 i (by omega) h4
      · by_cases e : i = j
        · rw [e]; exact hp
        · exact h2 h i (by omega) (by omega)
theorem nxt_s {S : jS} {a j k : Nat} (h : nxt S a j = some k) : j ≤ k ∧ k < sn S 1 ∧ sf S 1 k = nI a ∧ ∀ i, j ≤ i → i < k → ¬ sf S 1 i = nI a := by
  obtain ⟨a1, a2, a3, a4⟩ := (fr_find _ _ j).1 k h
  exact ⟨a1, by omega, of_decide_eq_true a3, fun i h1 h2 => of_decide_eq_false (a4 i h1 h2)⟩
theorem nxt_n {S : jS} {a j : Nat} (h : nxt S a j = none) : ∀ i, j ≤ i → i < sn S 1 → ¬ sf S 1 i = nI a := fun i h1 h2 => of_decide_eq_false ((fr_find _ _ j).2 h i h1 (by omega))
/-- the formats of a way, as bits -/
def hb (m : Int32) (v : List Nat) : Prop := ∀ j, j < 10 → (m &&& (1 <<< (nI j &&& 31)) = 0 ↔ j ∉ v)
theorem bit_ij : ∀ i, i < 10 → ∀ j, j < 10 → (((1 : Int32) <<< (nI i &&& 31)) &&& (1 <<< (nI j &&& 31)) = 0 ↔ ¬ j = i) := by decide +kernel
theorem hb_1 {a : Nat} (ha : a < 10) : hb (1 <<< (nI a &&& 31)) [a] := fun j hj => by rw [bit_ij a ha j hj, List.mem_singleton]
theorem or_and (x y z : Int32) : (x ||| y) &&& z = (x &&& z) ||| (y &&& z) := by
  refine Int32.toBitVec_inj.1 ?_
  simp only [Int32.toBitVec_and, Int32.toBitVec_or]
  refine BitVec.eq_of_getLsbD_eq (fun i hi => ?_)
  simp only [BitVec.getLsbD_and, BitVec.getLsbD_or]
  cases x.toBitVec.getLsbD i <;> cases y.toBitVec.getLsbD i <;> cases z.toBitVec.getLsbD i <;> rfl
theorem hb_c {m : Int32} {v : List Nat} (h : hb m v) {i : Nat} (hi : i < 10) : hb (m ||| (1 <<< (nI i &&& 31))) (i :: v) := by
  intro j hj
  rw [or_and, Int32.or_eq_zero_iff, h j hj, bit_ij i hi j hj, List.mem_cons]
  exact ⟨fun q1 q2 => q2.elim q1.2 q1.1, fun q => ⟨fun q2 => q (Or.inr q2), fun q2 => q (Or.inl q2)⟩⟩
noncomputable def fd (S : jS) (n x : Nat) (vis : List Nat) (q c : Int32) (w : List Nat) (T : jB) (m : Nat) : jB := (List.range m).foldl (fun T k => if okb S k x vis = true then (if kp T (tO S k) (stQ S k q) (c + sf S 4 k) (w.length + 1) = true then srch kp S n (tO S k) (tO S k :: vis) (stQ S k q) (c + sf S 4 k) (w ++ [k]) (ofr T (tO S k) (stQ S k q) (c + sf S 4 k) (w ++ [k])) else T) else T) T
section FD
variable {S : jS} {n x : Nat} {vis : List Nat} {q c : Int32} {w : List Nat} {T : jB}
theorem fd_N : srch kp S (n + 1) x vis q c w T = fd S n x vis q c w T (sn S 1) := rfl
theorem fd_s (m : Nat) : fd S n x vis q c w T (m + 1) = if okb S m x vis = true then (if kp (fd S n x vis q c w T m) (tO S m) (stQ S m q) (c + sf S 4 m) (w.length + 1) = true then srch kp S n (tO S m) (tO S m :: vis) (stQ S m q) (c + sf S 4 m) (w ++ [m]) (ofr (fd S n x vis q c w T m) (tO S m) (stQ S m q) (c + sf S 4 m) (w ++ [m])) else fd S n x vis q c w T m) else fd S n x vis q c w T m := by
  unfold fd
  rw [List.range_succ, List.foldl_append]
  rfl
theorem fd_no {m : Nat} (h : ¬ okc S m x vis) : fd S n x vis q c w T (m + 1) = fd S n x vis q c w T m := by rw [fd_s, if_neg (fun q => h (okb_iff.mp q))]
theorem fd_kn {m : Nat} (h : okc S m x vis) (h2 : ¬ kp (fd S n x vis q c w T m) (tO S m) (stQ S m q) (c + sf S 4 m) (w.length + 1) = true) : fd S n x vis q c w T (m + 1) = fd S n x vis q c w T m := by rw [fd_s, if_pos (okb_iff.mpr h), if_neg h2]
theorem fd_ky {m : Nat} (h : okc S m x vis) (h2 : kp (fd S n x vis q c w T m) (tO S m) (stQ S m q) (c + sf S 4 m) (w.length + 1) = true) : fd S n x vis q c w T (m + 1) = srch kp S n (tO S m) (tO S m :: vis) (stQ S m q) (c + sf S 4 m) (w ++ [m]) (ofr (fd S n x vis q c w T m) (tO S m) (stQ S m q) (c + sf S 4 m) (w ++ [m])) := by rw [fd_s, if_pos (okb_iff.mpr h), if_pos h2]
theorem fd_sk {j k : Nat} (hjk : j ≤ k) (h : ∀ i, j ≤ i → i < k → ¬ sf S 1 i = nI x) : fd S n x vis q c w T k = fd S n x vis q c w T j := by
  induction k with
  | zero => rw [Nat.le_zero.mp hjk]
  | succ k ih =>
    by_cases e : j = k + 1
    · rw [e]
    · rw [fd_no (fun q => h k (by omega) (Nat.lt_succ_self k) q.2.1)]
      exact ih (by omega) (fun i h1 h2 => h i h1 (by omega))
end FD
theorem fd_inv {S : jS} (hW : sW S) {a n x : Nat} {w : List Nat} {T : jB} (hw : okw S a [a] w x) (hl : w.length + (n + 1) ≤ 9) (hT : tInv S a T (w ++ [0])) : ∀ m, m ≤ sn S 1 → tInv S a (fd S n x (vs S [a] w) (nI (qN S w 1000)) (nI (cN S w 0)) w T m) (w ++ [m])
  | 0, _ => hT
  | m + 1, hm => by
    have hU := fd_inv hW hw hl hT m (by omega)
    have hup := tInv_up hU (fun v h => lx_up h (Nat.le_succ m))
    rw [fd_s]
    split
    · rename_i ho
      have ho := okb_iff.mp ho
      have hmN : m < sn S 1 := hm
      have h1 : okw S a [a] (w ++ [m]) (tO S m) := okw_snoc hw hmN ho
      have hl1 : (w ++ [m]).length + n ≤ 9 := by rw [List.length_append]; show w.length + 1 + n ≤ 9; omega
      rw [(nx_q hW hmN).1, (nx_q hW hmN).2]
      split
      · have h2 := srch_inv kp hW n (tO S m) (w ++ [m]) _ h1 hl1 (tInv_ofr (b := tO S m) (tInv_up hU (fun v h => lx_tr h (lx_ap (w ++ [m]) 0))) ⟨h1, by omega⟩ (lx_ap (w ++ [m]) 0))
        rw [vs_snoc] at h2
        refine tInv_up h2 (fun v h => lx_tr h ?_)
        rw [List.append_assoc]
        exact lx_sn w _ (Nat.lt_succ_self m)
      · exact hup
    · exact hup
/-- an entry of the table -/
theorem tInv_e {S : jS} (hW : sW S) {a b : Nat} {T : jB} {cur : List Nat} (h : tInv S a T cur) (e : Int32 × Int32 × List Nat) (he : T b = some e) : e.1 ≠ -1 ∧ e.2.2.length ≤ 9 := by
  obtain ⟨w, rfl, hv, -⟩ := h b e he
  obtain ⟨b1, -, b3, -⟩ := vl_b hW hv
  refine ⟨fun q => ?_, b3⟩
  have e1 : nI (qN S w 1000) = -1 := q
  have e2 := congrArg Int32.toInt e1
  rw [nI_toInt (by omega)] at e2
  have e3 : ((-1 : Int32)).toInt = -1 := by decide
  rw [e3] at e2
  omega
theorem trl_sn {μ : jM} {w : List Nat} {k : Nat} (h : trl μ w) : trl (sI μ 9 0 w.length (nI k)) (w ++ [k]) := by
  intro i hi
  rw [List.length_append] at hi
  have hi : i < w.length + 1 := hi
  by_cases e : i = w.length
  · subst e
    rw [mI_sI_s]
    simp
  · rw [mI_sI_n _ _ _ _ _ (by omega), h i (by omega)]
    have hlt : i < w.length := by omega
    simp [List.getD, List.getElem?_append, hlt]
theorem trl_up {μ : jM} {w : List Nat} {k : Nat} (h : trl μ (w ++ [k])) : trl μ w := by
  intro i hi
  rw [h i (by rw [List.length_append]; show i < w.length + 1; omega)]
  simp [List.getD, List.getElem?_append, hi]
