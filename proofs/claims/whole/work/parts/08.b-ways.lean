/-! ALL WAYS, WITH A STACK OF ONE'S OWN -/
noncomputable def vst (go : Option Nat) (x : Nat) (q c : Int32) (w : List Nat) (U : jB × Int32) : jB × Int32 := match go with
  | none => (ofr U.1 x q c w, U.2)
  | some b => (U.1, if x = b ∧ U.2 < q then q else U.2)
noncomputable def cmb (S : jS) (go : Option Nat) : Nat → Nat → List Nat → Int32 → Int32 → List Nat → jB × Int32 → jB × Int32
  | 0, _, _, _, _, _, U => U
  | n + 1, x, vis, q, c, w, U => (List.range (sn S 1)).foldl (fun U k => if okb S k x vis = true then cmb S go n (tO S k) (tO S k :: vis) (stQ S k q) (c + sf S 4 k) (w ++ [k]) U else U) (vst go x q c w U)
noncomputable def cf (S : jS) (go : Option Nat) (n x : Nat) (vis : List Nat) (q c : Int32) (w : List Nat) (U : jB × Int32) (m : Nat) : jB × Int32 := (List.range m).foldl (fun U k => if okb S k x vis = true then cmb S go n (tO S k) (tO S k :: vis) (stQ S k q) (c + sf S 4 k) (w ++ [k]) U else U) U
section CMB
variable {S : jS} {go : Option Nat} {n x : Nat} {vis : List Nat} {q c : Int32} {w : List Nat} {U : jB × Int32}
theorem cmb_e : cmb S go (n + 1) x vis q c w U = cf S go n x vis q c w (vst go x q c w U) (sn S 1) := rfl
theorem cf_s (m : Nat) : cf S go n x vis q c w U (m + 1) = if okb S m x vis = true then cmb S go n (tO S m) (tO S m :: vis) (stQ S m q) (c + sf S 4 m) (w ++ [m]) (cf S go n x vis q c w U m) else cf S go n x vis q c w U m := by
  unfold cf
  rw [List.range_succ, List.foldl_append]
  rfl
theorem cf_sk {j k : Nat} (hjk : j ≤ k) (h : ∀ i, j ≤ i → i < k → ¬ okb S i x vis = true) : cf S go n x vis q c w U k = cf S go n x vis q c w U j := by
  induction k with
  | zero => rw [Nat.le_zero.mp hjk]
  | succ k ih =>
    by_cases e : j = k + 1
    · rw [e]
    · rw [cf_s, if_neg (h k (by omega) (Nat.lt_succ_self k))]
      exact ih (by omega) (fun i h1 h2 => h i h1 (by omega))
end CMB
theorem cmb_none (S : jS) : ∀ (n x : Nat) (vis : List Nat) (q c : Int32) (w : List Nat) (U : jB × Int32), cmb S none n x vis q c w U = (dfs S n x vis q c w U.1, U.2)
  | 0, _, _, _, _, _, _ => rfl
  | n + 1, x, vis, q, c, w, U => by
    have h : ∀ m, (List.range m).foldl (fun U k => if okb S k x vis = true then cmb S none n (tO S k) (tO S k :: vis) (stQ S k q) (c + sf S 4 k) (w ++ [k]) U else U) (ofr U.1 x q c w, U.2) = ((List.range m).foldl (fun T k => if okb S k x vis = true then dfs S n (ix (sf S 2 k)) (ix (sf S 2 k) :: vis) (stQ S k q) (c + sf S 4 k) (w ++ [k]) T else T) (ofr U.1 x q c w), U.2) := by
      intro m
      induction m with
      | zero => rfl
      | succ m ih =>
        rw [List.range_succ, List.foldl_append, List.foldl_append, ih]
        simp only [List.foldl_cons, List.foldl_nil]
        split
        · rw [cmb_none S n]
        · rfl
    exact h (sn S 1)
theorem cmb_some (S : jS) (b : Nat) : ∀ (n x : Nat) (vis : List Nat) (q c : Int32) (w : List Nat) (U : jB × Int32), cmb S (some b) n x vis q c w U = (U.1, gq S b n x vis q U.2)
  | 0, _, _, _, _, _, _ => rfl
  | n + 1, x, vis, q, c, w, U => by
    have h : ∀ m, (List.range m).foldl (fun U k => if okb S k x vis = true then cmb S (some b) n (tO S k) (tO S k :: vis) (stQ S k q) (c + sf S 4 k) (w ++ [k]) U else U) (U.1, if x = b ∧ U.2 < q then q else U.2) = (U.1, (List.range m).foldl (fun m k => if okb S k x vis = true then gq S b n (ix (sf S 2 k)) (ix (sf S 2 k) :: vis) (stQ S k q) m else m) (if x = b ∧ U.2 < q then q else U.2)) := by
      intro m
      induction m with
      | zero => rfl
      | succ m ih =>
        rw [List.range_succ, List.foldl_append, List.foldl_append, ih]
        simp only [List.foldl_cons, List.foldl_nil]
        split
        · rw [cmb_some S b n]
        · rfl
    exact h (sn S 1)
theorem php : ∀ (n : Nat) (l : List Nat), l.Nodup → (∀ x ∈ l, x < n) → l.length ≤ n
  | 0, l, _, h => by
    cases l with
    | nil => exact Nat.le_refl 0
    | cons x l => exact absurd (h x List.mem_cons_self) (Nat.not_lt_zero x)
  | n + 1, l, hn, h => by
    by_cases e : n ∈ l
    · have h1 := php n (l.erase n) (hn.erase n) (fun x hx => by
        have h2 := (hn.mem_erase_iff).mp hx
        have := h x h2.2
        omega)
      rw [List.length_erase_of_mem e] at h1
      omega
    · have h1 := php n l hn (fun x hx => by
        have := h x hx
        have : x ≠ n := fun q => e (q ▸ hx)
        omega)
      omega
theorem okw_nd {S : jS} (hW : sW S) {b : Nat} : ∀ (w : List Nat) {a : Nat} {vis : List Nat}, okw S a vis w b → vis.Nodup → (∀ x ∈ vis, x < 10) → (vs S vis w).Nodup ∧ ∀ x ∈ vs S vis w, x < 10
  | [], _, _, _, h1, h2 => ⟨h1, h2⟩
  | k :: w, a, vis, h, h1, h2 => by
    rw [vs_cons]
    refine okw_nd hW w h.2.2 (List.nodup_cons.mpr ⟨h.2.1.2.2, h1⟩) (fun x hx => ?_)
    rcases List.mem_cons.mp hx with rfl | hx
    · obtain ⟨u, hu, eu⟩ := (hW.2.1 k h.1).2.1
      unfold tO
      rw [eu, ix_nI (by omega)]
      exact hu
    · exact h2 x hx
/-- no way is longer than nine converters -/
theorem okw_9 {S : jS} (hW : sW S) {a x c : Nat} {w : List Nat} (ha : a < 10) (hw : okw S a [a] w x) (hc : c < sn S 1) (ho : okc S c x (vs S [a] w)) : w.length < 9 := by
  have h1 := okw_snoc hw hc ho
  obtain ⟨h2, h3⟩ := okw_nd hW (w ++ [c]) h1 (List.nodup_cons.mpr ⟨List.not_mem_nil, List.nodup_nil⟩) (fun y hy => by rw [List.mem_singleton.mp hy]; exact ha)
  have h4 := php 10 _ h2 h3
  have h5 : (vs S [a] (w ++ [c])).length = w.length + 2 := by simp [vs]
  omega
/-- what a search from a depth on may write -/
def zQ (go : Option Nat) (a d kd _y z : Nat) : Prop := (go = none ∧ tQ a kd z) ∨ ((kd = 44 ∨ kd = 45 ∨ kd = 46 ∨ kd = 47 ∨ kd = 48) ∧ d ≤ z) ∨ kd = 49
theorem zQ_g {go : Option Nat} {a d kd y z : Nat} (h : zQ go a d kd y z) : gQ kd y z := by
  unfold zQ tQ at h
  unfold gQ
  omega
theorem zQ_d {go : Option Nat} {a d e kd y z : Nat} (hd : d ≤ e) (h : zQ go a e kd y z) : zQ go a d kd y z := by
  exact h.imp id (fun h => h.imp (fun h => ⟨h.1, Nat.le_trans hd h.2⟩) id)
theorem pQ_t {a b kd y z : Nat} (hb : b < 10) (h : pQ a b kd y z) : tQ a kd z := by
  unfold pQ at h
  unfold tQ
  omega
