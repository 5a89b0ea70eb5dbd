/-! WAYS, BY NUMBERS: every search that leaves out no more than what is behind another way finds the same best ways -/
abbrev tO (S : jS) (k : Nat) : Nat := ix (sf S 2 k)
/-- a way from a format to another one, with the formats that it has been at -/
def okw (S : jS) : Nat → List Nat → List Nat → Nat → Prop
  | a, _, [], b => a = b
  | a, vis, k :: w, b => k < sn S 1 ∧ okc S k a vis ∧ okw S (tO S k) (tO S k :: vis) w b
def vs (S : jS) (vis : List Nat) (w : List Nat) : List Nat := (w.map (tO S)).reverse ++ vis
def qS (S : jS) (k u : Nat) : Nat := u * (1000 - ix (sf S 3 k)) / 1000
def qN (S : jS) (w : List Nat) (u : Nat) : Nat := w.foldl (fun u k => qS S k u) u
def cN (S : jS) (w : List Nat) (u : Nat) : Nat := w.foldl (fun u k => u + ix (sf S 4 k)) u
def cd (w : List Nat) (x : Nat) : Nat := w.foldl (fun x k => 30 * x + k) x
def ky (S : jS) (w : List Nat) : Nat := ((1000 - qN S w 1000) * 1000 + cN S w 0) * 10 + w.length
def mW (S : jS) (w : List Nat) : Nat := ky S w * 19683000000000 + cd w 0
def vl (S : jS) (a b : Nat) (w : List Nat) : Prop := okw S a [a] w b ∧ w.length ≤ 9
def ent (S : jS) (w : List Nat) : Int32 × Int32 × List Nat := (nI (qN S w 1000), nI (cN S w 0), w)
def wins (S : jS) (a b : Nat) (w : List Nat) : Prop := vl S a b w ∧ ∀ v, vl S a b v → mW S w ≤ mW S v
theorem stQ_N {S : jS} (hW : sW S) {k : Nat} (hk : k < sn S 1) {u : Nat} (hu : u ≤ 1000) : stQ S k (nI u) = nI (qS S k u) := by
  obtain ⟨lo, hlo, e⟩ := (hW.2.1 k hk).2.2.1
  unfold stQ qS
  rw [e, ix_nI (by omega)]
  have h1 : u * (1000 - lo) ≤ 1000 * 1000 := Nat.mul_le_mul hu (by omega)
  show nI u * (nI 1000 - nI lo) / nI 1000 = _
  rw [show nI 1000 - nI lo = nI (1000 - lo) from (Int32.ofNat_sub _ _ (by omega)).symm, pk_mul]
  exact (Int32.ofNat_div (by omega) (by omega)).symm
theorem qS_le (S : jS) (k u : Nat) : qS S k u ≤ u := by
  unfold qS
  refine Nat.div_le_of_le_mul ?_
  rw [Nat.mul_comm 1000]
  exact Nat.mul_le_mul_left u (by omega)
theorem qS_mono (S : jS) (k : Nat) {u v : Nat} (h : u ≤ v) : qS S k u ≤ qS S k v := Nat.div_le_div_right (Nat.mul_le_mul_right _ h)
theorem qN_le (S : jS) : ∀ (w : List Nat) (u : Nat), qN S w u ≤ u
  | [], _ => Nat.le_refl _
  | k :: w, u => Nat.le_trans (qN_le S w (qS S k u)) (qS_le S k u)
theorem qN_mono (S : jS) : ∀ (w : List Nat) {u v : Nat}, u ≤ v → qN S w u ≤ qN S w v
  | [], _, _, h => h
  | k :: w, _, _, h => qN_mono S w (qS_mono S k h)
theorem cN_mono (S : jS) : ∀ (w : List Nat) {u v : Nat}, u ≤ v → cN S w u ≤ cN S w v
  | [], _, _, h => h
  | _ :: w, _, _, h => cN_mono S w (Nat.add_le_add_right h _)
theorem cN_ge (S : jS) : ∀ (w : List Nat) (u : Nat), u ≤ cN S w u
  | [], _ => Nat.le_refl _
  | _ :: w, u => Nat.le_trans (Nat.le_add_right _ _) (cN_ge S w _)
theorem qN_app (S : jS) (v w : List Nat) (u : Nat) : qN S (v ++ w) u = qN S w (qN S v u) := List.foldl_append
theorem cN_app (S : jS) (v w : List Nat) (u : Nat) : cN S (v ++ w) u = cN S w (cN S v u) := List.foldl_append
theorem cd_app (v w : List Nat) (u : Nat) : cd (v ++ w) u = cd w (cd v u) := List.foldl_append
theorem vs_snoc (S : jS) (vis w : List Nat) (k : Nat) : vs S vis (w ++ [k]) = tO S k :: vs S vis w := by simp [vs]
theorem vs_cons (S : jS) (vis w : List Nat) (k : Nat) : vs S vis (k :: w) = vs S (tO S k :: vis) w := by simp [vs]
theorem okw_app {S : jS} {b : Nat} : ∀ (w : List Nat) {a x : Nat} {vis z : List Nat}, okw S a vis w x → okw S x (vs S vis w) z b → okw S a vis (w ++ z) b
  | [], a, x, vis, z, h, h2 => by
    cases h
    exact h2
  | k :: w, a, x, vis, z, h, h2 => ⟨h.1, h.2.1, okw_app w h.2.2 (by rw [← vs_cons]; exact h2)⟩
theorem okw_snoc {S : jS} {w : List Nat} {a x k : Nat} {vis : List Nat} (h : okw S a vis w x) (hk : k < sn S 1) (ho : okc S k x (vs S vis w)) : okw S a vis (w ++ [k]) (tO S k) := okw_app w h ⟨hk, ho, rfl⟩
/-- a way's part up to one of its formats -/
theorem okw_cut {S : jS} {x y : Nat} : ∀ (w : List Nat) {a : Nat} {vis : List Nat}, okw S a vis w x → y ∈ vs S vis w → y ∈ vis ∨ ∃ w1 w2, w = w1 ++ w2 ∧ okw S a vis w1 y
  | [], a, vis, _, hy => Or.inl hy
  | k :: w, a, vis, h, hy => by
    rw [vs_cons] at hy
    rcases okw_cut w h.2.2 hy with h1 | ⟨w1, w2, e, h1⟩
    · rcases List.mem_cons.mp h1 with rfl | h1
      · exact Or.inr ⟨[k], w, rfl, h.1, h.2.1, rfl⟩
      · exact Or.inl h1
    · exact Or.inr ⟨k :: w1, w2, by rw [e]; rfl, h.1, h.2.1, h1⟩
theorem okw_split {S : jS} {b : Nat} : ∀ (w : List Nat) {a : Nat} {vis z : List Nat}, okw S a vis (w ++ z) b → ∃ x, okw S a vis w x ∧ okw S x (vs S vis w) z b
  | [], a, _, _, h => ⟨a, rfl, h⟩
  | k :: w, a, vis, z, h => by
    obtain ⟨x, h1, h2⟩ := okw_split w h.2.2
    exact ⟨x, ⟨h.1, h.2.1, h1⟩, by rw [vs_cons]; exact h2⟩
theorem okw_end {S : jS} {b b2 : Nat} : ∀ (w : List Nat) {a : Nat} {vis : List Nat}, okw S a vis w b → okw S a vis w b2 → b = b2
  | [], _, _, h, h2 => h.symm.trans h2
  | _ :: w, _, _, h, h2 => okw_end w h.2.2 h2.2.2
theorem okw_lt {S : jS} {b : Nat} : ∀ (w : List Nat) {a : Nat} {vis : List Nat}, okw S a vis w b → ∀ k ∈ w, k < sn S 1
  | [], _, _, _, _, hk => by cases hk
  | k :: w, _, _, h, j, hj => by
    rcases List.mem_cons.mp hj with rfl | hj
    · exact h.1
    · exact okw_lt w h.2.2 j hj
/-- behind another way that is no worse -/
theorem dom {S : jS} {a b : Nat} : ∀ (z : List Nat) (x : Nat) (B : List Nat) (u0 : Nat) (vis0 : List Nat), okw S a [a] B x → okw S x vis0 z b → u0 ≤ qN S B 1000 → B.length + z.length ≤ 9 →
    ∃ v, vl S a b v ∧ qN S z u0 ≤ qN S v 1000 ∧ cN S v 0 ≤ cN S z (cN S B 0) ∧ (v = B ++ z ∨ v.length < B.length + z.length)
  | [], x, B, u0, vis0, h, h2, hq, hl => ⟨B, ⟨by cases h2; exact h, hl⟩, hq, Nat.le_refl _, Or.inl (List.append_nil B).symm⟩
  | k :: z, x, B, u0, vis0, h, h2, hq, hl => by
    have hl' : B.length + (z.length + 1) ≤ 9 := hl
    by_cases hm : tO S k ∈ vs S [a] B
    · have hx : ∃ w1 w2, B = w1 ++ w2 ∧ okw S a [a] w1 (tO S k) := by
        rcases okw_cut B h hm with h1 | h1
        · rw [List.mem_singleton] at h1
          exact ⟨[], B, rfl, h1.symm⟩
        · exact h1
      obtain ⟨w1, w2, rfl, h1⟩ := hx
      rw [List.length_append] at hl' ⊢
      have hq2 : qS S k u0 ≤ qN S w1 1000 := by
        refine Nat.le_trans (qS_le S k u0) (Nat.le_trans hq ?_)
        rw [qN_app]
        exact qN_le S w2 _
      obtain ⟨v, v1, v2, v3, v4⟩ := dom z (tO S k) w1 (qS S k u0) _ h1 h2.2.2 hq2 (by omega)
      refine ⟨v, v1, v2, Nat.le_trans v3 ?_, Or.inr ?_⟩
      · refine cN_mono S z (Nat.le_trans ?_ (Nat.le_add_right _ _))
        rw [cN_app]
        exact cN_ge S w2 _
      · rcases v4 with rfl | v4
        · rw [List.length_append, List.length_cons]
          omega
        · rw [List.length_cons]
          omega
    · have h1 : okw S a [a] (B ++ [k]) (tO S k) := okw_snoc h h2.1 ⟨h2.2.1.1, h2.2.1.2.1, hm⟩
      have hq2 : qS S k u0 ≤ qN S (B ++ [k]) 1000 := by
        rw [qN_app]
        exact qS_mono S k hq
      obtain ⟨v, v1, v2, v3, v4⟩ := dom z (tO S k) (B ++ [k]) (qS S k u0) _ h1 h2.2.2 hq2 (by rw [List.length_append]; show B.length + 1 + z.length ≤ 9; omega)
      refine ⟨v, v1, v2, ?_, ?_⟩
      · rw [cN_app] at v3
        exact v3
      · rw [List.append_assoc] at v4
        rw [List.length_append] at v4
        rw [List.length_cons]
        refine v4.imp id (fun q => ?_)
        have q' : v.length < B.length + 1 + z.length := q
        omega
/-! the measure -/
theorem cN_le {S : jS} (hW : sW S) : ∀ (w : List Nat) (u : Nat), (∀ k ∈ w, k < sn S 1) → cN S w u ≤ u + 100 * w.length
  | [], _, _ => Nat.le_refl _
  | k :: w, u, h => by
    obtain ⟨p, hp, e⟩ := (hW.2.1 k (h k List.mem_cons_self)).2.2.2.1
    have h1 := cN_le hW w (u + ix (sf S 4 k)) (fun j hj => h j (List.mem_cons_of_mem _ hj))
    rw [e, ix_nI (by omega)] at h1
    show cN S w (u + ix (sf S 4 k)) ≤ u + 100 * (w.length + 1)
    rw [e, ix_nI (by omega)]
    omega
theorem cd_1 : ∀ (v w : List Nat) (x y : Nat), x < y → v.length = w.length → (∀ k ∈ v, k < 30) → cd v x < cd w y
  | [], [], _, _, h, _, _ => h
  | [], _ :: _, _, _, _, h, _ => by cases h
  | _ :: _, [], _, _, _, h, _ => by cases h
  | k :: v, j :: w, x, y, h, hl, hk => by
    have := hk k List.mem_cons_self
    exact cd_1 v w (30 * x + k) (30 * y + j) (by omega) (Nat.succ.inj hl) (fun i hi => hk i (List.mem_cons_of_mem _ hi))
theorem cd_2 {v w : List Nat} (h : List.Lex (· < ·) v w) : ∀ (x : Nat), v.length = w.length → (∀ k ∈ v, k < 30) → cd v x < cd w x := by
  induction h with
  | nil => intro x hl; cases hl
  | @rel i v j w h =>
    intro x hl hk
    exact cd_1 v w (30 * x + i) (30 * x + j) (by omega) (Nat.succ.inj hl) (fun i hi => hk i (List.mem_cons_of_mem _ hi))
  | @cons i v w h ih =>
    intro x hl hk
    exact ih (30 * x + i) (Nat.succ.inj hl) (fun i hi => hk i (List.mem_cons_of_mem _ hi))
theorem cd_b : ∀ (v : List Nat) (x : Nat), (∀ k ∈ v, k < 30) → cd v x + 1 ≤ (x + 1) * 30 ^ v.length
  | [], x, _ => by simp [cd]
  | k :: v, x, h => by
    have h0 := h k List.mem_cons_self
    refine Nat.le_trans (cd_b v (30 * x + k) (fun i hi => h i (List.mem_cons_of_mem _ hi))) ?_
    rw [List.length_cons, Nat.pow_succ, Nat.mul_comm (30 ^ v.length) 30, ← Nat.mul_assoc]
    exact Nat.mul_le_mul_right _ (by omega)
theorem cd_lt {v : List Nat} (hl : v.length ≤ 9) (h : ∀ k ∈ v, k < 30) : cd v 0 < 19683000000000 := by
  have h1 := cd_b v 0 h
  have h2 : 30 ^ v.length ≤ 30 ^ 9 := Nat.pow_le_pow_right (by decide) hl
  have h3 : (30 : Nat) ^ 9 = 19683000000000 := by decide
  omega
/-- what is known of a way's numbers -/
theorem vl_b {S : jS} (hW : sW S) {a b : Nat} {w : List Nat} (h : vl S a b w) : qN S w 1000 ≤ 1000 ∧ cN S w 0 ≤ 900 ∧ w.length ≤ 9 ∧ cd w 0 < 19683000000000 ∧ ∀ k ∈ w, k < 30 := by
  have h1 := okw_lt w h.1
  have h2 : ∀ k ∈ w, k < 30 := fun k hk => by have := h1 k hk; have := hW.1.2; omega
  have h3 := cN_le hW w 0 h1
  have h4 := h.2
  exact ⟨qN_le S w 1000, by omega, h.2, cd_lt h.2 h2, h2⟩
theorem win_of {S : jS} {a b : Nat} (m : Nat) : ∀ (w : List Nat), vl S a b w → mW S w ≤ m → ∃ W, wins S a b W := by
  induction m with
  | zero => exact fun w h hm => ⟨w, h, fun v _ => Nat.le_trans hm (Nat.zero_le (mW S v))⟩
  | succ m ih =>
    intro w h hm
    by_cases q : ∃ v, vl S a b v ∧ mW S v < mW S w
    · obtain ⟨v, h1, h2⟩ := q
      exact ih v h1 (Nat.le_of_lt_succ (Nat.lt_of_lt_of_le h2 hm))
    · exact ⟨w, h, fun v hv => Nat.not_lt.mp (fun h2 => q ⟨v, hv, h2⟩)⟩
theorem btr_N {w0 : List Nat} {q0 c0 q c n : Nat} (h0 : q0 ≤ 1000) (h1 : c0 ≤ 900) (h2 : q ≤ 1000) (h3 : c ≤ 900) : btr (some (nI q0, nI c0, w0)) (nI q) (nI c) n = true ↔ q0 < q ∨ (q = q0 ∧ (c < c0 ∨ (c = c0 ∧ n < w0.length))) := by
  unfold btr
  simp only [Bool.or_eq_true, Bool.and_eq_true, decide_eq_true_eq, nI_eq (show q < 2 ^ 31 by omega) (show q0 < 2 ^ 31 by omega), nI_eq (show c < 2 ^ 31 by omega) (show c0 < 2 ^ 31 by omega), nI_ltI (show q0 < 2 ^ 31 by omega) (show q < 2 ^ 31 by omega), nI_ltI (show c < 2 ^ 31 by omega) (show c0 < 2 ^ 31 by omega)]
/-- the winner is not beaten -/
theorem win_no {S : jS} (hW : sW S) {a b : Nat} {w v : List Nat} (h : wins S a b w) (hv : vl S a b v) : btr (some (ent S w)) (nI (qN S v 1000)) (nI (cN S v 0)) v.length = false := by
  obtain ⟨b1, b2, b3, b4, -⟩ := vl_b hW h.1
  obtain ⟨d1, d2, d3, d4, -⟩ := vl_b hW hv
  have hm := h.2 v hv
  refine Bool.eq_false_iff.mpr (fun q => ?_)
  have q := (btr_N b1 b2 d1 d2).mp q
  unfold mW ky at hm
  omega
/-- .. and beats what comes before it -/
theorem win_yes {S : jS} (hW : sW S) {a b : Nat} {w v : List Nat} (h : wins S a b w) (hv : vl S a b v) (hx : List.Lex (· < ·) v w) : btr (some (ent S v)) (nI (qN S w 1000)) (nI (cN S w 0)) w.length = true := by
  obtain ⟨b1, b2, b3, b4, -⟩ := vl_b hW h.1
  obtain ⟨d1, d2, d3, d4, d5⟩ := vl_b hW hv
  have hm := h.2 v hv
  refine (btr_N d1 d2 b1 b2).mpr ?_
  by_cases hl : v.length = w.length
  · have := cd_2 hx 0 hl d5
    unfold mW ky at hm
    omega
  · unfold mW ky at hm
    omega
/-! the order -/
theorem lx_tr {u v : List Nat} (h : List.Lex (· < ·) u v) : ∀ {w : List Nat}, List.Lex (· < ·) v w → List.Lex (· < ·) u w := by
  induction h with
  | nil => intro w h2; cases h2 <;> exact List.Lex.nil
  | rel h =>
    intro w h2
    cases h2 with
    | rel h3 => exact List.Lex.rel (Nat.lt_trans h h3)
    | cons h3 => exact List.Lex.rel h
  | cons h ih =>
    intro w h2
    cases h2 with
    | rel h3 => exact List.Lex.rel h3
    | cons h3 => exact List.Lex.cons (ih h3)
theorem lx_sn : ∀ (w v : List Nat) {i j : Nat}, i < j → List.Lex (· < ·) (w ++ i :: v) (w ++ [j])
  | [], _, _, _, h => List.Lex.rel h
  | _ :: w, v, _, _, h => List.Lex.cons (lx_sn w v h)
theorem lx_ap : ∀ (w : List Nat) (i : Nat), List.Lex (· < ·) w (w ++ [i])
  | [], _ => List.Lex.nil
  | _ :: w, i => List.Lex.cons (lx_ap w i)
theorem lx_up {v w : List Nat} {i j : Nat} (h : List.Lex (· < ·) v (w ++ [i])) (hij : i ≤ j) : List.Lex (· < ·) v (w ++ [j]) := by
  rcases Nat.lt_or_eq_of_le hij with h1 | rfl
  · exact lx_tr h (lx_sn w [] h1)
  · exact h
/-! searches -/
noncomputable def srch (K : jB → Nat → Int32 → Int32 → Nat → Bool) (S : jS) : Nat → Nat → List Nat → Int32 → Int32 → List Nat → jB → jB
  | 0, _, _, _, _, _, T => T
  | n + 1, x, vis, q, c, w, T => (List.range (sn S 1)).foldl (fun T k => if okb S k x vis = true then (if K T (tO S k) (stQ S k q) (c + sf S 4 k) (w.length + 1) = true then srch K S n (tO S k) (tO S k :: vis) (stQ S k q) (c + sf S 4 k) (w ++ [k]) (ofr T (tO S k) (stQ S k q) (c + sf S 4 k) (w ++ [k])) else T) else T) T
theorem fold_range {α : Type} (f : α → Nat → α) (P : Nat → α → Prop) {x0 : α} {N : Nat} (h0 : P 0 x0) (hs : ∀ m x, m < N → P m x → P (m + 1) (f x m)) : P N ((List.range N).foldl f x0) := by
  have h : ∀ m, m ≤ N → P m ((List.range m).foldl f x0) := by
    intro m
    induction m with
    | zero => exact fun _ => h0
    | succ m ih =>
      intro hm
      rw [List.range_succ, List.foldl_append]
      exact hs m _ hm (ih (by omega))
  exact h N (Nat.le_refl N)
theorem dfs_srch (S : jS) : ∀ (n x : Nat) (vis : List Nat) (q c : Int32) (w : List Nat) (T : jB), dfs S (n + 1) x vis q c w T = srch (fun _ _ _ _ _ => true) S n x vis q c w (ofr T x q c w)
  | 0, x, vis, q, c, w, T => by
    show (List.range (sn S 1)).foldl _ _ = _
    refine fold_range _ (fun _ U => U = ofr T x q c w) rfl (fun m U _ h => ?_)
    show (if okb S m x vis = true then U else U) = _
    rw [ite_self]
    exact h
  | n + 1, x, vis, q, c, w, T => by
    show (List.range (sn S 1)).foldl _ _ = (List.range (sn S 1)).foldl _ _
    congr 1
    funext U k
    rw [dfs_srch S n, if_pos rfl]
/-- the table's ways -/
def tInv (S : jS) (a : Nat) (T : jB) (cur : List Nat) : Prop := ∀ b e, T b = some e → ∃ w, e = ent S w ∧ vl S a b w ∧ List.Lex (· < ·) w cur
theorem tInv_up {S : jS} {a : Nat} {T : jB} {u v : List Nat} (h : tInv S a T u) (hx : ∀ w, List.Lex (· < ·) w u → List.Lex (· < ·) w v) : tInv S a T v := fun b e he => by
  obtain ⟨w, h1, h2, h3⟩ := h b e he
  exact ⟨w, h1, h2, hx w h3⟩
theorem tInv_ofr {S : jS} {a b : Nat} {T : jB} {cur w : List Nat} (h : tInv S a T cur) (hw : vl S a b w) (hx : List.Lex (· < ·) w cur) : tInv S a (ofr T b (nI (qN S w 1000)) (nI (cN S w 0)) w) cur := by
  intro y e he
  unfold ofr at he
  split at he
  · rename_i q
    cases he
    rw [q.1]
    exact ⟨w, rfl, hw, hx⟩
  · exact h y e he
theorem ofr_keep {S : jS} (hW : sW S) {a b y : Nat} {T : jB} {W w : List Nat} (hw : wins S a b W) (hT : T b = some (ent S W)) (hv : vl S a y w) : ofr T y (nI (qN S w 1000)) (nI (cN S w 0)) w b = some (ent S W) := by
  unfold ofr
  split
  · rename_i q
    obtain ⟨rfl, q⟩ := q
    rw [hT, win_no hW hw hv] at q
    cases q
  · exact hT
section SR
variable {S : jS} {a : Nat} (K : jB → Nat → Int32 → Int32 → Nat → Bool)
/-- one more converter -/
theorem nx_q (hW : sW S) {w : List Nat} {k : Nat} (hk : k < sn S 1) : stQ S k (nI (qN S w 1000)) = nI (qN S (w ++ [k]) 1000) ∧ nI (cN S w 0) + sf S 4 k = nI (cN S (w ++ [k]) 0) := by
  refine ⟨?_, ?_⟩
  · rw [stQ_N hW hk (qN_le S w 1000), qN_app]
    rfl
  · obtain ⟨p, hp, e⟩ := (hW.2.1 k hk).2.2.2.1
    rw [cN_app]
    show _ = nI (cN S w 0 + ix (sf S 4 k))
    rw [e, ix_nI (by omega), nI_add]
theorem srch_inv (hW : sW S) : ∀ (n x : Nat) (w : List Nat) (T : jB), okw S a [a] w x → w.length + n ≤ 9 → tInv S a T (w ++ [0]) → tInv S a (srch K S n x (vs S [a] w) (nI (qN S w 1000)) (nI (cN S w 0)) w T) (w ++ [sn S 1])
  | 0, x, w, T, _, _, hT => tInv_up hT (fun _ h => lx_up h (Nat.zero_le _))
  | n + 1, x, w, T, hw, hl, hT => by
    refine fold_range _ (fun m U => tInv S a U (w ++ [m])) hT (fun m U hm hU => ?_)
    have hup := tInv_up hU (fun v h => lx_up h (Nat.le_succ m))
    split
    · rename_i ho
      have ho := okb_iff.mp ho
      have h1 : okw S a [a] (w ++ [m]) (tO S m) := okw_snoc hw hm ho
      have hl1 : (w ++ [m]).length + n ≤ 9 := by rw [List.length_append]; show w.length + 1 + n ≤ 9; omega
      rw [(nx_q hW hm).1, (nx_q hW hm).2]
      split
      · have h2 := srch_inv hW n (tO S m) (w ++ [m]) _ h1 hl1 (tInv_ofr (b := tO S m) (tInv_up hU (fun v h => lx_tr h (lx_ap (w ++ [m]) 0))) ⟨h1, by omega⟩ (lx_ap (w ++ [m]) 0))
        rw [vs_snoc] at h2
        refine tInv_up h2 (fun v h => lx_tr h ?_)
        rw [List.append_assoc]
        exact lx_sn w _ (Nat.lt_succ_self m)
      · exact hup
    · exact hup
theorem srch_keep (hW : sW S) {b : Nat} {W : List Nat} (hw : wins S a b W) : ∀ (n x : Nat) (w : List Nat) (T : jB), okw S a [a] w x → w.length + n ≤ 9 → T b = some (ent S W) → srch K S n x (vs S [a] w) (nI (qN S w 1000)) (nI (cN S w 0)) w T b = some (ent S W)
  | 0, _, _, _, _, _, hT => hT
  | n + 1, x, w, T, h, hl, hT => by
    refine fold_range _ (fun m (U : jB) => U b = some (ent S W)) hT (fun m U hm hU => ?_)
    split
    · rename_i ho
      have ho := okb_iff.mp ho
      have h1 : okw S a [a] (w ++ [m]) (tO S m) := okw_snoc h hm ho
      have hl1 : (w ++ [m]).length + n ≤ 9 := by rw [List.length_append]; show w.length + 1 + n ≤ 9; omega
      rw [(nx_q hW hm).1, (nx_q hW hm).2]
      split
      · have h2 := srch_keep hW hw n (tO S m) (w ++ [m]) _ h1 hl1 (ofr_keep hW hw hU ⟨h1, by omega⟩)
        rw [vs_snoc] at h2
        exact h2
      · exact hU
    · exact hU
/-- the best way is found -/
theorem srch_find (hW : sW S) (hK : ∀ T b q c n, K T b q c n = false → ∃ q0 c0 w0, T b = some (q0, c0, w0) ∧ q ≤ q0 ∧ c0 ≤ c ∧ w0.length ≤ n) {b : Nat} {W : List Nat} (hw : wins S a b W) : ∀ (n x : Nat) (w : List Nat) (k : Nat) (z : List Nat) (T : jB), okw S a [a] w x → w.length + n ≤ 9 → W = w ++ k :: z → W.length ≤ w.length + n → tInv S a T (w ++ [0]) →
    srch K S n x (vs S [a] w) (nI (qN S w 1000)) (nI (cN S w 0)) w T b = some (ent S W)
  | 0, x, w, k, z, T, h, hl, e, hl2, hT => by
    rw [e, List.length_append, List.length_cons] at hl2
    omega
  | n + 1, x, w, k, z, T, h, hl, e, hl2, hT => by
    obtain ⟨x', g1, g2⟩ := okw_split (S := S) w (e ▸ hw.1.1)
    cases okw_end w h g1
    have hkN : k < sn S 1 := g2.1
    have hgo := fold_range (N := sn S 1) (x0 := T) (fun T k => if okb S k x (vs S [a] w) = true then (if K T (tO S k) (stQ S k (nI (qN S w 1000))) (nI (cN S w 0) + sf S 4 k) (w.length + 1) = true then srch K S n (tO S k) (tO S k :: vs S [a] w) (stQ S k (nI (qN S w 1000))) (nI (cN S w 0) + sf S 4 k) (w ++ [k]) (ofr T (tO S k) (stQ S k (nI (qN S w 1000))) (nI (cN S w 0) + sf S 4 k) (w ++ [k])) else T) else T)
      (fun m (U : jB) => (m ≤ k → tInv S a U (w ++ [m])) ∧ (k < m → U b = some (ent S W))) ⟨fun _ => hT, fun q => absurd q (Nat.not_lt_zero k)⟩ (fun m U hm hU => ?_)
    · exact hgo.2 hkN
    · have hl1 : (w ++ [m]).length + n ≤ 9 := by rw [List.length_append]; show w.length + 1 + n ≤ 9; omega
      rw [(nx_q hW hm).1, (nx_q hW hm).2]
      by_cases ho : okb S m x (vs S [a] w) = true
      · rw [if_pos ho]
        have ho := okb_iff.mp ho
        have h1 : okw S a [a] (w ++ [m]) (tO S m) := okw_snoc h hm ho
        refine ⟨fun hmk => ?_, fun hkm => ?_⟩
        · have hU1 := hU.1 (by omega)
          split
          · have h2 := srch_inv K hW n (tO S m) (w ++ [m]) _ h1 hl1 (tInv_ofr (b := tO S m) (tInv_up hU1 (fun v h => lx_tr h (lx_ap (w ++ [m]) 0))) ⟨h1, by omega⟩ (lx_ap (w ++ [m]) 0))
            rw [vs_snoc] at h2
            refine tInv_up h2 (fun v h => lx_tr h ?_)
            rw [List.append_assoc]
            exact lx_sn w _ (Nat.lt_succ_self m)
          · exact tInv_up hU1 (fun v h => lx_up h (Nat.le_succ m))
        · by_cases hmk : m = k
          · subst hmk
            have hU1 := hU.1 (Nat.le_refl m)
            have hlW : W.length = w.length + (z.length + 1) := by rw [e, List.length_append, List.length_cons]
            have hv1 : vl S a (tO S m) (w ++ [m]) := ⟨h1, by omega⟩
            have hKt : K U (tO S m) (nI (qN S (w ++ [m]) 1000)) (nI (cN S (w ++ [m]) 0)) (w.length + 1) = true := by
              refine Decidable.byContradiction (fun hf => ?_)
              have hf := Bool.eq_false_iff.mpr hf
              obtain ⟨q0, c0, B, t1, t2, t3, t4⟩ := hK _ _ _ _ _ hf
              obtain ⟨B1, eB, hB, hx⟩ := hU1 _ _ t1
              cases eB
              obtain ⟨b1, b2, b3, b4, b5⟩ := vl_b hW hB
              obtain ⟨d1, d2, d3, d4, d5⟩ := vl_b hW hv1
              have t2 := (nI_leI (by omega) (by omega)).mp t2
              have t3 := (nI_leI (by omega) (by omega)).mp t3
              have hw9 := hw.1.2
              obtain ⟨v, v1, v2, v3, v4⟩ := dom z (tO S m) B (qN S (w ++ [m]) 1000) _ hB.1 g2.2.2 t2 (by omega)
              have hm9 := hw.2 v v1
              have eW : W = (w ++ [m]) ++ z := by rw [e, List.append_assoc]; rfl
              have v3 : cN S v 0 ≤ cN S W 0 := Nat.le_trans v3 (by rw [eW, cN_app]; exact cN_mono S z t3)
              have v2 : qN S W 1000 ≤ qN S v 1000 := by rw [eW, qN_app]; exact v2
              obtain ⟨e1, e2, e3, e4, e5⟩ := vl_b hW v1
              obtain ⟨f1, f2, f3, f4, f5⟩ := vl_b hW hw.1
              by_cases hlB : B.length = (w ++ [m]).length
              · have hlB2 : B.length = w.length + 1 := by rw [hlB, List.length_append]; rfl
                rcases v4 with rfl | v4
                · have hc : cd (B ++ z) 0 < cd W 0 := by
                    rw [eW, cd_app, cd_app]
                    exact cd_1 z z _ _ (cd_2 hx 0 hlB b5) rfl (fun i hi => f5 i (by rw [eW]; exact List.mem_append_right _ hi))
                  have hl8 : (B ++ z).length = W.length := by rw [List.length_append]; omega
                  unfold mW ky at hm9
                  omega
                · unfold mW ky at hm9
                  omega
              · have hlB2 : B.length < w.length + 1 := by
                  have : (w ++ [m]).length = w.length + 1 := by rw [List.length_append]; rfl
                  omega
                have hl8 : v.length < W.length := by
                  rcases v4 with rfl | v4
                  · rw [List.length_append]
                    omega
                  · omega
                unfold mW ky at hm9
                omega
            rw [if_pos hKt]
            cases z with
            | nil =>
              have eW : W = w ++ [m] := e
              have hb : tO S m = b := okw_end _ h1 (eW ▸ hw.1.1)
              have h4 : btr (U (tO S m)) (nI (qN S (w ++ [m]) 1000)) (nI (cN S (w ++ [m]) 0)) (w ++ [m]).length = true := by
                cases hq : U (tO S m) with
                | none => rfl
                | some e0 =>
                  obtain ⟨v, rfl, hv, hx⟩ := hU1 _ _ hq
                  rw [hb] at hv
                  rw [← eW]
                  exact win_yes hW hw hv (eW ▸ hx)
              have h3 : ofr U (tO S m) (nI (qN S (w ++ [m]) 1000)) (nI (cN S (w ++ [m]) 0)) (w ++ [m]) b = some (ent S W) := by
                unfold ofr
                rw [if_pos ⟨hb.symm, h4⟩, eW]
                rfl
              have h2 := srch_keep K hW hw n (tO S m) (w ++ [m]) _ h1 hl1 h3
              rw [vs_snoc] at h2
              exact h2
            | cons k2 z2 =>
              have h2 := srch_find hW hK hw n (tO S m) (w ++ [m]) k2 z2 _ h1 hl1 (by rw [e, List.append_assoc]; rfl) (by rw [List.length_append]; show W.length ≤ w.length + 1 + n; omega) (tInv_ofr (b := tO S m) (tInv_up hU1 (fun v h => lx_tr h (lx_ap (w ++ [m]) 0))) hv1 (lx_ap (w ++ [m]) 0))
              rw [vs_snoc] at h2
              exact h2
          · have hU2 := hU.2 (by omega)
            split
            · have h2 := srch_keep K hW hw n (tO S m) (w ++ [m]) _ h1 hl1 (ofr_keep hW hw hU2 ⟨h1, by omega⟩)
              rw [vs_snoc] at h2
              exact h2
            · exact hU2
      · rw [if_neg ho]
        refine ⟨fun hmk => tInv_up (hU.1 (by omega)) (fun v h => lx_up h (Nat.le_succ m)), fun hkm => ?_⟩
        by_cases hmk : m = k
        · subst hmk
          exact absurd (okb_iff.mpr g2.2.1) ho
        · exact hU.2 (by omega)
end SR
/-- the best ways -/
noncomputable def wt (S : jS) (a : Nat) : jB := fun b => @dite _ (∃ w, wins S a b w) (Classical.propDecidable _) (fun h => some (ent S (Classical.choose h))) (fun _ => none)
theorem wt_some {S : jS} {a b : Nat} (h : ∃ w, wins S a b w) : ∃ w, wins S a b w ∧ wt S a b = some (ent S w) := ⟨Classical.choose h, Classical.choose_spec h, dif_pos h⟩
theorem wt_none {S : jS} {a b : Nat} (h : ¬ ∃ w, wins S a b w) : wt S a b = none := dif_neg h
theorem srch_wt {S : jS} (hW : sW S) (a : Nat) (K : jB → Nat → Int32 → Int32 → Nat → Bool) (hK : ∀ T b q c n, K T b q c n = false → ∃ q0 c0 w0, T b = some (q0, c0, w0) ∧ q ≤ q0 ∧ c0 ≤ c ∧ w0.length ≤ n) :
    srch K S 9 a [a] 1000 0 [] (ofr (fun _ => none) a 1000 0 []) = wt S a := by
  have hv : vl S a a [] := ⟨rfl, Nat.zero_le _⟩
  have hT : tInv S a (ofr (fun _ => none) a (nI (qN S [] 1000)) (nI (cN S [] 0)) []) ([] ++ [0]) := tInv_ofr (T := fun _ => none) (fun b e he => by cases he) hv List.Lex.nil
  have hI := srch_inv K hW 9 a [] _ rfl (Nat.le_refl 9) hT
  funext b
  by_cases h : ∃ w, wins S a b w
  · obtain ⟨W, hw, e⟩ := wt_some h
    rw [e]
    cases W with
    | nil =>
      obtain rfl : a = b := hw.1.1
      exact srch_keep K hW hw 9 a [] _ rfl (Nat.le_refl 9) (if_pos ⟨rfl, rfl⟩)
    | cons k z => exact srch_find K hW hK hw 9 a [] k z _ rfl (Nat.le_refl 9) rfl (by have := hw.1.2; simp only [List.length_nil]; omega) hT
  · rw [wt_none h]
    cases hq : srch K S 9 a [a] 1000 0 [] (ofr (fun _ => none) a 1000 0 []) b with
    | none => rfl
    | some e =>
      obtain ⟨w, -, hv, -⟩ := hI b e hq
      exact absurd (win_of _ w hv (Nat.le_refl _)) h
theorem best_wt {S : jS} (hW : sW S) (a : Nat) : best S a = wt S a := (dfs_srch S 9 a [a] 1000 0 [] _).trans (srch_wt hW a _ (fun _ _ _ _ _ h => by cases h))
/-- does the class go on behind a way -/
noncomputable def kp (T : jB) (b : Nat) (q c : Int32) (n : Nat) : Bool := match T b with
  | none => true
  | some (q0, c0, w0) => btr (some (q0, c0, w0)) q c n || (decide (c < c0) || decide (n < w0.length))
theorem kp_no (T : jB) (b : Nat) (q c : Int32) (n : Nat) (h : kp T b q c n = false) : ∃ q0 c0 w0, T b = some (q0, c0, w0) ∧ q ≤ q0 ∧ c0 ≤ c ∧ w0.length ≤ n := by
  unfold kp at h
  cases hT : T b with
  | none => rw [hT] at h; cases h
  | some e =>
    obtain ⟨q0, c0, w0⟩ := e
    rw [hT] at h
    simp only [Bool.or_eq_false_iff, decide_eq_false_iff_not, btr, Bool.and_eq_false_iff] at h
    exact ⟨q0, c0, w0, rfl, Int32.not_lt.mp h.1.1, Int32.not_lt.mp h.2.1, Nat.not_lt.mp h.2.2⟩
theorem srch_best {S : jS} (hW : sW S) (a : Nat) : srch kp S 9 a [a] 1000 0 [] (ofr (fun _ => none) a 1000 0 []) = best S a := (srch_wt hW a kp kp_no).trans (best_wt hW a).symm
theorem best_of {S : jS} (hW : sW S) {a b : Nat} {e : Int32 × Int32 × List Nat} (h : best S a b = some e) : ∃ w, e = ent S w ∧ vl S a b w := by
  rw [best_wt hW] at h
  by_cases q : ∃ w, wins S a b w
  · obtain ⟨w, hw, e2⟩ := wt_some q
    rw [e2] at h
    cases h
    exact ⟨w, rfl, hw.1⟩
  · rw [wt_none q] at h
    cases h
