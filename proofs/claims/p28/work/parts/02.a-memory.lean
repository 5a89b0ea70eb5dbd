/-! THE MEMORY MODEL. A state of the system's heap is told by numbers: things are of kinds (0 the vault, 1 its row of last years ..), the i-th thing of a kind has int slots, reference slots and long slots. A count a kind says how many there are. Where they lie (ad) is nobody's business above this part. -/
abbrev jM : Type := (Nat → Nat) × (Nat → Nat → Nat → Int32) × (Nat → Nat → Nat → Option (Nat × Nat)) × (Nat → Nat → Nat → Int64)
abbrev jV : Type := Int32 ⊕ (Int64 ⊕ Option (Nat × Nat))
abbrev aI (x : Int32) : jV := Sum.inl x
abbrev aL (x : Int64) : jV := Sum.inr (Sum.inl x)
abbrev aO (r : Option (Nat × Nat)) : jV := Sum.inr (Sum.inr r)
abbrev aR (k i : Nat) : jV := Sum.inr (Sum.inr (some (k, i)))
def mN (μ : jM) : Nat → Nat := μ.1
def mI (μ : jM) : Nat → Nat → Nat → Int32 := μ.2.1
def mP (μ : jM) : Nat → Nat → Nat → Option (Nat × Nat) := μ.2.2.1
def mG (μ : jM) : Nat → Nat → Nat → Int64 := μ.2.2.2
def up3 {α : Type} (f : Nat → Nat → Nat → α) (a b c : Nat) (v : α) : Nat → Nat → Nat → α := fun x y z => if x = a ∧ y = b ∧ z = c then v else f x y z
def up1 (f : Nat → Nat) (a n : Nat) : Nat → Nat := fun x => if x = a then n else f x
def cl2 {α : Type} (f : Nat → Nat → Nat → α) (a lo : Nat) (v : α) : Nat → Nat → Nat → α := fun x y z => if x = a ∧ lo ≤ y then v else f x y z
def sI (μ : jM) (a b c : Nat) (v : Int32) : jM := (mN μ, up3 (mI μ) a b c v, mP μ, mG μ)
def sP (μ : jM) (a b c : Nat) (v : Option (Nat × Nat)) : jM := (mN μ, mI μ, up3 (mP μ) a b c v, mG μ)
def sG (μ : jM) (a b c : Nat) (v : Int64) : jM := (mN μ, mI μ, mP μ, up3 (mG μ) a b c v)
/-- a new thing of kind k: the next number, its slots blank -/
def nw (μ : jM) (k : Nat) : jM := (up1 (mN μ) k (mN μ k + 1), cl2 (mI μ) k (mN μ k) 0, cl2 (mP μ) k (mN μ k) none, cl2 (mG μ) k (mN μ k) 0)
/-- a new thing of kind k whose slots hold n new things of kind r -/
def nwm (μ : jM) (k r n : Nat) : jM := (up1 (up1 (mN μ) k (mN μ k + 1)) r (mN μ r + n), cl2 (cl2 (mI μ) k (mN μ k) 0) r (mN μ r) 0, (fun x y z => if x = k ∧ y = mN μ k ∧ z < n then some (r, mN μ r + z) else cl2 (cl2 (mP μ) k (mN μ k) none) r (mN μ r) none x y z), cl2 (cl2 (mG μ) k (mN μ k) 0) r (mN μ r) 0)
theorem mN_sI (μ : jM) (a b c : Nat) (v : Int32) : mN (sI μ a b c v) = mN μ := rfl
theorem mP_sI (μ : jM) (a b c : Nat) (v : Int32) : mP (sI μ a b c v) = mP μ := rfl
theorem mG_sI (μ : jM) (a b c : Nat) (v : Int32) : mG (sI μ a b c v) = mG μ := rfl
theorem mN_sP (μ : jM) (a b c : Nat) (v : Option (Nat × Nat)) : mN (sP μ a b c v) = mN μ := rfl
theorem mI_sP (μ : jM) (a b c : Nat) (v : Option (Nat × Nat)) : mI (sP μ a b c v) = mI μ := rfl
theorem mG_sP (μ : jM) (a b c : Nat) (v : Option (Nat × Nat)) : mG (sP μ a b c v) = mG μ := rfl
theorem mN_sG (μ : jM) (a b c : Nat) (v : Int64) : mN (sG μ a b c v) = mN μ := rfl
theorem mI_sG (μ : jM) (a b c : Nat) (v : Int64) : mI (sG μ a b c v) = mI μ := rfl
theorem mP_sG (μ : jM) (a b c : Nat) (v : Int64) : mP (sG μ a b c v) = mP μ := rfl
theorem mI_sI (μ : jM) (a b c : Nat) (v : Int32) (x y z : Nat) : mI (sI μ a b c v) x y z = if x = a ∧ y = b ∧ z = c then v else mI μ x y z := rfl
theorem mP_sP (μ : jM) (a b c : Nat) (v : Option (Nat × Nat)) (x y z : Nat) : mP (sP μ a b c v) x y z = if x = a ∧ y = b ∧ z = c then v else mP μ x y z := rfl
theorem mG_sG (μ : jM) (a b c : Nat) (v : Int64) (x y z : Nat) : mG (sG μ a b c v) x y z = if x = a ∧ y = b ∧ z = c then v else mG μ x y z := rfl
theorem mN_nw (μ : jM) (k x : Nat) : mN (nw μ k) x = if x = k then mN μ k + 1 else mN μ x := rfl
theorem mI_nw (μ : jM) (k x y z : Nat) : mI (nw μ k) x y z = if x = k ∧ mN μ k ≤ y then 0 else mI μ x y z := rfl
theorem mP_nw (μ : jM) (k x y z : Nat) : mP (nw μ k) x y z = if x = k ∧ mN μ k ≤ y then none else mP μ x y z := rfl
theorem mG_nw (μ : jM) (k x y z : Nat) : mG (nw μ k) x y z = if x = k ∧ mN μ k ≤ y then 0 else mG μ x y z := rfl
theorem mI_sI_s (μ : jM) (a b c : Nat) (v : Int32) : mI (sI μ a b c v) a b c = v := if_pos ⟨rfl, rfl, rfl⟩
theorem mI_sI_n (μ : jM) (a b c : Nat) (v : Int32) {x y z : Nat} (h : ¬ (x = a ∧ y = b ∧ z = c)) : mI (sI μ a b c v) x y z = mI μ x y z := if_neg h
theorem mP_sP_s (μ : jM) (a b c : Nat) (v : Option (Nat × Nat)) : mP (sP μ a b c v) a b c = v := if_pos ⟨rfl, rfl, rfl⟩
theorem mP_sP_n (μ : jM) (a b c : Nat) (v : Option (Nat × Nat)) {x y z : Nat} (h : ¬ (x = a ∧ y = b ∧ z = c)) : mP (sP μ a b c v) x y z = mP μ x y z := if_neg h
/-- what a kind's things are: objects (which of vwCl), or rows (of which type, how long) -/
def jSh : Nat → Nat ⊕ (FieldType × Nat)
  | 0 => .inl 5
  | 1 => .inr (.int, 10)
  | 2 => .inr (.object "FormatVault$Law", 5)
  | 3 => .inr (.object "FormatVault$StoredFile", 40)
  | 4 => .inl 3
  | 5 => .inr (.object "FormatVault$Converter", 30)
  | 6 => .inr (.object "FormatVault$Converter", 10)
  | 7 => .inr (.object "FormatVault$Converter", 10)
  | 8 => .inr (.object "FormatVault$BestWays", 10)
  | 9 => .inr (.int, 9)
  | 10 => .inl 2
  | 11 => .inl 0
  | 12 => .inl 4
  | 13 => .inl 1
  | 14 => .inr (.int, 10)
  | 15 => .inr (.int, 10)
  | 16 => .inr (.int, 10)
  | 17 => .inr (.array .int, 10)
  | 18 => .inr (.int, 9)
  | 21 => .inr (.int, 10)
  | 22 => .inr (.int, 30)
  | 23 => .inr (.int, 30)
  | 24 => .inr (.int, 30)
  | 25 => .inr (.int, 30)
  | 27 => .inr (.int, 5)
  | 28 => .inr (.int, 5)
  | 29 => .inr (.int, 5)
  | 30 => .inr (.int, 12)
  | 31 => .inr (.int, 12)
  | 32 => .inr (.int, 12)
  | 33 => .inr (.int, 12)
  | 34 => .inr (.int, 12)
  | 35 => .inr (.int, 12)
  | 36 => .inr (.int, 12)
  | 37 => .inr (.int, 12)
  | 38 => .inr (.int, 12)
  | 39 => .inr (.int, 12)
  | _ => .inr (.int, 0)
/-- the types of the fields of a thing's make -/
def jFt : Nat → Nat → FieldType
  | 0 => tyX0
  | 1 => tyX1
  | 2 => tyX2
  | 3 => tyX3
  | 4 => tyX4
  | 5 => tyX5
  | _ => tyX6
def jNf : Nat → Nat
  | 0 => 5
  | 1 => 7
  | 2 => 3
  | 3 => 6
  | 4 => 8
  | 5 => 8
  | _ => 36
def jTx : Nat → u_T
  | 0 => TX0
  | 1 => TX1
  | 2 => TX2
  | 3 => TX3
  | 4 => TX4
  | 5 => TX5
  | _ => TX6
def jNm : Nat → String
  | 0 => RX0
  | 1 => RX1
  | 2 => RX2
  | 3 => RX3
  | 4 => RX4
  | 5 => RX5
  | _ => RX6
theorem jCl_at {ci : Nat} (h : ci < 6) : vwCl[ci]? = some (jNm ci, jTx ci, jNf ci) := by
  rcases (show ci = 0 ∨ ci = 1 ∨ ci = 2 ∨ ci = 3 ∨ ci = 4 ∨ ci = 5 by omega) with rfl | rfl | rfl | rfl | rfl | rfl <;> rfl
theorem jTy_ok {ci : Nat} (h : ci < 6) : ∀ k, k < jNf ci → parseFieldDescriptor (jTx ci k).2.2.1 = some (jFt ci k) := by
  rcases (show ci = 0 ∨ ci = 1 ∨ ci = 2 ∨ ci = 3 ∨ ci = 4 ∨ ci = 5 by omega) with rfl | rfl | rfl | rfl | rfl | rfl
  · exact tyX0_ok
  · exact tyX1_ok
  · exact tyX2_ok
  · exact tyX3_ok
  · exact tyX4_ok
  · exact tyX5_ok
theorem jNm_ok {ci : Nat} (h : ci < 6) : ∀ a, a < jNf ci → ∀ b, b < jNf ci → a ≠ b → (jTx ci a).2.1 ≠ (jTx ci b).2.1 := by
  rcases (show ci = 0 ∨ ci = 1 ∨ ci = 2 ∨ ci = 3 ∨ ci = 4 ∨ ci = 5 by omega) with rfl | rfl | rfl | rfl | rfl | rfl
  · exact nmX0
  · exact nmX1
  · exact nmX2
  · exact nmX3
  · exact nmX4
  · exact nmX5
/-- a told value as the machine has it -/
def jc (ad : Nat → Nat → Nat) : jV → Value
  | .inl x => .int x
  | .inr (.inl x) => .long x
  | .inr (.inr none) => .null
  | .inr (.inr (some q)) => .ref (ad q.1 q.2)
def jcat : jV → Nat
  | .inr (.inl _) => 2
  | _ => 1
theorem jc_cat (ad : Nat → Nat → Nat) : ∀ v : jV, (jc ad v).category = jcat v
  | .inl _ => rfl
  | .inr (.inl _) => rfl
  | .inr (.inr none) => rfl
  | .inr (.inr (some _)) => rfl
theorem jc_cats (ad : Nat → Nat → Nat) : ∀ st : List jV, ((st.map (jc ad)).map fun v => v.category).sum = (st.map jcat).sum
  | [] => rfl
  | v :: r => by
    simp only [List.map_cons, List.sum_cons, jc_cat]
    rw [jc_cats ad r]
/-- a slot's value by its type -/
def jv (ad : Nat → Nat → Nat) (μ : jM) (ty : FieldType) (kd i k : Nat) : Value := match ty with
  | .long => .long (mG μ kd i k)
  | .object _ => jc ad (aO (mP μ kd i k))
  | .array _ => jc ad (aO (mP μ kd i k))
  | _ => .int (mI μ kd i k)
def jAt (D : va_G) (cm : FieldType → ClassId) (ad : Nat → Nat → Nat) (μ : jM) (H : Heap) (kd i : Nat) : Prop := match jSh kd with
  | .inl ci => t_OB (ad kd i) (D.1 ci) (jNf ci) (D.2 ci) H (fun k => jv ad μ (jFt ci k) kd i k)
  | .inr q => H[ad kd i]? = some (arrV (cm q.1) q.2 (fun k => jv ad μ q.1 kd i k))
/-- a value speaks of things that are there -/
def jL (μ : jM) : jV → Prop
  | .inr (.inr (some q)) => q.2 < mN μ q.1
  | _ => True
/-- the heap holds the told memory; the kind 61 is the law's script, which is told apart -/
def jT (D : va_G) (cm : FieldType → ClassId) (ad : Nat → Nat → Nat) (μ : jM) (H : Heap) : Prop :=
  (∀ kd i, kd ≠ 61 → i < mN μ kd → jAt D cm ad μ H kd i) ∧ (∀ kd i kd' i', i < mN μ kd → i' < mN μ kd' → ad kd i = ad kd' i' → kd = kd' ∧ i = i') ∧
  (∀ kd i k q, i < mN μ kd → mP μ kd i k = some q → q.2 < mN μ q.1) ∧ ∀ kd i, i < mN μ kd → ad kd i < H.size
theorem jAt.kept {D : va_G} {cm : FieldType → ClassId} {ad : Nat → Nat → Nat} {μ : jM} {H H1 : Heap} {kd i : Nat} (h : jAt D cm ad μ H kd i) (hq : H1[ad kd i]? = H[ad kd i]?) : jAt D cm ad μ H1 kd i := by
  unfold jAt at h ⊢
  split at h
  · rename_i ci hs
    exact h.kept hq
  · rename_i q hs
    exact hq.trans h
theorem jAt.to {D : va_G} {cm : FieldType → ClassId} {ad ad' : Nat → Nat → Nat} {μ μ' : jM} {H : Heap} {kd i : Nat} (h : jAt D cm ad μ H kd i) (ha : ad' kd i = ad kd i) (hv : ∀ ty k, jv ad' μ' ty kd i k = jv ad μ ty kd i k) : jAt D cm ad' μ' H kd i := by
  unfold jAt at h ⊢
  split at h
  · rename_i ci hs
    rw [ha]
    exact h.to (fun k hk => (hv _ _).symm)
  · rename_i q hs
    rw [ha]
    refine h.trans (congrArg some (congrArg (arrV (cm q.1) q.2) (funext fun k => (hv _ _).symm)))
theorem jc_same {ad ad' : Nat → Nat → Nat} {μ : jM} (ha : ∀ kd i, i < mN μ kd → ad' kd i = ad kd i) : ∀ v : jV, jL μ v → jc ad' v = jc ad v
  | .inl _, _ => rfl
  | .inr (.inl _), _ => rfl
  | .inr (.inr none), _ => rfl
  | .inr (.inr (some q)), h => congrArg Value.ref (ha q.1 q.2 h)
theorem jL_mono {μ μ' : jM} (h : ∀ kd, mN μ kd ≤ mN μ' kd) : ∀ v : jV, jL μ v → jL μ' v
  | .inl _, _ => trivial
  | .inr (.inl _), _ => trivial
  | .inr (.inr none), _ => trivial
  | .inr (.inr (some q)), hv => Nat.lt_of_lt_of_le hv (h q.1)
theorem jL_O {μ : jM} {r : Option (Nat × Nat)} (h : ∀ q, r = some q → q.2 < mN μ q.1) : jL μ (aO r) := by
  cases r with
  | none => trivial
  | some q => exact h q rfl
/-- one thing was written -/
theorem jT.put {D : va_G} {cm : FieldType → ClassId} {ad : Nat → Nat → Nat} {μ μ' : jM} {H H1 : Heap} {kd i : Nat} (h : jT D cm ad μ H) (hl : i < mN μ kd) (hz : H1.size = H.size) (oq : ∀ q : Nat, q ≠ ad kd i → H1[q]? = H[q]?) (hN : mN μ' = mN μ)
    (hv : ∀ x y, ¬ (x = kd ∧ y = i) → ∀ z, mI μ' x y z = mI μ x y z ∧ mP μ' x y z = mP μ x y z ∧ mG μ' x y z = mG μ x y z) (hat : jAt D cm ad μ' H1 kd i) (hcl : ∀ k q, mP μ' kd i k = some q → q.2 < mN μ q.1) : jT D cm ad μ' H1 := by
  obtain ⟨h1, h2, h3, h4⟩ := h
  refine ⟨fun x y hx hy => ?_, fun a b c d ha hb hab => h2 a b c d (by rw [← hN]; exact ha) (by rw [← hN]; exact hb) hab, fun x y k q hy hq => ?_, fun x y hy => by rw [hz]; exact h4 x y (by rw [← hN]; exact hy)⟩
  · by_cases e : x = kd ∧ y = i
    · obtain ⟨rfl, rfl⟩ := e
      exact hat
    · rw [hN] at hy
      refine ((h1 x y hx hy).kept (oq _ (fun z => e (h2 x y kd i hy hl z)))).to rfl (fun ty k => ?_)
      obtain ⟨q1, q2, q3⟩ := hv x y e k
      unfold jv
      cases ty <;> simp [q1, q2, q3]
  · rw [hN] at hy ⊢
    by_cases e : x = kd ∧ y = i
    · obtain ⟨rfl, rfl⟩ := e
      exact hcl k q hq
    · rw [(hv x y e k).2.1] at hq
      exact h3 x y k q hy hq
def ua (ad : Nat → Nat → Nat) (kd i q : Nat) : Nat → Nat → Nat := fun x y => if x = kd ∧ y = i then q else ad x y
/-- a thing was made -/
theorem jT.push {D : va_G} {cm : FieldType → ClassId} {ad : Nat → Nat → Nat} {μ : jM} {H H1 : Heap} {kd : Nat} (h : jT D cm ad μ H) (hz : H1.size = H.size + 1) (oq : ∀ q : Nat, q < H.size → H1[q]? = H[q]?) (h61 : kd ≠ 61)
    (hat : jAt D cm (ua ad kd (mN μ kd) H.size) (nw μ kd) H1 kd (mN μ kd)) : jT D cm (ua ad kd (mN μ kd) H.size) (nw μ kd) H1 := by
  obtain ⟨h1, h2, h3, h4⟩ := h
  have hu : ∀ x y, y < mN μ x → ua ad kd (mN μ kd) H.size x y = ad x y := fun x y hy => by
    unfold ua
    rw [if_neg]
    rintro ⟨rfl, rfl⟩
    exact Nat.lt_irrefl _ hy
  have key : ∀ x y, y < mN (nw μ kd) x → (y < mN μ x ∧ ua ad kd (mN μ kd) H.size x y = ad x y ∧ ad x y < H.size) ∨ (x = kd ∧ y = mN μ kd ∧ ua ad kd (mN μ kd) H.size x y = H.size) := fun x y hy => by
    rw [mN_nw] at hy
    by_cases e : x = kd
    · subst e
      rw [if_pos rfl] at hy
      by_cases e2 : y = mN μ x
      · exact Or.inr ⟨rfl, e2, by unfold ua; rw [if_pos ⟨rfl, e2⟩]⟩
      · have hy2 : y < mN μ x := by omega
        exact Or.inl ⟨hy2, hu x y hy2, h4 x y hy2⟩
    · rw [if_neg e] at hy
      exact Or.inl ⟨hy, hu x y hy, h4 x y hy⟩
  refine ⟨fun x y hx hy => ?_, fun a b c d ha hb hab => ?_, fun x y k q hy hq => ?_, fun x y hy => ?_⟩
  · rcases key x y hy with ⟨g1, g2, g3⟩ | ⟨rfl, rfl, g3⟩
    · refine ((h1 x y hx g1).kept (oq _ g3)).to g2 (fun ty k => ?_)
      have e : ¬ (x = kd ∧ mN μ kd ≤ y) := by
        rintro ⟨rfl, h9⟩
        omega
      have q1 : mI (nw μ kd) x y k = mI μ x y k := by rw [mI_nw, if_neg e]
      have q2 : mP (nw μ kd) x y k = mP μ x y k := by rw [mP_nw, if_neg e]
      have q3 : mG (nw μ kd) x y k = mG μ x y k := by rw [mG_nw, if_neg e]
      have q4 : jc (ua ad kd (mN μ kd) H.size) (aO (mP μ x y k)) = jc ad (aO (mP μ x y k)) := jc_same (μ := μ) hu _ (jL_O (fun q hq => h3 x y k q g1 hq))
      unfold jv
      cases ty <;> simp [q1, q2, q3, q4]
    · exact hat
  · rcases key a b ha with ⟨g1, g2, g3⟩ | ⟨rfl, rfl, g3⟩ <;> rcases key c d hb with ⟨f1, f2, f3⟩ | ⟨rfl, rfl, f3⟩
    · rw [g2, f2] at hab
      exact h2 a b c d g1 f1 hab
    · rw [g2, f3] at hab
      omega
    · rw [g3, f2] at hab
      omega
    · exact ⟨rfl, rfl⟩
  · rw [mP_nw] at hq
    by_cases e : x = kd ∧ mN μ kd ≤ y
    · rw [if_pos e] at hq
      cases hq
    · rw [if_neg e] at hq
      have hy2 : y < mN μ x := by
        rcases key x y hy with ⟨g1, -⟩ | ⟨g1, g2, -⟩
        · exact g1
        · exact absurd ⟨g1, by omega⟩ e
      have := h3 x y k q hy2 hq
      rw [mN_nw]
      split
      · rename_i e3
        rw [e3] at this
        omega
      · exact this
  · rw [hz]
    rcases key x y hy with ⟨g1, g2, g3⟩ | ⟨rfl, rfl, g3⟩
    · rw [g2]; omega
    · rw [g3]; omega
