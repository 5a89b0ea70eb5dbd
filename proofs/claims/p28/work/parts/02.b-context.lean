/-! WHAT IS KNOWN OF A STATE, A METHOD'S CONTEXT, ITS WALK: 'J pc L st μ k n' says that from the row pc of the method, with the tracked variables L, the stack st, the memory μ, k cells and n slots used, the method comes to an end as its contract says. -/
def jGd : Cond → Bool
  | .castable _ _ => true
  | .declares _ => true
  | w => goodWord w
theorem jGd_move {w : Cond} {s U : State} (hW : s.WarmedH U.vm) (hg : jGd w = true) {a a' : Array Value} (h : w.before a s = true) : w.before a' U = true := by
  by_cases g : goodWord w = true
  · exact word_at hW (good_of_word g) h
  · cases w <;> first
      | exact absurd hg g
      | exact va_Nw.use rfl (va_Nw.warmC hW (va_Nw.of rfl h))
      | exact va_tabs (A := #[]) rfl (rfl : (s.setVm U.vm).vm = U.vm) (by rw [Cond.declares_setVm hW.alike]; exact va_Nw.of rfl h)
def jWL : List Cond := lw_tbl.filter jGd
theorem jWL_good {w : Cond} (h : w ∈ jWL) : jGd w = true := (List.mem_filter.mp h).2
theorem jWL_tbl {w : Cond} (h : w ∈ jWL) : w ∈ lw_tbl := (List.mem_filter.mp h).1
def jTys : List FieldType := [.int, .object "FormatVault$Law", .object "FormatVault$StoredFile", .object "FormatVault$Converter", .object "FormatVault$BestWays", .array .int]
def jStrs : List (String × Nat × String) := [("FormatVault", 232, "there is no such format"), ("FormatVault", 234, "an argument is out of its range"), ("FormatVault", 238, "the format cannot be read any more"), ("FormatVault", 56, "a converter leads to another format"), ("FormatVault", 66, "there are no more converters than 30"), ("FormatVault", 80, "there is no such converter"), ("FormatVault", 91, "the converter is withdrawn"), ("FormatVault", 240, "there is no such law"), ("FormatVault", 137, "there is no such place"), ("FormatVault", 149, "there are no more files than 40"), ("FormatVault", 242, "there is no such file"), ("FormatVault", 236, "the file is not kept"), ("FormatVault", 174, "the quality is below the least one of the law"), ("FormatVault", 214, "the year of now is the last one")]
def jOver (U : State) : Prop := va_AO "FormatVault$Law" U ∧ va_AO "FormatVault$StoredFile" U ∧ va_AO "FormatVault$Converter" U ∧ va_AO "FormatVault$BestWays" U ∧ va_AOA .int U
def jOff (_U : State) : Prop := True
theorem va_AOA.moved {ty : FieldType} {u U : State} (hvm : u.vm.Alike U.vm) (h : va_AOA ty u) : va_AOA ty U := by
  obtain ⟨comp, c, k, h1, h2, h3, h4, h5⟩ := arrayOverA_spec h
  obtain ⟨k', hk', he⟩ := hvm.2.2 _ _ h3
  have hi : (U.vm.classes.findIdx? fun (x : Class) => match x.kind with | .array component _ => component == comp | _ => false) = some c := by
    have e1 := va_idx_bare U.vm comp
    have e2 := va_idx_bare u.vm comp
    have hbq : u.vm.bare = U.vm.bare := by first | exact hvm.bare_eq | exact hvm.bare_eq.symm
    rw [← hbq] at e1
    exact e1.symm.trans (e2.trans h2)
  have hkind : k'.kind = .array comp (.array ty) := by rw [he]; exact h4
  have f1 : U.vm.findClass (FieldType.array ty).toString = some comp := by rw [hvm.findClass]; exact h1
  have f2 : U.vm.findClass ("[" ++ (FieldType.array ty).toString) = some c := by rw [hvm.findClass]; exact h5
  unfold va_AOA Cond.before Cond.holds
  simp only [Cond.value]
  rw [f1, Option.bind_some]
  refine (congrArg (fun o : Option Nat => (o.bind (fun c => (U.vm.classes[c]?).map fun (k : Class) => match k.kind with | .array _ t => decide (t = FieldType.array ty) && decide (U.vm.findClass ("[" ++ (FieldType.array ty).toString) = some c) | _ => false) == some true)) hi).trans ?_
  simp [hk', hkind, f2]
/-- what is known of a state: the makes of things, the rows' makes, the words, the texts, Throwable's two statics; A: what may be written -/
def jU (D : va_G) (cm : FieldType → ClassId) (A : Nat → Prop) (U : State) : Prop :=
  ((∀ (k : Nat) (q : vw_C), vwCl[k]? = some q → u_Kn U q.1 q.2.1 q.2.2 (D.1 k) (D.2 k)) ∧ (∀ ty ∈ jTys, ArrOfT U (cm ty) ty ∧ va_RA U (cm ty) ty)) ∧ (∀ w ∈ jWL, va_Nw w U) ∧ jOver U ∧ jOff U ∧ (∀ q ∈ jStrs, ∃ sa, vk_R q.1 q.2.1 q.2.2 sa U) ∧
  vx_Zq Bundle.tN "UNASSIGNED_STACK" Bundle.steD A U U.heap ∧ vx_Zq Bundle.tN "SUPPRESSED_SENTINEL" Bundle.listD A U U.heap
theorem jU.moved {D : va_G} {cm : FieldType → ClassId} {A B : Nat → Prop} {s U : State} (h : jU D cm A s) (hW : s.WarmedH U.vm) (hk : ∀ a : Nat, a < s.heap.size → ¬ A a → U.heap[a]? = s.heap[a]?) (hAB : ∀ q, B q → A q) : jU D cm B U := by
  obtain ⟨⟨h1, h2⟩, h3, ⟨o1, o2, o3, o4, o5⟩, _, h6, h7, h8⟩ := h
  have hvm := hW.alike
  refine ⟨⟨fun k q hq => u_Kn_moved hvm (h1 k q hq), fun ty ht => ⟨arrOfT_moved hvm (h2 ty ht).1, (h2 ty ht).2.moved hvm⟩⟩, fun w hw => jGd_move hW (jWL_good hw) (h3 w hw), ⟨o1.moved hvm, o2.moved hvm, o3.moved hvm, o4.moved hvm, o5.moved hvm⟩, trivial, fun q hq => ?_, ?_, ?_⟩
  · obtain ⟨sa, hsa⟩ := h6 q hq
    exact ⟨sa, vk_R.warm hW hsa⟩
  · exact vx_Zq.moved hvm (vx_Zq.narrow (h7.kept hk) hAB)
  · exact vx_Zq.moved hvm (vx_Zq.narrow (h8.kept hk) hAB)
/-- what a method may write: the told things that it is given, and what it makes -/
def jA (ad : Nat → Nat → Nat) (μ : jM) (sz : Nat) : Nat → Prop := fun q => (∃ kd i, kd ≠ 61 ∧ i < mN μ kd ∧ q = ad kd i) ∨ sz ≤ q
/-- a later memory: nothing told is gone, old things lie where they lay, new ones are new -/
def jX (ad0 : Nat → Nat → Nat) (μ0 : jM) (sz : Nat) (ad : Nat → Nat → Nat) (μ : jM) : Prop :=
  (∀ kd, mN μ0 kd ≤ mN μ kd) ∧ (∀ kd i, i < mN μ0 kd → ad kd i = ad0 kd i) ∧ ∀ kd i, kd ≠ 61 → mN μ0 kd ≤ i → i < mN μ kd → sz ≤ ad kd i
theorem jX.rf {ad : Nat → Nat → Nat} {μ : jM} {sz : Nat} : jX ad μ sz ad μ := ⟨fun _ => Nat.le_refl _, fun _ _ _ => rfl, fun _ _ _ h1 h2 => absurd h2 (Nat.not_lt.mpr h1)⟩
theorem jX.tr {a0 a1 a2 : Nat → Nat → Nat} {μ0 μ1 μ2 : jM} {s0 s1 : Nat} (h : jX a0 μ0 s0 a1 μ1) (h2 : jX a1 μ1 s1 a2 μ2) (hs : s0 ≤ s1) : jX a0 μ0 s0 a2 μ2 := by
  refine ⟨fun kd => Nat.le_trans (h.1 kd) (h2.1 kd), fun kd i hi => (h2.2.1 kd i (Nat.lt_of_lt_of_le hi (h.1 kd))).trans (h.2.1 kd i hi), fun kd i hk hi hi2 => ?_⟩
  by_cases e : i < mN μ1 kd
  · rw [h2.2.1 kd i e]
    exact h.2.2 kd i hk hi e
  · exact Nat.le_trans hs (h2.2.2 kd i hk (Nat.not_lt.mp e) hi2)
theorem jX.N {ad0 ad : Nat → Nat → Nat} {μ0 μ μ' : jM} {sz : Nat} (h : jX ad0 μ0 sz ad μ) (hN : mN μ' = mN μ) : jX ad0 μ0 sz ad μ' := by
  unfold jX
  rw [hN]
  exact h
theorem jX.A {ad0 ad : Nat → Nat → Nat} {μ0 μ : jM} {sz : Nat} (h : jX ad0 μ0 sz ad μ) {kd i : Nat} (hk : kd ≠ 61) (hi : i < mN μ kd) : jA ad0 μ0 sz (ad kd i) := by
  by_cases e : i < mN μ0 kd
  · exact Or.inl ⟨kd, i, hk, e, h.2.1 kd i e⟩
  · exact Or.inr (h.2.2 kd i hk (Nat.not_lt.mp e) hi)
theorem jX.sub {ad0 ad : Nat → Nat → Nat} {μ0 μ : jM} {sz sz2 : Nat} (h : jX ad0 μ0 sz ad μ) (hs : sz ≤ sz2) : ∀ q, jA ad μ sz2 q → jA ad0 μ0 sz q := by
  rintro q (⟨kd, i, hk, hi, rfl⟩ | hq)
  · exact h.A hk hi
  · exact Or.inr (Nat.le_trans hs hq)
/-- the tracked variables as the machine's -/
def jLs (ad : Nat → Nat → Nat) : Nat → List (Option jV) → List (Nat × Value)
  | _, [] => []
  | i, none :: r => jLs ad (i + 1) r
  | i, some v :: r => (i, jc ad v) :: jLs ad (i + 1) r
theorem jLs_mem (ad : Nat → Nat → Nat) : ∀ (L : List (Option jV)) (j i : Nat) (v : jV), L[i]? = some (some v) → (j + i, jc ad v) ∈ jLs ad j L
  | [], j, i, v, h => by simp at h
  | none :: r, j, 0, v, h => by simp at h
  | some w :: r, j, 0, v, h => by
    simp at h
    subst h
    exact List.mem_cons_self
  | none :: r, j, i + 1, v, h => by
    have := jLs_mem ad r (j + 1) i v (by simpa using h)
    rw [Nat.add_assoc, Nat.add_comm 1 i] at this
    exact this
  | some w :: r, j, i + 1, v, h => by
    have := jLs_mem ad r (j + 1) i v (by simpa using h)
    rw [Nat.add_assoc, Nat.add_comm 1 i] at this
    exact List.mem_cons_of_mem _ this
theorem jLs_of (ad : Nat → Nat → Nat) : ∀ (L : List (Option jV)) (j : Nat) (q : Nat × Value), q ∈ jLs ad j L → ∃ i v, L[i]? = some (some v) ∧ q = (j + i, jc ad v)
  | [], j, q, h => nomatch h
  | none :: r, j, q, h => by
    obtain ⟨i, v, h1, h2⟩ := jLs_of ad r (j + 1) q h
    exact ⟨i + 1, v, by simpa using h1, by rw [h2]; congr 1; omega⟩
  | some w :: r, j, q, h => by
    rcases List.mem_cons.mp h with h | h
    · exact ⟨0, w, rfl, h⟩
    · obtain ⟨i, v, h1, h2⟩ := jLs_of ad r (j + 1) q h
      exact ⟨i + 1, v, by simpa using h1, by rw [h2]; congr 1; omega⟩
theorem jLs_same {ad ad' : Nat → Nat → Nat} {μ : jM} (ha : ∀ kd i, i < mN μ kd → ad' kd i = ad kd i) : ∀ (L : List (Option jV)) (j : Nat), (∀ v, some v ∈ L → jL μ v) → jLs ad' j L = jLs ad j L
  | [], _, _ => rfl
  | none :: r, j, h => jLs_same ha r (j + 1) (fun v hv => h v (List.mem_cons_of_mem _ hv))
  | some w :: r, j, h => by
    show (j, jc ad' w) :: jLs ad' (j + 1) r = (j, jc ad w) :: jLs ad (j + 1) r
    rw [jc_same ha w (h w List.mem_cons_self), jLs_same ha r (j + 1) (fun v hv => h v (List.mem_cons_of_mem _ hv))]
theorem jcs_same {ad ad' : Nat → Nat → Nat} {μ : jM} (ha : ∀ kd i, i < mN μ kd → ad' kd i = ad kd i) {st : List jV} (h : ∀ v ∈ st, jL μ v) : st.map (jc ad') = st.map (jc ad) := List.map_congr_left fun v hv => jc_same ha v (h v hv)
/-- the method's walk -/
def jJ (p : Program) (l : Launch) (e : Env) (R : Room) (s : State) (m : MethodId) (args : Array Value) (below : List Frame) (meth : Method) (c : Code) (D : va_G) (cm : FieldType → ClassId) (ad0 : Nat → Nat → Nat) (μ0 : jM) (nL : Nat) (Q : State → Prop) (pc : Nat) (L : List (Option jV)) (st : List jV) (μ : jM) (k n : Nat) : Prop :=
  ∀ (ad : Nat → Nat → Nat) (H : Heap) (locs : List Loc) (ls : Array Slot), jT D cm ad μ H → jX ad0 μ0 s.heap.size ad μ → va_S (jA ad0 μ0 s.heap.size) s.heap H locs → (∀ v, some v ∈ L → jL μ v) → (∀ v ∈ st, jL μ v) → lv_has ls nL (jLs ad 0 L) →
    W p l e R s m args below meth c H locs k n Q (F0 m pc ls (st.map (jc ad)))
/-- a method's end: its answer, the memory behind it -/
def jQ (D : va_G) (cm : FieldType → ClassId) (ad0 : Nat → Nat → Nat) (μ0 : jM) (ret : Option jV → jM → Prop) : Array Value → State → Outcome → State → Prop := fun _ st oc t =>
  ∃ (r : Option jV) (ad : Nat → Nat → Nat) (μ : jM), oc = .returned (r.map (jc ad)) ∧ ret r μ ∧ jT D cm ad μ t.heap ∧ jX ad0 μ0 st.heap.size ad μ ∧ (∀ v ∈ r, jL μ v) ∧ va_F (jA ad0 μ0 st.heap.size) st t
def jXC (D : va_G) (cm : FieldType → ClassId) (ad0 : Nat → Nat → Nat) (μ0 : jM) (thr : String → jM → Prop) : String → State → State → Prop := fun E st t =>
  ∃ (ad : Nat → Nat → Nat) (μ : jM), thr E μ ∧ jT D cm ad μ t.heap ∧ jX ad0 μ0 st.heap.size ad μ ∧ va_F (jA ad0 μ0 st.heap.size) st t
def jPc (D : va_G) (cm : FieldType → ClassId) (ad : Nat → Nat → Nat) (μ : jM) (avs : List jV) (sz : Nat) : Array Value → State → Prop := fun v U => v = (avs.map (jc ad)).toArray ∧ U.heap.size = sz ∧ jT D cm ad μ U.heap ∧ jU D cm (jA ad μ sz) U
/-- a method's contract: it may throw -/
def jMet (l : Launch) (y : MethodName) (cc : ByteArray) (nL : Nat) (rt : Option FieldType) (fr lo mc ms : Nat) (pre : List jV → jM → Prop) (ret : List jV → jM → Option jV → jM → Prop) (thr : List jV → jM → String → jM → Prop) : Prop :=
  ∀ (D : va_G) (cm : FieldType → ClassId) (ad : Nat → Nat → Nat) (μ : jM) (avs : List jV) (sz : Nat), (∀ v ∈ avs, jL μ v) → pre avs μ →
    vx_Met l y [.code y cc nL rt] { frames := fr, cells := mc, slots := ms, locals := lo } (jPc D cm ad μ avs sz) (jQ D cm ad μ (ret avs μ)) (jXC D cm ad μ (thr avs μ)) mc ms (jA ad μ sz)
/-- .. it throws never; its table of handlers hh -/
def jMetN (l : Launch) (y : MethodName) (w : Cond) (fr lo mc ms : Nat) (pre : List jV → jM → Prop) (ret : List jV → jM → Option jV → jM → Prop) : Prop :=
  ∀ (D : va_G) (cm : FieldType → ClassId) (ad : Nat → Nat → Nat) (μ : jM) (avs : List jV) (sz : Nat), (∀ v ∈ avs, jL μ v) → pre avs μ →
    Met l y [w] { frames := fr, cells := mc, slots := ms, locals := lo } (jPc D cm ad μ avs sz) (jQ D cm ad μ (ret avs μ)) mc ms (jA ad μ sz)
/-- by which end a walk is bound: 0 a method that may throw, 1 a constructor, 2 a method with handlers that throws never, else: another end -/
def jEnd (md : Nat) (hh : List (Nat × Nat × Nat × Nat)) (l : Launch) (s : State) (args : Array Value) (below : List Frame) (meth : Method) (c : Code) (D : va_G) (cm : FieldType → ClassId) (ad0 : Nat → Nat → Nat) (μ0 : jM) (Q : State → Prop) (ret : Option jV → jM → Prop) (thr : String → jM → Prop) (mc ms : Nat) : Prop := match md with
  | 0 => l.stackTraces = false ∧ (∀ x ∈ c.exceptionTable.toList, False) ∧ Q = vx_MQ below (jQ D cm ad0 μ0 ret) (jXC D cm ad0 μ0 thr) args s mc ms (jA ad0 μ0 s.heap.size)
  | 1 => meth.name = "<init>" ∧ Q = MQ below (jQ D cm ad0 μ0 ret) args s mc ms (jA ad0 μ0 s.heap.size)
  | 2 => c.exceptionTable.toList = tableOf hh ∧ Q = MQ below (jQ D cm ad0 μ0 ret) args s mc ms (jA ad0 μ0 s.heap.size)
  | _ => True
def jCtx (l : Launch) (J : Nat → List (Option jV) → List jV → jM → Nat → Nat → Prop) (cc : ByteArray) (nL : Nat) (own : String) (R : Room) (rt : Option FieldType) (md : Nat) (hh : List (Nat × Nat × Nat × Nat)) (ret : Option jV → jM → Prop) (thr : String → jM → Prop) (mc ms : Nat) : Prop :=
  ∃ (p : Program) (e : Env) (s : State) (m : MethodId) (args : Array Value) (below : List Frame) (meth : Method) (c : Code) (D : va_G) (cm : FieldType → ClassId) (ad0 : Nat → Nat → Nat) (μ0 : jM) (Q : State → Prop),
    J = jJ p l e R s m args below meth c D cm ad0 μ0 nL Q ∧ p.tables.exec = Jvm.exec ∧ c.code = cc ∧ c.maxLocals = nL ∧ meth.sig.returnType = rt ∧ s.vm.findClass own = some m.cls ∧ meth.locks = false ∧ jU D cm (jA ad0 μ0 s.heap.size) s ∧ jEnd md hh l s args below meth c D cm ad0 μ0 Q ret thr mc ms
theorem jU.w {D : va_G} {cm : FieldType → ClassId} {A : Nat → Prop} {s : State} (h : jU D cm A s) {args : Array Value} {w : Cond} (hw : w ∈ jWL) : w.before args s = true := jGd_move (State.WarmedH.refl s) (jWL_good hw) (h.2.1 w hw)
theorem jst_c {μ : jM} {v : jV} {st : List jV} (h : jL μ v) (hs : ∀ w ∈ st, jL μ w) : ∀ w ∈ v :: st, jL μ w := fun w hw => (List.mem_cons.mp hw).elim (fun e => e ▸ h) (hs w)
theorem jst_t {μ : jM} {v : jV} {st : List jV} (hs : ∀ w ∈ v :: st, jL μ w) : ∀ w ∈ st, jL μ w := fun w hw => hs w (List.mem_cons_of_mem _ hw)
theorem jst_h {μ : jM} {v : jV} {st : List jV} (hs : ∀ w ∈ v :: st, jL μ w) : jL μ v := hs v List.mem_cons_self
