/-! THE LAW: ITS SCRIPT, WHAT THE CALLS ANSWER -/
theorem rem_N {a n : Nat} (ha : a < 2 ^ 31) (hn : 0 < n) (hn2 : n < 2 ^ 31) : nI a - nI a / nI n * nI n = nI (a % n) := by
  rw [show nI a / nI n = nI (a / n) from (Int32.ofNat_div ha hn2).symm, pk_mul]
  have h := Nat.div_add_mod a n
  rw [Nat.mul_comm] at h
  rw [show nI a - nI (a / n * n) = nI (a - a / n * n) from (Int32.ofNat_sub _ _ (by omega)).symm]
  congr 1
  omega
theorem and_N (x : Int32) : ∃ u, u < 2 ^ 31 ∧ x &&& 2147483647 = nI u := by
  refine ⟨(x &&& 2147483647).toBitVec.toNat, ?_, ?_⟩
  · rw [Int32.toBitVec_and, BitVec.toNat_and]
    exact Nat.lt_of_le_of_lt Nat.and_le_right (by decide)
  · apply Int32.toBitVec_inj.mp
    show (x &&& 2147483647).toBitVec = BitVec.ofNat 32 (x &&& 2147483647).toBitVec.toNat
    rw [BitVec.ofNat_toNat, BitVec.setWidth_eq]
theorem low_N (v : Int32) {n : Nat} (hn : 0 < n) (hn2 : n < 2 ^ 31) : ∃ u, u < n ∧ (v &&& 2147483647) - (v &&& 2147483647) / nI n * nI n = nI u := by
  obtain ⟨w, hw, e⟩ := and_N v
  rw [e, rem_N hw hn hn2]
  exact ⟨w % n, Nat.mod_lt w hn, rfl⟩
theorem jret_of {o : Nat × Int32 × jS} {v : Int32} {S' : jS} {r : Option jV} {μ μ' : jM} (eo : o = (0, v, S')) (h : o.1 = 0 ∧ r = some (aI o.2.1) ∧ xR o.2.2 μ' ∧ xF μ μ') : r = some (aI v) ∧ xR S' μ' ∧ xF μ μ' := by
  subst eo
  exact h.2
theorem jno_of {o : Nat × Int32 × jS} {v : Int32} {S' : jS} (eo : o = (0, v, S')) {P : Prop} (h : o.1 ≠ 0 ∧ P) : False := by
  subst eo
  exact h.1 rfl
section OE
variable {S : jS} {i a b : Nat}
theorem oe_haven (hW : sW S) (hi : i < sn S 0) : o_haven S (nI i) = (0, hv S i, S) := by
  have := hW.1.1
  unfold o_haven
  rw [if_neg (bad_nI hi (by omega)), ix_nI (by omega)]
theorem oe_isSafe (hW : sW S) (hi : i < sn S 0) : o_isSafe S (nI i) = (0, b1 (sf S 15 i = 0 ∧ safe S i (fF S i)), S) := by
  have := hW.1.1
  unfold o_isSafe
  rw [if_neg (bad_nI hi (by omega)), ix_nI (by omega)]
theorem oe_get (c : Nat) (hW : sW S) (hi : i < sn S 0) : o_get S c (nI i) = (0, sf S c i, S) := by
  have := hW.1.1
  unfold o_get
  rw [if_neg (bad_nI hi (by omega)), ix_nI (by omega)]
theorem oe_quality (ha : a < 10) (hb : b < 10) : o_quality S (nI a) (nI b) = (0, bq (best S a b), S) := by
  unfold o_quality
  rw [if_neg (fun q => q.elim (bad_nI ha (by decide)) (bad_nI hb (by decide))), ix_nI (by omega), ix_nI (by omega)]
theorem oe_byAll (hW : sW S) (ha : a < 10) (hb : b < 10) : o_byAll S (nI a) (nI b) = (0, bq (best S a b), S) := by
  unfold o_byAll
  rw [if_neg (fun q => q.elim (bad_nI ha (by decide)) (bad_nI hb (by decide))), ix_nI (by omega), ix_nI (by omega), gq_best hW]
theorem oe_cost (ha : a < 10) (hb : b < 10) : o_cost S (nI a) (nI b) = (0, bc (best S a b), S) := by
  unfold o_cost
  rw [if_neg (fun q => q.elim (bad_nI ha (by decide)) (bad_nI hb (by decide))), ix_nI (by omega), ix_nI (by omega)]
theorem oe_step (ha : a < 10) (hb : b < 10) {p : Nat} (hp : p ≤ 9) (hl : (bw (best S a b)).length ≤ 9) : o_stepAt S (nI a) (nI b) (nI p) = (0, if p < (bw (best S a b)).length then nI ((bw (best S a b)).getD p 0) else -1, S) := by
  unfold o_stepAt
  rw [if_neg (fun q => q.elim (bad_nI ha (by decide)) (fun q => q.elim (bad_nI hb (by decide)) (nI_pos (by omega)))), ix_nI (by omega), ix_nI (by omega), ix_nI (by omega)]
  by_cases h : p < (bw (best S a b)).length
  · rw [if_pos h, if_pos (nI_lt h (by omega))]
  · rw [if_neg h, if_neg (nI_nlt (by omega) (by omega))]
end OE
/-- the rows that read the law's script -/
def jSl (J : Nat → List (Option jV) → List jV → jM → Nat → Nat → Prop) (cc : ByteArray) (L9 : Nat) (xs : Nat → Int32) : Prop :=
  (∀ (pc pc' : Nat) (L : List (Option jV)) (st : List jV) (μ : jM) (k n : Nat) (x : Int32) (j : Nat), decode cc pc = .ok (.iaload, 1) → pc + 1 = pc' → x = nI j → j < L9 → J pc' L (aI (xs j) :: st) μ k n → J pc L (aI x :: aR 61 0 :: st) μ k n) ∧
  ∀ (pc pc' : Nat) (L : List (Option jV)) (st : List jV) (μ : jM) (k n : Nat), decode cc pc = .ok (.arraylength, 1) → pc + 1 = pc' → J pc' L (aI (nI L9) :: st) μ k n → J pc L (aR 61 0 :: st) μ k n
theorem jSl_of {p : Program} {l : Launch} {e : Env} {R : Room} {s : State} {m : MethodId} {args : Array Value} {below : List Frame} {meth : Method} {c : Code} {D : va_G} {cm : FieldType → ClassId} {ad0 : Nat → Nat → Nat} {μ0 : jM} {nL : Nat} {Q : State → Prop} {cc : ByteArray} {b L : Nat} {xs : Nat → Int32} (hx : p.tables.exec = Jvm.exec) (hb : c.code = cc) (h61 : 0 < mN μ0 61) (ha : ad0 61 0 = b) (hX9 : va_X b L xs s s.heap) (hbl : b < s.heap.size) (hbA : ¬ jA ad0 μ0 s.heap.size b) (hL : L ≤ 260) :
    jSl (jJ p l e R s m args below meth c D cm ad0 μ0 nL Q) cc L xs := by
  refine ⟨?_, ?_⟩
  · intro pc pc' L0 st μ k n x j hdg hp hx9 hj K ad H locs ls hT hX hS hL0 hs hl
    subst hp
    subst hx9
    have ea : ad 61 0 = b := (hX.2.1 61 0 h61).trans ha
    have k0 := K ad H locs ls hT hX hS hL0 (jst_c trivial (jst_t (jst_t hs))) hl
    show W p l e R s m args below meth c H locs k n _ (F0 m pc ls (.int (nI j) :: .ref (ad 61 0) :: st.map (jc ad)))
    rw [ea]
    refine va_sld (A := jA ad0 μ0 s.heap.size) hx hb hX9 hbl hbA hS (i := nI j) ?_ hdg ?_
    · rintro (q | q)
      · exact nI_pos (by omega) q
      · rw [nI_clamp (by omega)] at q
        omega
    · rw [nI_clamp (by omega)]
      exact k0
  · intro pc pc' L0 st μ k n hdg hp K ad H locs ls hT hX hS hL0 hs hl
    subst hp
    have ea : ad 61 0 = b := (hX.2.1 61 0 h61).trans ha
    have k0 := K ad H locs ls hT hX hS hL0 (jst_c trivial (jst_t hs)) hl
    show W p l e R s m args below meth c H locs k n _ (F0 m pc ls (.ref (ad 61 0) :: st.map (jc ad)))
    rw [ea]
    exact va_slen (A := jA ad0 μ0 s.heap.size) hx hb hX9 hbl hbA hS hdg k0
/-- a cell of the script: some number -/
def cPc (D : va_G) (cm : FieldType → ClassId) (ad : Nat → Nat → Nat) (μ : jM) (avs : List jV) (sz b L : Nat) (xs : Nat → Int32) : Array Value → State → Prop := fun v U => jPc D cm ad μ avs sz v U ∧ va_X b L xs U U.heap
theorem c_L_cell {l : Launch} (hst : l.stackTraces = false) (D : va_G) (cm : FieldType → ClassId) (ad : Nat → Nat → Nat) (μ : jM) (j sz b L : Nat) (xs : Nat → Int32) (h61 : 0 < mN μ 61) (ha : ad 61 0 = b) (hbl : b < sz) (hbA : ¬ jA ad μ sz b) (hL : L ≤ 260) (hj : j < 100) :
    vx_Met l yL_cell [.code yL_cell cL_cell 2 (some .int)] { frames := 6, cells := 0, slots := 0, locals := 100 } (cPc D cm ad μ [aR 61 0, aI (nI j)] sz b L xs) (jQ D cm ad μ (fun r μ' => (∃ v, r = some (aI v)) ∧ μ' = μ)) (jXC D cm ad μ (fun _ _ => False)) 0 0 (jA ad μ sz) := by
  refine vx_ofW (cc := cL_cell) (maxL := 2) (ret := some .int) (by decide) rfl ?_
  intro p e s m args below meth c s₁ B hml htab hP
  obtain ⟨hP, hX9⟩ := hP
  have hsz : s.heap.size = sz := hP.2.1
  subst hsz
  have hP0 := hP
  refine jent hP0 (nL := 2) (fun v hv => ?_) (Nat.le_of_ble_eq_true rfl) ?_
  · rcases List.mem_cons.mp hv with rfl | hv
    · exact h61
    · rcases List.mem_cons.mp hv with rfl | hv
      · trivial
      · cases hv
  have Sl := jSl_of (p := p) (l := l) (e := e) (R := { frames := 6, cells := 0, slots := 0, locals := 100 }) (s := s) (m := m) (args := args) (below := below) (meth := meth) (c := c) (D := D) (cm := cm) (ad0 := ad) (μ0 := μ) (nL := 2) (Q := vx_MQ below (jQ D cm ad μ (fun r μ' => (∃ v, r = some (aI v)) ∧ μ' = μ)) (jXC D cm ad μ (fun _ _ => False)) args s 0 0 (jA ad μ s.heap.size)) (cc := cL_cell) B.exec B.bytes h61 ha hX9 hbl hbA hL
  have C : jCtx l (jJ p l e { frames := 6, cells := 0, slots := 0, locals := 100 } s m args below meth c D cm ad μ 2 (vx_MQ below (jQ D cm ad μ (fun r μ' => (∃ v, r = some (aI v)) ∧ μ' = μ)) (jXC D cm ad μ (fun _ _ => False)) args s 0 0 (jA ad μ s.heap.size))) cL_cell 2 RL { frames := 6, cells := 0, slots := 0, locals := 100 } (some .int) 0 [] (fun r μ' => (∃ v, r = some (aI v)) ∧ μ' = μ) (fun _ _ => False) 0 0 := ⟨p, e, s, m, args, below, meth, c, D, cm, ad, μ, _, rfl, B.exec, B.bytes, hml, B.returns, findClass_of_methodNamed B.named, B.notSynchronized, hP.2.2.2, hst, htab, rfl⟩
  show jJ p l e { frames := 6, cells := 0, slots := 0, locals := 100 } s m args below meth c D cm ad μ 2 (vx_MQ below (jQ D cm ad μ (fun r μ' => (∃ v, r = some (aI v)) ∧ μ' = μ)) (jXC D cm ad μ (fun _ _ => False)) args s 0 0 (jA ad μ s.heap.size)) 0 [some (aR 61 0), some (aI (nI j))] [] μ 0 0
  generalize jJ p l e { frames := 6, cells := 0, slots := 0, locals := 100 } s m args below meth c D cm ad μ 2 (vx_MQ below (jQ D cm ad μ (fun r μ' => (∃ v, r = some (aI v)) ∧ μ' = μ)) (jXC D cm ad μ (fun _ _ => False)) args s 0 0 (jA ad μ s.heap.size)) = J at C Sl ⊢
  refine mj_iload_n (pc' := 1) C dL_cell_0 rfl rfl ?_
  refine mj_aload_n (pc' := 2) C dL_cell_1 rfl rfl ?_
  refine Sl.2 2 3 _ _ _ _ _ dL_cell_2 rfl ?_
  refine mj_icmp_ge (tgt := 12) (pc' := 6) C dL_cell_3 (by decide) rfl (fun h3 => ?_) (fun h3 => ?_)
  · refine mj_ldc (pc' := 14) C dL_cell_12 rfl kk_L_7 ?_
    refine mj_iload_n (pc' := 15) C dL_cell_14 rfl rfl ?_
    refine mj_imul (pc' := 16) C dL_cell_15 rfl ?_
    refine mj_ldc (pc' := 18) C dL_cell_16 rfl kk_L_8 ?_
    refine mj_iadd (pc' := 19) C dL_cell_18 rfl ?_
    exact mj_iret C dL_cell_19 (by decide) (by decide) (by decide) ⟨⟨_, rfl⟩, rfl⟩
  · have hlt : j < L := by
      refine Decidable.byContradiction (fun q => ?_)
      exact h3 (nI_le (by omega) (by omega))
    refine mj_aload_n (pc' := 7) C dL_cell_6 rfl rfl ?_
    refine mj_iload_n (pc' := 8) C dL_cell_7 rfl rfl ?_
    refine Sl.1 8 9 _ _ _ _ _ _ j dL_cell_8 rfl rfl hlt ?_
    refine mj_goto (pc' := 19) C dL_cell_9 (by decide) ?_
    exact mj_iret C dL_cell_19 (by decide) (by decide) (by decide) ⟨⟨_, rfl⟩, rfl⟩
theorem cPc_blind {D : va_G} {cm : FieldType → ClassId} {ad : Nat → Nat → Nat} {μ : jM} {avs : List jV} {sz b L : Nat} {xs : Nat → Int32} : FrameBlind (cPc D cm ad μ avs sz b L xs) := fun a U g mk q => ⟨jPc_blind a U g mk q.1, va_X.moved (U := U.calling g mk a) (State.WarmedH.refl U).alike q.2⟩
/-- what the law's own walk has beside the rows of all methods: its script's cells, its end, room given away, variables forgotten -/
def jSc (J : Nat → List (Option jV) → List jV → jM → Nat → Nat → Prop) (cc : ByteArray) : Prop :=
  (∀ (pc pc' : Nat) (L : List (Option jV)) (st : List jV) (μ : jM) (k n : Nat) (j idx : Nat), decode cc pc = .ok (.invokestatic idx, 3) → pc + 3 = pc' → Cond.methodLink RL idx yL_cell ∈ jWL → j < 100 → (st.map jcat).sum ≤ 8 → k ≤ 600104 → n ≤ 7301314 → (∀ v : Int32, J pc' L (aI v :: st) μ k n) → J pc L (aI (nI j) :: aR 61 0 :: st) μ k n) ∧
  (∀ (pc : Nat) (L : List (Option jV)) (μ : jM) (k n : Nat), decode cc pc = .ok (.ireturn, 1) → k ≤ 600104 → n ≤ 7301314 → J pc L [aI 1] μ k n) ∧
  (∀ (pc : Nat) (L : List (Option jV)) (st : List jV) (μ : jM) (k n k' n' : Nat), k ≤ k' → n ≤ n' → J pc L st μ k' n' → J pc L st μ k n) ∧
  ∀ (pc : Nat) (L L' : List (Option jV)) (st : List jV) (μ : jM) (k n : Nat), (∀ (i : Nat) (v : jV), L'[i]? = some (some v) → L[i]? = some (some v)) → J pc L' st μ k n → J pc L st μ k n
section SC
variable {J : Nat → List (Option jV) → List jV → jM → Nat → Nat → Prop} {cc : ByteArray} {pc pc' : Nat} {L L' : List (Option jV)} {st : List jV} {μ : jM} {k n : Nat}
theorem jSc.cell (h : jSc J cc) {j idx : Nat} {x : Int32} (hdg : decode cc pc = .ok (.invokestatic idx, 3)) (hp : pc + 3 = pc') (hw : Cond.methodLink RL idx yL_cell ∈ jWL) (hx : x = nI j) (hj : j < 100) (hs : (st.map jcat).sum ≤ 8) (hk : k ≤ 600104) (hn : n ≤ 7301314) (K : ∀ v : Int32, J pc' L (aI v :: st) μ k n) : J pc L (aI x :: aR 61 0 :: st) μ k n := by
  subst hx
  exact h.1 _ _ _ _ _ _ _ _ _ hdg hp hw hj hs hk hn K
theorem jSc.ret (h : jSc J cc) (hdg : decode cc pc = .ok (.ireturn, 1)) (hk : k ≤ 600104) (hn : n ≤ 7301314) : J pc L [aI 1] μ k n := h.2.1 _ _ _ _ _ hdg hk hn
theorem jSc.widen (h : jSc J cc) {k' n' : Nat} (hk : k ≤ k') (hn : n ≤ n') (K : J pc L st μ k' n') : J pc L st μ k n := h.2.2.1 _ _ _ _ _ _ _ _ hk hn K
/-- fewer variables -/
def lsub : List (Option jV) → List (Option jV) → Prop
  | [], _ => True
  | none :: r, _ :: r' => lsub r r'
  | some v :: r, w :: r' => w = some v ∧ lsub r r'
  | none :: r, [] => lsub r []
  | some _ :: _, [] => False
theorem lsub_of : ∀ (A B : List (Option jV)), lsub A B → ∀ (i : Nat) (v : jV), A[i]? = some (some v) → B[i]? = some (some v)
  | [], _, _, i, v, h => by simp at h
  | none :: r, w :: r', h, 0, v, q => by simp at q
  | none :: r, w :: r', h, i + 1, v, q => by
    simp only [List.getElem?_cons_succ] at q ⊢
    exact lsub_of r r' h i v q
  | some x :: r, w :: r', h, 0, v, q => by
    simp only [List.getElem?_cons_zero, Option.some.injEq] at q ⊢
    rw [h.1, q]
  | some x :: r, w :: r', h, i + 1, v, q => by
    simp only [List.getElem?_cons_succ] at q ⊢
    exact lsub_of r r' h.2 i v q
  | none :: r, [], h, 0, v, q => by simp at q
  | none :: r, [], h, i + 1, v, q => by
    simp only [List.getElem?_cons_succ] at q
    have := lsub_of r [] h i v q
    simp at this
  | some _ :: _, [], h, _, _, _ => h.elim
theorem jSc.forget (h : jSc J cc) (hs : lsub L' L) (K : J pc L' st μ k n) : J pc L st μ k n := h.2.2.2 _ _ _ _ _ _ _ (lsub_of L' L hs) K
end SC
