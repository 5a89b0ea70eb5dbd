/-! THE LAW: ITS SCRIPT, ITS SWITCH -/
section LAWROWS
variable {l : Launch} {J : Nat → List (Option jV) → List jV → jM → Nat → Nat → Prop} {cc : ByteArray} {nL : Nat} {own : String} {R : Room} {rt : Option FieldType} {md : Nat} {hh : List (Nat × Nat × Nat × Nat)} {ret9 : Option jV → jM → Prop} {thr : String → jM → Prop} {mc ms : Nat}
variable {pc pc' : Nat} {L : List (Option jV)} {st : List jV} {μ : jM} {k n : Nat}
theorem mj_tblIn (C : jCtx l J cc nL own R rt md hh ret9 thr mc ms) {dflt lo hi : Int} {offs : Array Int} {len tgt : Nat} {x : Int32} {off : Int} (hdg : decode cc pc = .ok (.tableswitch dflt lo hi offs, len)) (h1 : ¬ x.toInt < lo) (h2 : ¬ hi < x.toInt) (ho : offs[(x.toInt - lo).toNat]? = some off) (ht : (pc : Int) + off = (tgt : Int)) (K : J tgt L st μ k n) : J pc L (aI x :: st) μ k n := by
  obtain ⟨p, e, s, m, args, below, meth, c, D, cm, ad0, μ0, Q, rfl, hx, hb, hml, hrt, hown, hlk, hU, hE⟩ := C
  intro ad H locs ls hT hX hS hL hs hl
  exact lv_tableIn hx hb hdg h1 h2 ho ht (K ad H locs ls hT hX hS hL (jst_t hs) hl)
theorem mj_tblOut (C : jCtx l J cc nL own R rt md hh ret9 thr mc ms) {dflt lo hi : Int} {offs : Array Int} {len tgt : Nat} {x : Int32} (hdg : decode cc pc = .ok (.tableswitch dflt lo hi offs, len)) (h : x.toInt < lo ∨ hi < x.toInt) (ht : (pc : Int) + dflt = (tgt : Int)) (K : J tgt L st μ k n) : J pc L (aI x :: st) μ k n := by
  obtain ⟨p, e, s, m, args, below, meth, c, D, cm, ad0, μ0, Q, rfl, hx, hb, hml, hrt, hown, hlk, hU, hE⟩ := C
  intro ad H locs ls hT hX hS hL hs hl
  exact lv_tableOut hx hb hdg h ht (K ad H locs ls hT hX hS hL (jst_t hs) hl)
end LAWROWS
/-- what the law's own walk has beside the rows of all methods: its script, its end, room given away, variables forgotten -/
def jSc (J : Nat → List (Option jV) → List jV → jM → Nat → Nat → Prop) (cc : ByteArray) (L9 : Nat) (xs : Nat → Int32) : Prop :=
  (∀ (pc pc' : Nat) (L : List (Option jV)) (st : List jV) (μ : jM) (k n : Nat) (x : Int32) (j : Nat), decode cc pc = .ok (.iaload, 1) → pc + 1 = pc' → x = nI j → j < L9 → J pc' L (aI (xs j) :: st) μ k n → J pc L (aI x :: aR 61 0 :: st) μ k n) ∧
  (∀ (pc pc' : Nat) (L : List (Option jV)) (st : List jV) (μ : jM) (k n : Nat), decode cc pc = .ok (.arraylength, 1) → pc + 1 = pc' → J pc' L (aI (nI L9) :: st) μ k n → J pc L (aR 61 0 :: st) μ k n) ∧
  (∀ (pc : Nat) (L : List (Option jV)) (μ : jM) (k n : Nat), decode cc pc = .ok (.ireturn, 1) → k ≤ 601024 → n ≤ 7293034 → J pc L [aI 1] μ k n) ∧
  (∀ (pc : Nat) (L : List (Option jV)) (st : List jV) (μ : jM) (k n k' n' : Nat), k ≤ k' → n ≤ n' → J pc L st μ k' n' → J pc L st μ k n) ∧
  ∀ (pc : Nat) (L L' : List (Option jV)) (st : List jV) (μ : jM) (k n : Nat), (∀ (i : Nat) (v : jV), L'[i]? = some (some v) → L[i]? = some (some v)) → J pc L' st μ k n → J pc L st μ k n
section SC
variable {J : Nat → List (Option jV) → List jV → jM → Nat → Nat → Prop} {cc : ByteArray} {L9 : Nat} {xs : Nat → Int32} {pc pc' : Nat} {L : List (Option jV)} {st : List jV} {μ : jM} {k n : Nat}
theorem jSc.ld (h : jSc J cc L9 xs) {x : Int32} {j : Nat} (hdg : decode cc pc = .ok (.iaload, 1)) (hp : pc + 1 = pc') (hx : x = nI j) (hj : j < L9) (K : J pc' L (aI (xs j) :: st) μ k n) : J pc L (aI x :: aR 61 0 :: st) μ k n := h.1 _ _ _ _ _ _ _ _ _ hdg hp hx hj K
theorem jSc.len (h : jSc J cc L9 xs) (hdg : decode cc pc = .ok (.arraylength, 1)) (hp : pc + 1 = pc') (K : J pc' L (aI (nI L9) :: st) μ k n) : J pc L (aR 61 0 :: st) μ k n := h.2.1 _ _ _ _ _ _ _ hdg hp K
theorem jSc.ret (h : jSc J cc L9 xs) (hdg : decode cc pc = .ok (.ireturn, 1)) (hk : k ≤ 601024) (hn : n ≤ 7293034) : J pc L [aI 1] μ k n := h.2.2.1 _ _ _ _ _ hdg hk hn
theorem jSc.widen (h : jSc J cc L9 xs) {k' n' : Nat} (hk : k ≤ k') (hn : n ≤ n') (K : J pc L st μ k' n') : J pc L st μ k n := h.2.2.2.1 _ _ _ _ _ _ _ _ hk hn K
theorem jSc.forget (h : jSc J cc L9 xs) {a b c d e x5 x6 : Option jV} (K : J pc [a, b, c, d, e, none, none] st μ k n) : J pc [a, b, c, d, e, x5, x6] st μ k n := by
  refine h.2.2.2.2 _ _ _ _ _ _ _ (fun i v q => ?_) K
  match i, q with
  | 0, q => exact q
  | 1, q => exact q
  | 2, q => exact q
  | 3, q => exact q
  | 4, q => exact q
  | 5, q => cases q
  | 6, q => cases q
  | i + 7, q => simp at q
end SC
/-- the reference's things are still told when a call of the law's has written -/
theorem mR.keptL {S : jS} {μ μ' : jM} (h : mR S μ) (hF : lF μ μ') : mR S μ' := by
  have hi : ∀ kd y z, 20 ≤ kd → kd < 50 → mI μ' kd y z = mI μ kd y z := fun kd y z hk h5 => ((hF.1 kd hk (by omega)).2 y z).1
  have hp : ∀ kd y z, 20 ≤ kd → kd < 50 → mP μ' kd y z = mP μ kd y z := fun kd y z hk h5 => ((hF.1 kd hk (by omega)).2 y z).2.1
  have hn : ∀ kd, 20 ≤ kd → kd < 50 → mN μ' kd = mN μ kd := fun kd hk h5 => (hF.1 kd hk (by omega)).1
  obtain ⟨h1, ⟨a1, a2, a3, a4, a5⟩, h3, h4, h5⟩ := h
  have e20 : ∀ z, mI μ' 20 0 z = mI μ 20 0 z := fun z => hi _ _ _ (by omega) (by omega)
  refine ⟨⟨by rw [hn 20 (by omega) (by omega)]; exact h1.1, fun f hf => ⟨by rw [hn _ (by omega) (by omega)]; exact (h1.2 f hf).1, by rw [hp _ _ _ (by omega) (by omega)]; exact (h1.2 f hf).2⟩⟩, ⟨?_, ?_, ?_, ?_, ?_⟩, fun a i ha hi' => ?_, ?_, fun j hj => ?_⟩
  · rw [e20]; exact a1
  · rw [e20]; exact a2
  · rw [e20]; exact a3
  · rw [e20]; exact a4
  · rw [e20]; exact a5
  · rw [hi _ _ _ (by omega) (by omega)]; exact h3 a i ha hi'
  · rw [e20]
    refine h4.imp id (fun h => ⟨h.1, fun a ha b hb => ?_⟩)
    obtain ⟨q1, q2, q3, q4, q5⟩ := h.2 a ha b hb
    exact ⟨by rw [hi _ _ _ (by omega) (by omega)]; exact q1, by rw [hi _ _ _ (by omega) (by omega)]; exact q2, by rw [hi _ _ _ (by omega) (by omega)]; exact q3, q4, fun k hk => by rw [hi _ _ _ (by omega) (by omega)]; exact q5 k hk⟩
  · rw [hi _ _ _ (by omega) (by omega)]; exact h5 j hj
theorem lgz {a v : Int64} (h : a = v) : lg_cmp a v = 0 := by
  subst h
  unfold lg_cmp
  rw [if_neg (fun q : a > a => Int64.lt_irrefl q), if_pos rfl]
theorem lgb0 {a : Int64} {v w : Int32} (h1 : a = w.toInt64) (h2 : v = w) (h3 : v = 0) : lg_cmp a 0 = 0 := lgz (by rw [h1, ← h2, h3]; rfl)
theorem lgb1 {a : Int64} {v w : Int32} (h1 : a = w.toInt64) (h2 : v = w) (hb : w = 0 ∨ w = 1) (h3 : ¬ v = 0) : lg_cmp a 1 = 0 := lgz (by rw [h1, hb.resolve_left (fun q => h3 (h2.trans q))]; rfl)
theorem kA_0 {c : Nat} (hc : c = 0 ∨ c = 1 ∨ c = 2 ∨ c = 3) (h : nI (kA c) = 0) : c = 0 := by
  rcases hc with rfl | rfl | rfl | rfl
  · rfl
  · exact absurd h (by decide)
  · exact absurd h (by decide)
  · exact absurd h (by decide)
theorem kB_0 {c : Nat} (hc : c = 0 ∨ c = 1 ∨ c = 2 ∨ c = 3) (h : nI (kB c) = 0) : c = 0 := by
  rcases hc with rfl | rfl | rfl | rfl
  · rfl
  · exact absurd h (by decide)
  · exact absurd h (by decide)
  · exact absurd h (by decide)
theorem kC_0 {c : Nat} (hc : c = 0 ∨ c = 1 ∨ c = 2 ∨ c = 3) (h : nI (kC c) = 0) : c = 0 := by
  rcases hc with rfl | rfl | rfl | rfl
  · rfl
  · exact absurd h (by decide)
  · exact absurd h (by decide)
  · exact absurd h (by decide)
theorem kD_0 {c : Nat} (hc : c = 0 ∨ c = 1 ∨ c = 2 ∨ c = 3) (h : nI (kD c) = 0) : c = 0 := by
  rcases hc with rfl | rfl | rfl | rfl
  · rfl
  · exact absurd h (by decide)
  · exact absurd h (by decide)
  · exact absurd h (by decide)
theorem x_31 (x : Int32) : ∃ u, u < 32 ∧ x &&& 31 = nI u := by
  refine ⟨(x &&& 31).toBitVec.toNat, ?_, ?_⟩
  · rw [Int32.toBitVec_and, BitVec.toNat_and]
    exact Nat.lt_of_le_of_lt Nat.and_le_right (by decide)
  · apply Int32.toBitVec_inj.mp
    show (x &&& 31).toBitVec = BitVec.ofNat 32 (x &&& 31).toBitVec.toNat
    rw [BitVec.ofNat_toNat, BitVec.setWidth_eq]
theorem le_5 {L9 i : Nat} (hL : L9 ≤ 2560) (hi : i ≤ 2600) : (¬ (nI L9 - 5 < nI i)) ↔ i + 5 ≤ L9 := by
  have e : (nI L9 - 5 : Int32).toInt = (L9 : Int) - 5 := by
    rw [Int32.toInt_sub, nI_toInt (by omega), show (5 : Int32).toInt = 5 from rfl]
    exact Int.bmod_eq_of_le (by omega) (by omega)
  rw [Int32.lt_iff_toInt_lt, e, nI_toInt (by omega)]
  omega
theorem o_quality_s (S : jS) (a b : Int32) : (o_quality S a b).2.2 = S := by unfold o_quality; split <;> rfl
theorem o_byAll_s (S : jS) (a b : Int32) : (o_byAll S a b).2.2 = S := by unfold o_byAll; split <;> rfl
theorem o_cost_s (S : jS) (a b : Int32) : (o_cost S a b).2.2 = S := by unfold o_cost; split <;> rfl
theorem o_stepAt_s (S : jS) (a b p : Int32) : (o_stepAt S a b p).2.2 = S := by unfold o_stepAt; split <;> rfl
theorem o_haven_s (S : jS) (i : Int32) : (o_haven S i).2.2 = S := by unfold o_haven; split <;> rfl
theorem o_isSafe_s (S : jS) (i : Int32) : (o_isSafe S i).2.2 = S := by unfold o_isSafe; split <;> rfl
theorem o_get_s (S : jS) (a : Nat) (i : Int32) : (o_get S a i).2.2 = S := by unfold o_get; split <;> rfl
theorem o_promise_s (S : jS) (f j : Int32) : (o_promise S f j).2.2 = S := by unfold o_promise; split <;> rfl
theorem sA_s {S S' : jS} (h : sA S) (e : S' = S) : sA S' := by rw [e]; exact h
