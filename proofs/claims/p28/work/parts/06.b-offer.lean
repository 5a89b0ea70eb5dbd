section RW6
variable {l : Launch} {J : Nat → List (Option jV) → List jV → jM → Nat → Nat → Prop} {cc : ByteArray} {nL : Nat} {own : String} {R : Room} {rt : Option FieldType} {md : Nat} {hh : List (Nat × Nat × Nat × Nat)} {ret : Option jV → jM → Prop} {thr : String → jM → Prop} {mc ms : Nat}
variable {pc pc' : Nat} {L : List (Option jV)} {st : List jV} {μ : jM} {k n : Nat}
end RW6
/-! FRAMES OF THE SEARCH, AND THE TABLE IN THE MEMORY -/
theorem jn {J : Nat → List (Option jV) → List jV → jM → Nat → Nat → Prop} {pc tgt : Nat} {L : List (Option jV)} {st st0 : List jV} {μ : jM} {k n : Nat} {v : jV} (h : J tgt L (v :: st) μ k n → J pc L st0 μ k n) (K : J tgt L (v :: st) μ k n) : J pc L st0 μ k n := h K
def oF (Q : Nat → Nat → Prop) (μ μ' : jM) : Prop := (mN μ' = mN μ ∧ mP μ' = mP μ ∧ mG μ' = mG μ) ∧ ∀ kd y z, ¬ Q kd y → mI μ' kd y z = mI μ kd y z
theorem oF.rf {Q : Nat → Nat → Prop} {μ : jM} : oF Q μ μ := ⟨⟨rfl, rfl, rfl⟩, fun _ _ _ _ => rfl⟩
theorem oF.tr {Q : Nat → Nat → Prop} {μ μ1 μ2 : jM} (h : oF Q μ μ1) (h2 : oF Q μ1 μ2) : oF Q μ μ2 := ⟨⟨h2.1.1.trans h.1.1, h2.1.2.1.trans h.1.2.1, h2.1.2.2.trans h.1.2.2⟩, fun kd y z hq => (h2.2 kd y z hq).trans (h.2 kd y z hq)⟩
theorem oF.up {Q Q' : Nat → Nat → Prop} {μ μ1 : jM} (h : oF Q μ μ1) (hq : ∀ kd y, Q kd y → Q' kd y) : oF Q' μ μ1 := ⟨h.1, fun kd y z h2 => h.2 kd y z (fun q => h2 (hq kd y q))⟩
theorem oF_sI {Q : Nat → Nat → Prop} {μ0 μ : jM} {kd y z : Nat} {v : Int32} (hq : Q kd y) (h : oF Q μ0 μ) : oF Q μ0 (sI μ kd y z v) := ⟨h.1, fun kd' y' z' h2 => (mI_sI_n μ kd y z v (fun q => h2 (by rw [q.1, q.2.1]; exact hq))).trans (h.2 kd' y' z' h2)⟩
def sQ (a : Nat) (kd y : Nat) : Prop := kd = 9 ∨ ((kd = 14 ∨ kd = 15 ∨ kd = 16) ∧ y = a) ∨ (kd = 18 ∧ 10 * a ≤ y ∧ y < 10 * a + 10)
def oQ (a b : Nat) (kd y : Nat) : Prop := ((kd = 14 ∨ kd = 15 ∨ kd = 16) ∧ y = a) ∨ (kd = 18 ∧ y = 10 * a + b)
theorem oQ_s {a b kd y : Nat} (hb : b < 10) (h : oQ a b kd y) : sQ a kd y := by
  unfold oQ at h
  unfold sQ
  omega
theorem oF.x {a : Nat} {μ μ' : jM} (h : oF (sQ a) μ μ') : xF μ μ' := fun kd hk => ⟨by rw [h.1.1], fun y z => ⟨h.2 kd y z (by unfold sQ; omega), by rw [h.1.2.1], by rw [h.1.2.2]⟩⟩
theorem xTab_same {a : Nat} {T : jB} {μ μ' : jM} (h : xTab μ a T) (h1 : ∀ kd z, kd = 14 ∨ kd = 15 ∨ kd = 16 → mI μ' kd a z = mI μ kd a z) (h2 : ∀ b z, b < 10 → mI μ' 18 (10 * a + b) z = mI μ 18 (10 * a + b) z) : xTab μ' a T := by
  intro b hb
  obtain ⟨q1, q2, q3, q4, q5⟩ := h b hb
  exact ⟨by rw [h1 _ _ (by omega)]; exact q1, by rw [h1 _ _ (by omega)]; exact q2, by rw [h1 _ _ (by omega)]; exact q3, q4, fun k hk => by rw [h2 b k hb]; exact q5 k hk⟩
theorem xR.srch {S : jS} {μ μ' : jM} {a : Nat} (h : xR S μ) (h4 : mI μ 11 a 4 = 0) (hF : oF (sQ a) μ μ') : xR S μ' := by
  have hn : mN μ' = mN μ := hF.1.1
  have hp : mP μ' = mP μ := hF.1.2.1
  have hi : ∀ kd y z, kd < 9 ∨ (9 < kd ∧ kd < 14) → mI μ' kd y z = mI μ kd y z := fun kd y z hk => hF.2 kd y z (by unfold sQ; omega)
  refine ⟨by rw [hn, hp]; exact h.B, ⟨by rw [hn]; exact h.n12, by rw [hn]; exact h.n13, by rw [hi _ _ _ (by omega)]; exact h.fc, by rw [hi _ _ _ (by omega)]; exact h.nc⟩, ⟨by rw [hi _ _ _ (by omega)]; exact h.now, by rw [hi _ _ _ (by omega)]; exact h.bud, by rw [hi _ _ _ (by omega)]; exact h.uns⟩, fun j hj => by rw [hi _ _ _ (by omega)]; exact h.last hj, fun j hj => ?_, fun i hii => ?_, fun c hc => ?_, ⟨fun a' ha' => by rw [hp]; exact ⟨h.low ha', h.high ha'⟩, fun c a' hc ha' hf => by rw [hp]; exact h.next hc ha' hf⟩, fun a' ha' => ?_⟩
  · rw [hi _ _ _ (by omega), hi _ _ _ (by omega), hi _ _ _ (by omega)]
    exact ⟨h.ly hj, h.ll hj, h.lr hj⟩
  · simp only [hi 12 _ _ (by omega), hp]
    exact ⟨⟨h.fsz hii, h.fen hii, h.ffm hii, h.fq hii, h.frd hii, h.fst hii, h.fhl hii⟩, h.flw hii⟩
  · simp only [hi 13 _ _ (by omega)]
    exact ⟨h.cnum hc, h.cfr hc, h.cto hc, h.clo hc, h.cco hc, h.cwd hc⟩
  · rw [hi 11 _ _ (by omega)]
    by_cases e : a' = a
    · rw [e]
      exact Or.inl h4
    · refine (h.cache ha').imp id (fun q => ⟨q.1, xTab_same q.2 (fun kd z hk => hF.2 kd a' z (by unfold sQ; omega)) (fun b z hb => hF.2 18 _ z (by unfold sQ; omega))⟩)
theorem xTab_set {a b : Nat} {T : jB} {μ μ' : jM} {q c : Int32} {w : List Nat} (h : xTab μ a T) (hw : w.length ≤ 9) (h14 : ∀ y, mI μ' 14 a y = if y = b then q else mI μ 14 a y) (h15 : ∀ y, mI μ' 15 a y = if y = b then c else mI μ 15 a y) (h16 : ∀ y, mI μ' 16 a y = if y = b then nI w.length else mI μ 16 a y)
    (h18 : ∀ y z, y < 10 → y ≠ b → mI μ' 18 (10 * a + y) z = mI μ 18 (10 * a + y) z) (hb : ∀ k, k < w.length → mI μ' 18 (10 * a + b) k = nI (w.getD k 0)) : xTab μ' a (fun x => if x = b then some (q, c, w) else T x) := by
  intro y hy
  dsimp only
  rw [h14, h15, h16]
  by_cases e : y = b
  · subst e
    rw [if_pos rfl, if_pos rfl, if_pos rfl, if_pos rfl]
    exact ⟨rfl, rfl, rfl, hw, hb⟩
  · rw [if_neg e, if_neg e, if_neg e, if_neg e]
    obtain ⟨q1, q2, q3, q4, q5⟩ := h y hy
    exact ⟨q1, q2, q3, q4, fun k hk => by rw [h18 y k hy e]; exact q5 k hk⟩
theorem ofr_t {T : jB} {b : Nat} {q c : Int32} {w : List Nat} (h : btr (T b) q c w.length = true) : ofr T b q c w = fun x => if x = b then some (q, c, w) else T x := by
  funext x
  unfold ofr
  by_cases e : x = b
  · rw [if_pos e, if_pos ⟨e, h⟩]
  · rw [if_neg e, if_neg (fun q => e q.1)]
theorem ofr_f {T : jB} {b : Nat} {q c : Int32} {w : List Nat} (h : ¬ btr (T b) q c w.length = true) : ofr T b q c w = T := by
  funext x
  unfold ofr
  rw [if_neg (fun q => h q.2)]
/-- the trail holds a way -/
def trl (μ : jM) (w : List Nat) : Prop := ∀ k, k < w.length → mI μ 9 0 k = nI (w.getD k 0)
abbrev f1 (T : jB) (b : Nat) : Prop := bq (T b) = -1
abbrev f2 (T : jB) (b : Nat) (c : Int32) : Prop := c < bc (T b)
abbrev f3 (T : jB) (b n : Nat) : Prop := nI n < nI (bw (T b)).length
abbrev f4 (T : jB) (b : Nat) (q c : Int32) (n : Nat) : Prop := bq (T b) < q ∨ (q = bq (T b) ∧ (f2 T b c ∨ (c = bc (T b) ∧ f3 T b n)))
theorem off_1 {T : jB} {b n : Nat} {q c : Int32} (h : ∀ e, T b = some e → e.1 ≠ -1 ∧ e.2.2.length ≤ 9) (hn : n ≤ 9) : (f1 T b ∨ f4 T b q c n) ↔ btr (T b) q c n = true := by
  unfold f4 f3 f2 f1
  cases hT : T b with
  | none => exact ⟨fun _ => rfl, fun _ => Or.inl rfl⟩
  | some e =>
    obtain ⟨q0, c0, w0⟩ := e
    obtain ⟨h1, h2⟩ := h _ hT
    simp only [bq, bc, bw, btr, Bool.or_eq_true, Bool.and_eq_true, decide_eq_true_eq, nI_ltI (show n < 2 ^ 31 by omega) (show w0.length < 2 ^ 31 by have : w0.length ≤ 9 := h2; omega)]
    exact ⟨fun q => q.elim (fun q => absurd q h1) id, Or.inr⟩
theorem off_2 {T : jB} {b n : Nat} {q c : Int32} (h : ∀ e, T b = some e → e.1 ≠ -1 ∧ e.2.2.length ≤ 9) (hn : n ≤ 9) : ((f1 T b ∨ f4 T b q c n) ∨ (f2 T b c ∨ f3 T b n)) ↔ kp T b q c n = true := by
  rw [off_1 h hn]
  unfold f3 f2 kp
  cases hT : T b with
  | none => exact ⟨fun _ => rfl, fun _ => Or.inl rfl⟩
  | some e =>
    obtain ⟨q0, c0, w0⟩ := e
    obtain ⟨h1, h2⟩ := h _ hT
    simp only [bc, bw, Bool.or_eq_true, decide_eq_true_eq, nI_ltI (show n < 2 ^ 31 by omega) (show w0.length < 2 ^ 31 by have : w0.length ≤ 9 := h2; omega)]

set_option maxRecDepth 20000 in
theorem c_X0_restart {l : Launch} (hst : l.stackTraces = false) (S : jS) (a : Nat) : jMet l yX0_restart cX0_restart 3 none 6 100 0 0 (fun avs μ => avs = [aR 11 a, aI (nI a)] ∧ xR S μ ∧ a < 10 ∧ mI μ 11 a 4 = 0) (fun avs μ r μ' => r = none ∧ oF (oQ a a) μ μ' ∧ xTab μ' a (ofr (fun _ => none) a 1000 0 [])) (fun avs μ E μ' => False) := by
  refine jMet_of hst (by decide) ?_
  intro avs μ J C hav hpre
  obtain ⟨rfl, hR, ha, h4⟩ := hpre
  refine ⟨Nat.le_of_ble_eq_true rfl, ?_⟩
  show J 0 [some (aR 11 a), some (aI (nI a)), none] [] μ 0 0
  refine mj_iconst (pc' := 1) (v := 0) C dX0_restart_0 rfl rfl ?_
  refine mj_istore_n_2 (pc' := 2) C dX0_restart_1 rfl (by decide) rfl ?_
  have loop : ∀ (d : Nat) (i : Nat) (μ1 : jM), i + d = 10 → xR S μ1 → oF (oQ a a) μ μ1 → (∀ b, b < i → mI μ1 14 a b = -1 ∧ mI μ1 15 a b = -1 ∧ mI μ1 16 a b = 0) → J 2 [some (aR 11 a), some (aI (nI a)), some (aI (nI i))] [] μ1 0 0 := by
    intro d
    induction d with
    | zero =>
      intro i μ1 hd hR1 hF hz
      obtain rfl : i = 10 := by omega
      refine mj_iload_n (pc' := 3) C dX0_restart_2 rfl rfl ?_
      refine mj_bipush (pc' := 5) (v := 10) C dX0_restart_3 rfl rfl ?_
      refine mj_icmp_ge (tgt := 35) (pc' := 8) C dX0_restart_5 (by decide) rfl (fun _ => ?_) (fun h9 => absurd (by decide) h9)
      refine mj_aload_n (pc' := 36) C dX0_restart_35 rfl rfl ?_
      refine mj_getR (pc' := 39) C dX0_restart_36 rfl (ci := 0) (f := 0) rfl (by decide) (by decide) (fun _ => rfl) (by decide) kf_X0_9 (hR1.B.l11 (by first | assumption | omega)) (hR1.B.pq (by first | assumption | omega)) ?_
      refine mj_iload_n (pc' := 40) C dX0_restart_39 rfl rfl ?_
      refine mj_sipush (pc' := 43) (v := 1000) C dX0_restart_40 rfl rfl ?_
      refine mj_iast (pc' := 44) C dX0_restart_43 rfl rfl (by decide) (by decide) (hR1.B.l14 (by first | assumption | omega)) rfl (by first | assumption | omega) ?_
      refine mj_aload_n (pc' := 45) C dX0_restart_44 rfl rfl ?_
      refine mj_getR (pc' := 48) C dX0_restart_45 rfl (ci := 0) (f := 1) rfl (by decide) (by decide) (fun _ => rfl) (by decide) kf_X0_15 (hR1.B.l11 (by first | assumption | omega)) (hR1.B.pc (by first | assumption | omega)) ?_
      refine mj_iload_n (pc' := 49) C dX0_restart_48 rfl rfl ?_
      refine mj_iconst (pc' := 50) (v := 0) C dX0_restart_49 rfl rfl ?_
      refine mj_iast (pc' := 51) C dX0_restart_50 rfl rfl (by decide) (by decide) (hR1.B.l15 (by first | assumption | omega)) rfl (by first | assumption | omega) ?_
      refine mj_vret C dX0_restart_51 (by decide) (by decide) (by decide) ?_
      refine ⟨rfl, (oF_sI (Or.inl ⟨by omega, rfl⟩) (oF_sI (Or.inl ⟨by omega, rfl⟩) hF)), ?_⟩
      rw [ofr_t rfl]
      refine xTab_set (μ := μ1) (fun b hb => ⟨(hz b hb).1, (hz b hb).2.1, (hz b hb).2.2, Nat.zero_le _, fun k hk => absurd hk (Nat.not_lt_zero k)⟩) (Nat.zero_le _) (fun y => ?_) (fun y => ?_) (fun y => ?_) (fun y z _ _ => ?_) (fun k hk => absurd hk (Nat.not_lt_zero k))
      · rw [mI_sI_n _ _ _ _ _ (by omega), mI_sI]; simp
      · rw [mI_sI, mI_sI_n _ _ _ _ _ (by omega)]; simp
      · rw [mI_sI_n _ _ _ _ _ (by omega), mI_sI_n _ _ _ _ _ (by omega)]; split; · rename_i e; rw [e, (hz a ha).2.2]; rfl
        · rfl
      · rw [mI_sI_n _ _ _ _ _ (by omega), mI_sI_n _ _ _ _ _ (by omega)]
    | succ d ih =>
      intro i μ1 hd hR1 hF hz
      have hlt : i < 10 := by omega
      refine mj_iload_n (pc' := 3) C dX0_restart_2 rfl rfl ?_
      refine mj_bipush (pc' := 5) (v := 10) C dX0_restart_3 rfl rfl ?_
      refine mj_icmp_ge (tgt := 35) (pc' := 8) C dX0_restart_5 (by decide) rfl (fun h9 => absurd h9 (nI_ge (b := 10) hlt (by decide))) (fun _ => ?_)
      refine mj_aload_n (pc' := 9) C dX0_restart_8 rfl rfl ?_
      refine mj_getR (pc' := 12) C dX0_restart_9 rfl (ci := 0) (f := 0) rfl (by decide) (by decide) (fun _ => rfl) (by decide) kf_X0_9 (hR1.B.l11 (by first | assumption | omega)) (hR1.B.pq (by first | assumption | omega)) ?_
      refine mj_iload_n (pc' := 13) C dX0_restart_12 rfl rfl ?_
      refine mj_iconst (pc' := 14) (v := (-1)) C dX0_restart_13 rfl rfl ?_
      refine mj_iast (pc' := 15) C dX0_restart_14 rfl rfl (by decide) (by decide) (hR1.B.l14 (by first | assumption | omega)) rfl (by first | assumption | omega) ?_
      refine mj_aload_n (pc' := 16) C dX0_restart_15 rfl rfl ?_
      refine mj_getR (pc' := 19) C dX0_restart_16 rfl (ci := 0) (f := 1) rfl (by decide) (by decide) (fun _ => rfl) (by decide) kf_X0_15 (hR1.B.l11 (by first | assumption | omega)) (hR1.B.pc (by first | assumption | omega)) ?_
      refine mj_iload_n (pc' := 20) C dX0_restart_19 rfl rfl ?_
      refine mj_iconst (pc' := 21) (v := (-1)) C dX0_restart_20 rfl rfl ?_
      refine mj_iast (pc' := 22) C dX0_restart_21 rfl rfl (by decide) (by decide) (hR1.B.l15 (by first | assumption | omega)) rfl (by first | assumption | omega) ?_
      refine mj_aload_n (pc' := 23) C dX0_restart_22 rfl rfl ?_
      refine mj_getR (pc' := 26) C dX0_restart_23 rfl (ci := 0) (f := 2) rfl (by decide) (by decide) (fun _ => rfl) (by decide) kf_X0_18 (hR1.B.l11 (by first | assumption | omega)) (hR1.B.pl (by first | assumption | omega)) ?_
      refine mj_iload_n (pc' := 27) C dX0_restart_26 rfl rfl ?_
      refine mj_iconst (pc' := 28) (v := 0) C dX0_restart_27 rfl rfl ?_
      refine mj_iast (pc' := 29) C dX0_restart_28 rfl rfl (by decide) (by decide) (hR1.B.l16 (by first | assumption | omega)) rfl (by first | assumption | omega) ?_
      refine mj_iinc_2 (pc' := 32) (w := 1) C dX0_restart_29 rfl rfl (by decide) rfl ?_
      refine mj_goto (pc' := 2) C dX0_restart_32 (by decide) ?_
      rw [nI_1]
      refine ih (i + 1) _ (by omega) (xR.srch (a := a) hR1 (by rw [hF.2 _ _ _ (by unfold oQ; omega)]; exact h4) (oF_sI (Or.inr (Or.inl ⟨by omega, rfl⟩)) (oF_sI (Or.inr (Or.inl ⟨by omega, rfl⟩)) (oF_sI (Or.inr (Or.inl ⟨by omega, rfl⟩)) oF.rf)))) (oF_sI (Or.inl ⟨by omega, rfl⟩) (oF_sI (Or.inl ⟨by omega, rfl⟩) (oF_sI (Or.inl ⟨by omega, rfl⟩) hF))) (fun b hb => ?_)
      by_cases e : b = i
      · subst e; simp [mI_sI]
      · obtain ⟨z1, z2, z3⟩ := hz b (by omega)
        simp [mI_sI, e, z1, z2, z3]
  exact loop 10 0 _ (by omega) hR oF.rf (fun b hb => absurd hb (Nat.not_lt_zero b))

set_option maxRecDepth 20000 in
theorem c_X0_offer {l : Launch} (hst : l.stackTraces = false) (S : jS) (T : jB) (a b : Nat) (q c : Int32) (w : List Nat) : jMet l yX0_offer cX0_offer 11 (some FieldType.boolean) 6 100 0 0 (fun avs μ => avs = [aR 11 a, aI (nI b), aI q, aI c, aR 9 0, aI (nI w.length)] ∧ xR S μ ∧ (a < 10 ∧ b < 10 ∧ w.length ≤ 9 ∧ mI μ 11 a 4 = 0) ∧ xTab μ a T ∧ (∀ e, T b = some e → e.1 ≠ -1 ∧ e.2.2.length ≤ 9) ∧ trl μ w) (fun avs μ r μ' => r = some (aI (b1 (kp T b q c w.length = true))) ∧ oF (oQ a b) μ μ' ∧ xTab μ' a (ofr T b q c w)) (fun avs μ E μ' => False) := by
  refine jMet_of hst (by decide) ?_
  intro avs μ J C hav hpre
  obtain ⟨rfl, hR, ⟨ha, hb, hw, h4⟩, hT, hTb, htr⟩ := hpre
  refine ⟨Nat.le_of_ble_eq_true rfl, ?_⟩
  show J 0 [some (aR 11 a), some (aI (nI b)), some (aI q), some (aI c), some (aR 9 0), some (aI (nI w.length)), none, none, none, none, none] [] μ 0 0
  refine mj_aload_n (pc' := 1) C dX0_offer_0 rfl rfl ?_
  refine mj_getR (pc' := 4) C dX0_offer_1 rfl (ci := 0) (f := 0) rfl (by decide) (by decide) (fun _ => rfl) (by decide) kf_X0_9 (hR.B.l11 (by first | assumption | omega)) (hR.B.pq (by first | assumption | omega)) ?_
  refine mj_iload_n (pc' := 5) C dX0_offer_4 rfl rfl ?_
  refine mj_ialdV (pc' := 6) C dX0_offer_5 rfl rfl (by decide) (by decide) (hR.B.l14 (by first | assumption | omega)) rfl (by first | assumption | omega) (hT b hb).1 ?_
  refine mj_iconst (pc' := 7) (v := (-1)) C dX0_offer_6 rfl rfl ?_
  refine jn (tgt := 15) (v := aI (b1 (f1 T b))) (st := []) (fun K7 => ?_) ?_
  · refine mj_icmp_ne (tgt := 14) (pc' := 10) C dX0_offer_7 (by decide) rfl (fun h7 => ?_) (fun h7 => ?_)
    · have ej : b1 (f1 T b) = 0 := b1_f (h7)
      refine mj_iconst (pc' := 15) (v := 0) C dX0_offer_14 rfl rfl ?_
      rw [ej] at K7
      exact K7
    · have ej : b1 (f1 T b) = 1 := b1_t (h7)
      refine mj_iconst (pc' := 11) (v := 1) C dX0_offer_10 rfl rfl ?_
      refine mj_goto (pc' := 15) C dX0_offer_11 (by decide) ?_
      rw [ej] at K7
      exact K7
  refine mj_istore_6 (pc' := 17) C dX0_offer_15 rfl (by decide) rfl ?_
  refine mj_iload_n (pc' := 18) C dX0_offer_17 rfl rfl ?_
  refine mj_aload_n (pc' := 19) C dX0_offer_18 rfl rfl ?_
  refine mj_getR (pc' := 22) C dX0_offer_19 rfl (ci := 0) (f := 1) rfl (by decide) (by decide) (fun _ => rfl) (by decide) kf_X0_15 (hR.B.l11 (by first | assumption | omega)) (hR.B.pc (by first | assumption | omega)) ?_
  refine mj_iload_n (pc' := 23) C dX0_offer_22 rfl rfl ?_
  refine mj_ialdV (pc' := 24) C dX0_offer_23 rfl rfl (by decide) (by decide) (hR.B.l15 (by first | assumption | omega)) rfl (by first | assumption | omega) (hT b hb).2.1 ?_
  refine jn (tgt := 32) (v := aI (b1 (f2 T b c))) (st := []) (fun K24 => ?_) ?_
  · refine mj_icmp_ge (tgt := 31) (pc' := 27) C dX0_offer_24 (by decide) rfl (fun h24 => ?_) (fun h24 => ?_)
    · have ej : b1 (f2 T b c) = 0 := b1_f (Int32.not_lt.mpr h24)
      refine mj_iconst (pc' := 32) (v := 0) C dX0_offer_31 rfl rfl ?_
      rw [ej] at K24
      exact K24
    · have ej : b1 (f2 T b c) = 1 := b1_t (Int32.not_le.mp h24)
      refine mj_iconst (pc' := 28) (v := 1) C dX0_offer_27 rfl rfl ?_
      refine mj_goto (pc' := 32) C dX0_offer_28 (by decide) ?_
      rw [ej] at K24
      exact K24
  refine mj_istore_7 (pc' := 34) C dX0_offer_32 rfl (by decide) rfl ?_
  refine mj_iload (pc' := 36) C dX0_offer_34 rfl rfl ?_
  refine mj_aload_n (pc' := 37) C dX0_offer_36 rfl rfl ?_
  refine mj_getR (pc' := 40) C dX0_offer_37 rfl (ci := 0) (f := 2) rfl (by decide) (by decide) (fun _ => rfl) (by decide) kf_X0_18 (hR.B.l11 (by first | assumption | omega)) (hR.B.pl (by first | assumption | omega)) ?_
  refine mj_iload_n (pc' := 41) C dX0_offer_40 rfl rfl ?_
  refine mj_ialdV (pc' := 42) C dX0_offer_41 rfl rfl (by decide) (by decide) (hR.B.l16 (by first | assumption | omega)) rfl (by first | assumption | omega) (hT b hb).2.2.1 ?_
  refine jn (tgt := 50) (v := aI (b1 (f3 T b w.length))) (st := []) (fun K42 => ?_) ?_
  · refine mj_icmp_ge (tgt := 49) (pc' := 45) C dX0_offer_42 (by decide) rfl (fun h42 => ?_) (fun h42 => ?_)
    · have ej : b1 (f3 T b w.length) = 0 := b1_f (Int32.not_lt.mpr h42)
      refine mj_iconst (pc' := 50) (v := 0) C dX0_offer_49 rfl rfl ?_
      rw [ej] at K42
      exact K42
    · have ej : b1 (f3 T b w.length) = 1 := b1_t (Int32.not_le.mp h42)
      refine mj_iconst (pc' := 46) (v := 1) C dX0_offer_45 rfl rfl ?_
      refine mj_goto (pc' := 50) C dX0_offer_46 (by decide) ?_
      rw [ej] at K42
      exact K42
  refine mj_istore_8 (pc' := 52) C dX0_offer_50 rfl (by decide) rfl ?_
  refine mj_iload_n (pc' := 53) C dX0_offer_52 rfl rfl ?_
  refine mj_aload_n (pc' := 54) C dX0_offer_53 rfl rfl ?_
  refine mj_getR (pc' := 57) C dX0_offer_54 rfl (ci := 0) (f := 0) rfl (by decide) (by decide) (fun _ => rfl) (by decide) kf_X0_9 (hR.B.l11 (by first | assumption | omega)) (hR.B.pq (by first | assumption | omega)) ?_
  refine mj_iload_n (pc' := 58) C dX0_offer_57 rfl rfl ?_
  refine mj_ialdV (pc' := 59) C dX0_offer_58 rfl rfl (by decide) (by decide) (hR.B.l14 (by first | assumption | omega)) rfl (by first | assumption | omega) (hT b hb).1 ?_
  refine jn (tgt := 97) (v := aI (b1 (f4 T b q c w.length))) (st := []) (fun K59 => ?_) ?_
  · refine mj_icmp_gt (tgt := 92) (pc' := 62) C dX0_offer_59 (by decide) rfl (fun h59 => ?_) (fun h59 => ?_)
    · have ej : b1 (f4 T b q c w.length) = 1 := b1_t (Or.inl h59)
      refine mj_iconst (pc' := 93) (v := 1) C dX0_offer_92 rfl rfl ?_
      refine mj_goto (pc' := 97) C dX0_offer_93 (by decide) ?_
      rw [ej] at K59
      exact K59
    · refine mj_iload_n (pc' := 63) C dX0_offer_62 rfl rfl ?_
      refine mj_aload_n (pc' := 64) C dX0_offer_63 rfl rfl ?_
      refine mj_getR (pc' := 67) C dX0_offer_64 rfl (ci := 0) (f := 0) rfl (by decide) (by decide) (fun _ => rfl) (by decide) kf_X0_9 (hR.B.l11 (by first | assumption | omega)) (hR.B.pq (by first | assumption | omega)) ?_
      refine mj_iload_n (pc' := 68) C dX0_offer_67 rfl rfl ?_
      refine mj_ialdV (pc' := 69) C dX0_offer_68 rfl rfl (by decide) (by decide) (hR.B.l14 (by first | assumption | omega)) rfl (by first | assumption | omega) (hT b hb).1 ?_
      refine mj_icmp_ne (tgt := 96) (pc' := 72) C dX0_offer_69 (by decide) rfl (fun h69 => ?_) (fun h69 => ?_)
      · have ej : b1 (f4 T b q c w.length) = 0 := b1_f (fun h => h.elim h59 (fun h => h69 h.1))
        refine mj_iconst (pc' := 97) (v := 0) C dX0_offer_96 rfl rfl ?_
        rw [ej] at K59
        exact K59
      · refine mj_iload (pc' := 74) C dX0_offer_72 rfl rfl ?_
        refine mj_if_ne (tgt := 92) (pc' := 77) C dX0_offer_74 (by decide) rfl (fun h74 => ?_) (fun h74 => ?_)
        · have ej : b1 (f4 T b q c w.length) = 1 := b1_t (Or.inr ⟨h69, Or.inl (b1_n h74)⟩)
          refine mj_iconst (pc' := 93) (v := 1) C dX0_offer_92 rfl rfl ?_
          refine mj_goto (pc' := 97) C dX0_offer_93 (by decide) ?_
          rw [ej] at K59
          exact K59
        · refine mj_iload_n (pc' := 78) C dX0_offer_77 rfl rfl ?_
          refine mj_aload_n (pc' := 79) C dX0_offer_78 rfl rfl ?_
          refine mj_getR (pc' := 82) C dX0_offer_79 rfl (ci := 0) (f := 1) rfl (by decide) (by decide) (fun _ => rfl) (by decide) kf_X0_15 (hR.B.l11 (by first | assumption | omega)) (hR.B.pc (by first | assumption | omega)) ?_
          refine mj_iload_n (pc' := 83) C dX0_offer_82 rfl rfl ?_
          refine mj_ialdV (pc' := 84) C dX0_offer_83 rfl rfl (by decide) (by decide) (hR.B.l15 (by first | assumption | omega)) rfl (by first | assumption | omega) (hT b hb).2.1 ?_
          refine mj_icmp_ne (tgt := 96) (pc' := 87) C dX0_offer_84 (by decide) rfl (fun h84 => ?_) (fun h84 => ?_)
          · have ej : b1 (f4 T b q c w.length) = 0 := b1_f (fun h => h.elim h59 (fun h => h.2.elim (b1_0.mp h74) (fun h => h84 h.1)))
            refine mj_iconst (pc' := 97) (v := 0) C dX0_offer_96 rfl rfl ?_
            rw [ej] at K59
            exact K59
          · refine mj_iload (pc' := 89) C dX0_offer_87 rfl rfl ?_
            refine mj_if_eq (tgt := 96) (pc' := 92) C dX0_offer_89 (by decide) rfl (fun h89 => ?_) (fun h89 => ?_)
            · have ej : b1 (f4 T b q c w.length) = 0 := b1_f (fun h => h.elim h59 (fun h => h.2.elim (b1_0.mp h74) (fun h => b1_0.mp h89 h.2)))
              refine mj_iconst (pc' := 97) (v := 0) C dX0_offer_96 rfl rfl ?_
              rw [ej] at K59
              exact K59
            · have ej : b1 (f4 T b q c w.length) = 1 := b1_t (Or.inr ⟨h69, Or.inr ⟨h84, b1_n h89⟩⟩)
              refine mj_iconst (pc' := 93) (v := 1) C dX0_offer_92 rfl rfl ?_
              refine mj_goto (pc' := 97) C dX0_offer_93 (by decide) ?_
              rw [ej] at K59
              exact K59
  refine mj_istore_9 (pc' := 99) C dX0_offer_97 rfl (by decide) rfl ?_
  refine mj_iload (pc' := 101) C dX0_offer_99 rfl rfl ?_
  refine mj_if_ne (tgt := 109) (pc' := 104) C dX0_offer_101 (by decide) rfl (fun h101 => ?_) (fun h101 => ?_)
  · have hbt : btr (T b) q c w.length = true := (off_1 hTb hw).mp (Or.inl (b1_n h101))
    refine mj_aload_n (pc' := 110) C dX0_offer_109 rfl rfl ?_
    refine mj_getR (pc' := 113) C dX0_offer_110 rfl (ci := 0) (f := 0) rfl (by decide) (by decide) (fun _ => rfl) (by decide) kf_X0_9 (hR.B.l11 (by first | assumption | omega)) (hR.B.pq (by first | assumption | omega)) ?_
    refine mj_iload_n (pc' := 114) C dX0_offer_113 rfl rfl ?_
    refine mj_iload_n (pc' := 115) C dX0_offer_114 rfl rfl ?_
    refine mj_iast (pc' := 116) C dX0_offer_115 rfl rfl (by decide) (by decide) (hR.B.l14 (by first | assumption | omega)) rfl (by first | assumption | omega) ?_
    refine mj_aload_n (pc' := 117) C dX0_offer_116 rfl rfl ?_
    refine mj_getR (pc' := 120) C dX0_offer_117 rfl (ci := 0) (f := 1) rfl (by decide) (by decide) (fun _ => rfl) (by decide) kf_X0_15 (hR.B.l11 (by first | assumption | omega)) (hR.B.pc (by first | assumption | omega)) ?_
    refine mj_iload_n (pc' := 121) C dX0_offer_120 rfl rfl ?_
    refine mj_iload_n (pc' := 122) C dX0_offer_121 rfl rfl ?_
    refine mj_iast (pc' := 123) C dX0_offer_122 rfl rfl (by decide) (by decide) (hR.B.l15 (by first | assumption | omega)) rfl (by first | assumption | omega) ?_
    refine mj_aload_n (pc' := 124) C dX0_offer_123 rfl rfl ?_
    refine mj_getR (pc' := 127) C dX0_offer_124 rfl (ci := 0) (f := 2) rfl (by decide) (by decide) (fun _ => rfl) (by decide) kf_X0_18 (hR.B.l11 (by first | assumption | omega)) (hR.B.pl (by first | assumption | omega)) ?_
    refine mj_iload_n (pc' := 128) C dX0_offer_127 rfl rfl ?_
    refine mj_iload (pc' := 130) C dX0_offer_128 rfl rfl ?_
    refine mj_iast (pc' := 131) C dX0_offer_130 rfl rfl (by decide) (by decide) (hR.B.l16 (by first | assumption | omega)) rfl (by first | assumption | omega) ?_
    refine mj_iconst (pc' := 132) (v := 0) C dX0_offer_131 rfl rfl ?_
    refine mj_istore_10 (pc' := 134) C dX0_offer_132 rfl (by decide) rfl ?_
    have loop : ∀ (d : Nat) (i : Nat) (μ1 : jM), i + d = w.length → xR S μ1 → oF (fun kd y => kd = 18 ∧ y = 10 * a + b) (sI (sI (sI μ 14 a b q) 15 a b c) 16 a b (nI w.length)) μ1 → (∀ k, k < i → mI μ1 18 (10 * a + b) k = nI (w.getD k 0)) → J 134 [some (aR 11 a), some (aI (nI b)), some (aI q), some (aI c), some (aR 9 0), some (aI (nI w.length)), some (aI (b1 (f1 T b))), some (aI (b1 (f2 T b c))), some (aI (b1 (f3 T b w.length))), some (aI (b1 (f4 T b q c w.length))), some (aI (nI i))] [] μ1 0 0 := by
      intro d
      induction d with
      | zero =>
        intro i μ1 hd hR1 hF hz
        obtain rfl : i = w.length := by omega
        have hres : oF (oQ a b) μ μ1 ∧ xTab μ1 a (ofr T b q c w) := by
          refine ⟨(oF_sI (Or.inl ⟨by omega, rfl⟩) (oF_sI (Or.inl ⟨by omega, rfl⟩) (oF_sI (Or.inl ⟨by omega, rfl⟩) oF.rf))).tr (hF.up (fun kd y q => Or.inr q)), ?_⟩
          rw [ofr_t hbt]
          refine xTab_set hT hw (fun y => ?_) (fun y => ?_) (fun y => ?_) (fun y z hy e => ?_) hz
          · rw [hF.2 _ _ _ (by omega)]; simp [mI_sI]
          · rw [hF.2 _ _ _ (by omega)]; simp [mI_sI]
          · rw [hF.2 _ _ _ (by omega)]; simp [mI_sI]
          · rw [hF.2 _ _ _ (by omega)]; simp [mI_sI]
        refine mj_iload (pc' := 136) C dX0_offer_134 rfl rfl ?_
        refine mj_iload (pc' := 138) C dX0_offer_136 rfl rfl ?_
        refine mj_icmp_ge (tgt := 161) (pc' := 141) C dX0_offer_138 (by decide) rfl (fun _ => ?_) (fun h9 => absurd (Int32.le_refl _) h9)
        refine mj_iload (pc' := 163) C dX0_offer_161 rfl rfl ?_
        refine jn (tgt := 186) (v := aI (b1 ((f1 T b ∨ f4 T b q c w.length) ∨ (f2 T b c ∨ f3 T b w.length)))) (st := []) (fun K163 => ?_) ?_
        · refine mj_if_ne (tgt := 181) (pc' := 166) C dX0_offer_163 (by decide) rfl (fun h163 => ?_) (fun h163 => ?_)
          · have ej : b1 ((f1 T b ∨ f4 T b q c w.length) ∨ (f2 T b c ∨ f3 T b w.length)) = 1 := b1_t (Or.inl (Or.inl (b1_n h163)))
            refine mj_iconst (pc' := 182) (v := 1) C dX0_offer_181 rfl rfl ?_
            refine mj_goto (pc' := 186) C dX0_offer_182 (by decide) ?_
            rw [ej] at K163
            exact K163
          · refine mj_iload (pc' := 168) C dX0_offer_166 rfl rfl ?_
            refine mj_if_ne (tgt := 181) (pc' := 171) C dX0_offer_168 (by decide) rfl (fun h168 => ?_) (fun h168 => ?_)
            · have ej : b1 ((f1 T b ∨ f4 T b q c w.length) ∨ (f2 T b c ∨ f3 T b w.length)) = 1 := b1_t (Or.inl (Or.inr (b1_n h168)))
              refine mj_iconst (pc' := 182) (v := 1) C dX0_offer_181 rfl rfl ?_
              refine mj_goto (pc' := 186) C dX0_offer_182 (by decide) ?_
              rw [ej] at K163
              exact K163
            · refine mj_iload (pc' := 173) C dX0_offer_171 rfl rfl ?_
              refine mj_if_ne (tgt := 181) (pc' := 176) C dX0_offer_173 (by decide) rfl (fun h173 => ?_) (fun h173 => ?_)
              · have ej : b1 ((f1 T b ∨ f4 T b q c w.length) ∨ (f2 T b c ∨ f3 T b w.length)) = 1 := b1_t (Or.inr (Or.inl (b1_n h173)))
                refine mj_iconst (pc' := 182) (v := 1) C dX0_offer_181 rfl rfl ?_
                refine mj_goto (pc' := 186) C dX0_offer_182 (by decide) ?_
                rw [ej] at K163
                exact K163
              · refine mj_iload (pc' := 178) C dX0_offer_176 rfl rfl ?_
                refine mj_if_eq (tgt := 185) (pc' := 181) C dX0_offer_178 (by decide) rfl (fun h178 => ?_) (fun h178 => ?_)
                · have ej : b1 ((f1 T b ∨ f4 T b q c w.length) ∨ (f2 T b c ∨ f3 T b w.length)) = 0 := b1_f (fun h => h.elim (fun h => h.elim (b1_0.mp h163) (b1_0.mp h168)) (fun h => h.elim (b1_0.mp h173) (b1_0.mp h178)))
                  refine mj_iconst (pc' := 186) (v := 0) C dX0_offer_185 rfl rfl ?_
                  rw [ej] at K163
                  exact K163
                · have ej : b1 ((f1 T b ∨ f4 T b q c w.length) ∨ (f2 T b c ∨ f3 T b w.length)) = 1 := b1_t (Or.inr (Or.inr (b1_n h178)))
                  refine mj_iconst (pc' := 182) (v := 1) C dX0_offer_181 rfl rfl ?_
                  refine mj_goto (pc' := 186) C dX0_offer_182 (by decide) ?_
                  rw [ej] at K163
                  exact K163
        refine mj_zret C b1_and dX0_offer_186 (by decide) (by decide) (by decide) ?_
        refine ⟨?_, hres⟩
        congr 2
        unfold b1
        simp only [off_2 hTb hw]
      | succ d ih =>
        intro i μ1 hd hR1 hF hz
        have hlt : i < w.length := by omega
        refine mj_iload (pc' := 136) C dX0_offer_134 rfl rfl ?_
        refine mj_iload (pc' := 138) C dX0_offer_136 rfl rfl ?_
        refine mj_icmp_ge (tgt := 161) (pc' := 141) C dX0_offer_138 (by decide) rfl (fun h9 => absurd h9 (nI_ge hlt (by omega))) (fun _ => ?_)
        refine mj_aload_n (pc' := 142) C dX0_offer_141 rfl rfl ?_
        refine mj_getR (pc' := 145) C dX0_offer_142 rfl (ci := 0) (f := 3) rfl (by decide) (by decide) (fun _ => rfl) (by decide) kf_X0_23 (hR1.B.l11 (by first | assumption | omega)) (hR1.B.ps (by first | assumption | omega)) ?_
        refine mj_iload_n (pc' := 146) C dX0_offer_145 rfl rfl ?_
        refine mj_aald (pc' := 147) C dX0_offer_146 rfl rfl (by decide) rfl (fun _ _ => rfl) (by decide) (by decide) (hR1.B.l17 (by first | assumption | omega)) rfl (by first | assumption | omega) (hR1.B.p17 (by first | assumption | omega) (by first | assumption | omega)) ?_
        refine mj_iload (pc' := 149) C dX0_offer_147 rfl rfl ?_
        refine mj_aload (pc' := 151) C dX0_offer_149 rfl rfl ?_
        refine mj_iload (pc' := 153) C dX0_offer_151 rfl rfl ?_
        refine mj_ialdV (pc' := 154) C dX0_offer_153 rfl rfl (by decide) (by decide) hR1.B.l9 rfl (by first | assumption | omega) ((hF.2 9 0 i (by omega)).trans (Eq.trans (by simp [mI_sI]) (htr i hlt))) ?_
        refine mj_iast (pc' := 155) C dX0_offer_154 rfl rfl (by decide) (by decide) (hR1.B.l18 (by first | assumption | omega)) rfl (by first | assumption | omega) ?_
        refine mj_iinc_10 (pc' := 158) (w := 1) C dX0_offer_155 rfl rfl (by decide) rfl ?_
        refine mj_goto (pc' := 134) C dX0_offer_158 (by decide) ?_
        rw [nI_1]
        refine ih (i + 1) _ (by omega) (xR.srch (a := a) hR1 (by rw [hF.2 _ _ _ (by omega)]; simpa [mI_sI] using h4) (oF_sI (Or.inr (Or.inr ⟨rfl, by omega, by omega⟩)) oF.rf)) (oF_sI ⟨rfl, rfl⟩ hF) (fun k hk => ?_)
        by_cases e : k = i
        · subst e; simp [mI_sI]
        · rw [mI_sI_n _ _ _ _ _ (by omega)]; exact hz k (by omega)
    exact loop w.length 0 _ (by omega) (xR.srch (a := a) hR h4 (oF_sI (Or.inr (Or.inl ⟨by omega, rfl⟩)) (oF_sI (Or.inr (Or.inl ⟨by omega, rfl⟩)) (oF_sI (Or.inr (Or.inl ⟨by omega, rfl⟩)) oF.rf)))) oF.rf (fun k hk => absurd hk (Nat.not_lt_zero k))
  · refine mj_iload (pc' := 106) C dX0_offer_104 rfl rfl ?_
    refine mj_if_eq (tgt := 161) (pc' := 109) C dX0_offer_106 (by decide) rfl (fun h106 => ?_) (fun h106 => ?_)
    · have hbt : ¬ btr (T b) q c w.length = true := fun h => ((off_1 hTb hw).mpr h).elim (b1_0.mp h101) (b1_0.mp h106)
      have hres : oF (oQ a b) μ μ ∧ xTab μ a (ofr T b q c w) := ⟨oF.rf, by rw [ofr_f hbt]; exact hT⟩
      refine mj_iload (pc' := 163) C dX0_offer_161 rfl rfl ?_
      refine jn (tgt := 186) (v := aI (b1 ((f1 T b ∨ f4 T b q c w.length) ∨ (f2 T b c ∨ f3 T b w.length)))) (st := []) (fun K163 => ?_) ?_
      · refine mj_if_ne (tgt := 181) (pc' := 166) C dX0_offer_163 (by decide) rfl (fun h163 => ?_) (fun h163 => ?_)
        · have ej : b1 ((f1 T b ∨ f4 T b q c w.length) ∨ (f2 T b c ∨ f3 T b w.length)) = 1 := b1_t (Or.inl (Or.inl (b1_n h163)))
          refine mj_iconst (pc' := 182) (v := 1) C dX0_offer_181 rfl rfl ?_
          refine mj_goto (pc' := 186) C dX0_offer_182 (by decide) ?_
          rw [ej] at K163
          exact K163
        · refine mj_iload (pc' := 168) C dX0_offer_166 rfl rfl ?_
          refine mj_if_ne (tgt := 181) (pc' := 171) C dX0_offer_168 (by decide) rfl (fun h168 => ?_) (fun h168 => ?_)
          · have ej : b1 ((f1 T b ∨ f4 T b q c w.length) ∨ (f2 T b c ∨ f3 T b w.length)) = 1 := b1_t (Or.inl (Or.inr (b1_n h168)))
            refine mj_iconst (pc' := 182) (v := 1) C dX0_offer_181 rfl rfl ?_
            refine mj_goto (pc' := 186) C dX0_offer_182 (by decide) ?_
            rw [ej] at K163
            exact K163
          · refine mj_iload (pc' := 173) C dX0_offer_171 rfl rfl ?_
            refine mj_if_ne (tgt := 181) (pc' := 176) C dX0_offer_173 (by decide) rfl (fun h173 => ?_) (fun h173 => ?_)
            · have ej : b1 ((f1 T b ∨ f4 T b q c w.length) ∨ (f2 T b c ∨ f3 T b w.length)) = 1 := b1_t (Or.inr (Or.inl (b1_n h173)))
              refine mj_iconst (pc' := 182) (v := 1) C dX0_offer_181 rfl rfl ?_
              refine mj_goto (pc' := 186) C dX0_offer_182 (by decide) ?_
              rw [ej] at K163
              exact K163
            · refine mj_iload (pc' := 178) C dX0_offer_176 rfl rfl ?_
              refine mj_if_eq (tgt := 185) (pc' := 181) C dX0_offer_178 (by decide) rfl (fun h178 => ?_) (fun h178 => ?_)
              · have ej : b1 ((f1 T b ∨ f4 T b q c w.length) ∨ (f2 T b c ∨ f3 T b w.length)) = 0 := b1_f (fun h => h.elim (fun h => h.elim (b1_0.mp h163) (b1_0.mp h168)) (fun h => h.elim (b1_0.mp h173) (b1_0.mp h178)))
                refine mj_iconst (pc' := 186) (v := 0) C dX0_offer_185 rfl rfl ?_
                rw [ej] at K163
                exact K163
              · have ej : b1 ((f1 T b ∨ f4 T b q c w.length) ∨ (f2 T b c ∨ f3 T b w.length)) = 1 := b1_t (Or.inr (Or.inr (b1_n h178)))
                refine mj_iconst (pc' := 182) (v := 1) C dX0_offer_181 rfl rfl ?_
                refine mj_goto (pc' := 186) C dX0_offer_182 (by decide) ?_
                rw [ej] at K163
                exact K163
      refine mj_zret C b1_and dX0_offer_186 (by decide) (by decide) (by decide) ?_
      refine ⟨?_, hres⟩
      congr 2
      unfold b1
      simp only [off_2 hTb hw]
    · have hbt : btr (T b) q c w.length = true := (off_1 hTb hw).mp (Or.inr (b1_n h106))
      refine mj_aload_n (pc' := 110) C dX0_offer_109 rfl rfl ?_
      refine mj_getR (pc' := 113) C dX0_offer_110 rfl (ci := 0) (f := 0) rfl (by decide) (by decide) (fun _ => rfl) (by decide) kf_X0_9 (hR.B.l11 (by first | assumption | omega)) (hR.B.pq (by first | assumption | omega)) ?_
      refine mj_iload_n (pc' := 114) C dX0_offer_113 rfl rfl ?_
      refine mj_iload_n (pc' := 115) C dX0_offer_114 rfl rfl ?_
      refine mj_iast (pc' := 116) C dX0_offer_115 rfl rfl (by decide) (by decide) (hR.B.l14 (by first | assumption | omega)) rfl (by first | assumption | omega) ?_
      refine mj_aload_n (pc' := 117) C dX0_offer_116 rfl rfl ?_
      refine mj_getR (pc' := 120) C dX0_offer_117 rfl (ci := 0) (f := 1) rfl (by decide) (by decide) (fun _ => rfl) (by decide) kf_X0_15 (hR.B.l11 (by first | assumption | omega)) (hR.B.pc (by first | assumption | omega)) ?_
      refine mj_iload_n (pc' := 121) C dX0_offer_120 rfl rfl ?_
      refine mj_iload_n (pc' := 122) C dX0_offer_121 rfl rfl ?_
      refine mj_iast (pc' := 123) C dX0_offer_122 rfl rfl (by decide) (by decide) (hR.B.l15 (by first | assumption | omega)) rfl (by first | assumption | omega) ?_
      refine mj_aload_n (pc' := 124) C dX0_offer_123 rfl rfl ?_
      refine mj_getR (pc' := 127) C dX0_offer_124 rfl (ci := 0) (f := 2) rfl (by decide) (by decide) (fun _ => rfl) (by decide) kf_X0_18 (hR.B.l11 (by first | assumption | omega)) (hR.B.pl (by first | assumption | omega)) ?_
      refine mj_iload_n (pc' := 128) C dX0_offer_127 rfl rfl ?_
      refine mj_iload (pc' := 130) C dX0_offer_128 rfl rfl ?_
      refine mj_iast (pc' := 131) C dX0_offer_130 rfl rfl (by decide) (by decide) (hR.B.l16 (by first | assumption | omega)) rfl (by first | assumption | omega) ?_
      refine mj_iconst (pc' := 132) (v := 0) C dX0_offer_131 rfl rfl ?_
      refine mj_istore_10 (pc' := 134) C dX0_offer_132 rfl (by decide) rfl ?_
      have loop : ∀ (d : Nat) (i : Nat) (μ1 : jM), i + d = w.length → xR S μ1 → oF (fun kd y => kd = 18 ∧ y = 10 * a + b) (sI (sI (sI μ 14 a b q) 15 a b c) 16 a b (nI w.length)) μ1 → (∀ k, k < i → mI μ1 18 (10 * a + b) k = nI (w.getD k 0)) → J 134 [some (aR 11 a), some (aI (nI b)), some (aI q), some (aI c), some (aR 9 0), some (aI (nI w.length)), some (aI (b1 (f1 T b))), some (aI (b1 (f2 T b c))), some (aI (b1 (f3 T b w.length))), some (aI (b1 (f4 T b q c w.length))), some (aI (nI i))] [] μ1 0 0 := by
        intro d
        induction d with
        | zero =>
          intro i μ1 hd hR1 hF hz
          obtain rfl : i = w.length := by omega
          have hres : oF (oQ a b) μ μ1 ∧ xTab μ1 a (ofr T b q c w) := by
            refine ⟨(oF_sI (Or.inl ⟨by omega, rfl⟩) (oF_sI (Or.inl ⟨by omega, rfl⟩) (oF_sI (Or.inl ⟨by omega, rfl⟩) oF.rf))).tr (hF.up (fun kd y q => Or.inr q)), ?_⟩
            rw [ofr_t hbt]
            refine xTab_set hT hw (fun y => ?_) (fun y => ?_) (fun y => ?_) (fun y z hy e => ?_) hz
            · rw [hF.2 _ _ _ (by omega)]; simp [mI_sI]
            · rw [hF.2 _ _ _ (by omega)]; simp [mI_sI]
            · rw [hF.2 _ _ _ (by omega)]; simp [mI_sI]
            · rw [hF.2 _ _ _ (by omega)]; simp [mI_sI]
          refine mj_iload (pc' := 136) C dX0_offer_134 rfl rfl ?_
          refine mj_iload (pc' := 138) C dX0_offer_136 rfl rfl ?_
          refine mj_icmp_ge (tgt := 161) (pc' := 141) C dX0_offer_138 (by decide) rfl (fun _ => ?_) (fun h9 => absurd (Int32.le_refl _) h9)
          refine mj_iload (pc' := 163) C dX0_offer_161 rfl rfl ?_
          refine jn (tgt := 186) (v := aI (b1 ((f1 T b ∨ f4 T b q c w.length) ∨ (f2 T b c ∨ f3 T b w.length)))) (st := []) (fun K163 => ?_) ?_
          · refine mj_if_ne (tgt := 181) (pc' := 166) C dX0_offer_163 (by decide) rfl (fun h163 => ?_) (fun h163 => ?_)
            · have ej : b1 ((f1 T b ∨ f4 T b q c w.length) ∨ (f2 T b c ∨ f3 T b w.length)) = 1 := b1_t (Or.inl (Or.inl (b1_n h163)))
              refine mj_iconst (pc' := 182) (v := 1) C dX0_offer_181 rfl rfl ?_
              refine mj_goto (pc' := 186) C dX0_offer_182 (by decide) ?_
              rw [ej] at K163
              exact K163
            · refine mj_iload (pc' := 168) C dX0_offer_166 rfl rfl ?_
              refine mj_if_ne (tgt := 181) (pc' := 171) C dX0_offer_168 (by decide) rfl (fun h168 => ?_) (fun h168 => ?_)
              · have ej : b1 ((f1 T b ∨ f4 T b q c w.length) ∨ (f2 T b c ∨ f3 T b w.length)) = 1 := b1_t (Or.inl (Or.inr (b1_n h168)))
                refine mj_iconst (pc' := 182) (v := 1) C dX0_offer_181 rfl rfl ?_
                refine mj_goto (pc' := 186) C dX0_offer_182 (by decide) ?_
                rw [ej] at K163
                exact K163
              · refine mj_iload (pc' := 173) C dX0_offer_171 rfl rfl ?_
                refine mj_if_ne (tgt := 181) (pc' := 176) C dX0_offer_173 (by decide) rfl (fun h173 => ?_) (fun h173 => ?_)
                · have ej : b1 ((f1 T b ∨ f4 T b q c w.length) ∨ (f2 T b c ∨ f3 T b w.length)) = 1 := b1_t (Or.inr (Or.inl (b1_n h173)))
                  refine mj_iconst (pc' := 182) (v := 1) C dX0_offer_181 rfl rfl ?_
                  refine mj_goto (pc' := 186) C dX0_offer_182 (by decide) ?_
                  rw [ej] at K163
                  exact K163
                · refine mj_iload (pc' := 178) C dX0_offer_176 rfl rfl ?_
                  refine mj_if_eq (tgt := 185) (pc' := 181) C dX0_offer_178 (by decide) rfl (fun h178 => ?_) (fun h178 => ?_)
                  · have ej : b1 ((f1 T b ∨ f4 T b q c w.length) ∨ (f2 T b c ∨ f3 T b w.length)) = 0 := b1_f (fun h => h.elim (fun h => h.elim (b1_0.mp h163) (b1_0.mp h168)) (fun h => h.elim (b1_0.mp h173) (b1_0.mp h178)))
                    refine mj_iconst (pc' := 186) (v := 0) C dX0_offer_185 rfl rfl ?_
                    rw [ej] at K163
                    exact K163
                  · have ej : b1 ((f1 T b ∨ f4 T b q c w.length) ∨ (f2 T b c ∨ f3 T b w.length)) = 1 := b1_t (Or.inr (Or.inr (b1_n h178)))
                    refine mj_iconst (pc' := 182) (v := 1) C dX0_offer_181 rfl rfl ?_
                    refine mj_goto (pc' := 186) C dX0_offer_182 (by decide) ?_
                    rw [ej] at K163
                    exact K163
          refine mj_zret C b1_and dX0_offer_186 (by decide) (by decide) (by decide) ?_
          refine ⟨?_, hres⟩
          congr 2
          unfold b1
          simp only [off_2 hTb hw]
        | succ d ih =>
          intro i μ1 hd hR1 hF hz
          have hlt : i < w.length := by omega
          refine mj_iload (pc' := 136) C dX0_offer_134 rfl rfl ?_
          refine mj_iload (pc' := 138) C dX0_offer_136 rfl rfl ?_
          refine mj_icmp_ge (tgt := 161) (pc' := 141) C dX0_offer_138 (by decide) rfl (fun h9 => absurd h9 (nI_ge hlt (by omega))) (fun _ => ?_)
          refine mj_aload_n (pc' := 142) C dX0_offer_141 rfl rfl ?_
          refine mj_getR (pc' := 145) C dX0_offer_142 rfl (ci := 0) (f := 3) rfl (by decide) (by decide) (fun _ => rfl) (by decide) kf_X0_23 (hR1.B.l11 (by first | assumption | omega)) (hR1.B.ps (by first | assumption | omega)) ?_
          refine mj_iload_n (pc' := 146) C dX0_offer_145 rfl rfl ?_
          refine mj_aald (pc' := 147) C dX0_offer_146 rfl rfl (by decide) rfl (fun _ _ => rfl) (by decide) (by decide) (hR1.B.l17 (by first | assumption | omega)) rfl (by first | assumption | omega) (hR1.B.p17 (by first | assumption | omega) (by first | assumption | omega)) ?_
          refine mj_iload (pc' := 149) C dX0_offer_147 rfl rfl ?_
          refine mj_aload (pc' := 151) C dX0_offer_149 rfl rfl ?_
          refine mj_iload (pc' := 153) C dX0_offer_151 rfl rfl ?_
          refine mj_ialdV (pc' := 154) C dX0_offer_153 rfl rfl (by decide) (by decide) hR1.B.l9 rfl (by first | assumption | omega) ((hF.2 9 0 i (by omega)).trans (Eq.trans (by simp [mI_sI]) (htr i hlt))) ?_
          refine mj_iast (pc' := 155) C dX0_offer_154 rfl rfl (by decide) (by decide) (hR1.B.l18 (by first | assumption | omega)) rfl (by first | assumption | omega) ?_
          refine mj_iinc_10 (pc' := 158) (w := 1) C dX0_offer_155 rfl rfl (by decide) rfl ?_
          refine mj_goto (pc' := 134) C dX0_offer_158 (by decide) ?_
          rw [nI_1]
          refine ih (i + 1) _ (by omega) (xR.srch (a := a) hR1 (by rw [hF.2 _ _ _ (by omega)]; simpa [mI_sI] using h4) (oF_sI (Or.inr (Or.inr ⟨rfl, by omega, by omega⟩)) oF.rf)) (oF_sI ⟨rfl, rfl⟩ hF) (fun k hk => ?_)
          by_cases e : k = i
          · subst e; simp [mI_sI]
          · rw [mI_sI_n _ _ _ _ _ (by omega)]; exact hz k (by omega)
      exact loop w.length 0 _ (by omega) (xR.srch (a := a) hR h4 (oF_sI (Or.inr (Or.inl ⟨by omega, rfl⟩)) (oF_sI (Or.inr (Or.inl ⟨by omega, rfl⟩)) (oF_sI (Or.inr (Or.inl ⟨by omega, rfl⟩)) oF.rf)))) oF.rf (fun k hk => absurd hk (Nat.not_lt_zero k))

set_option maxRecDepth 20000 in
theorem c_X1_goesOn {l : Launch} (hst : l.stackTraces = false) (S : jS) (k b : Nat) (m : Int32) : jMet l yX1_goesOn cX1_goesOn 2 (some FieldType.boolean) 6 100 0 0 (fun avs μ => avs = [aR 13 k, aI m] ∧ xR S μ ∧ k < sn S 1 ∧ sf S 2 k = nI b) (fun avs μ r μ' => r = some (aI (b1 (sf S 5 k = 0 ∧ m &&& (1 <<< (nI b &&& 31)) = 0))) ∧ μ' = μ) (fun avs μ E μ' => False) := by
  refine jMet_of hst (by decide) ?_
  intro avs μ J C hav hpre
  obtain ⟨rfl, hR, hk, hb⟩ := hpre
  refine ⟨Nat.le_of_ble_eq_true rfl, ?_⟩
  show J 0 [some (aR 13 k), some (aI m)] [] μ 0 0
  refine mj_aload_n (pc' := 1) C dX1_goesOn_0 rfl rfl ?_
  refine mj_getV (pc' := 4) C dX1_goesOn_1 rfl (ci := 1) (f := 5) rfl (by decide) (by decide) (fun _ => rfl) (by decide) kf_X1_27 (hR.l13 (by first | assumption | omega)) (hR.cwd (by first | assumption | omega)) ?_
  refine mj_if_ne (tgt := 22) (pc' := 7) C dX1_goesOn_4 (by decide) rfl (fun h4 => ?_) (fun h4 => ?_)
  · have hv : b1 (sf S 5 k = 0 ∧ m &&& (1 <<< (nI b &&& 31)) = 0) = 0 := b1_f (fun h => h4 h.1)
    refine mj_iconst (pc' := 23) (v := 0) C dX1_goesOn_22 rfl rfl ?_
    refine mj_zret C rfl dX1_goesOn_23 (by decide) (by decide) (by decide) ?_
    exact ⟨by rw [hv], rfl⟩
  · refine mj_iload_n (pc' := 8) C dX1_goesOn_7 rfl rfl ?_
    refine mj_iconst (pc' := 9) (v := 1) C dX1_goesOn_8 rfl rfl ?_
    refine mj_aload_n (pc' := 10) C dX1_goesOn_9 rfl rfl ?_
    refine mj_getV (pc' := 13) C dX1_goesOn_10 rfl (ci := 1) (f := 2) rfl (by decide) (by decide) (fun _ => rfl) (by decide) kf_X1_18 (hR.l13 (by first | assumption | omega)) ((hR.cto (by first | assumption | omega)).trans hb) ?_
    refine mj_ishl (pc' := 14) C dX1_goesOn_13 rfl ?_
    refine mj_iand (pc' := 15) C dX1_goesOn_14 rfl ?_
    refine mj_if_ne (tgt := 22) (pc' := 18) C dX1_goesOn_15 (by decide) rfl (fun h15 => ?_) (fun h15 => ?_)
    · have hv : b1 (sf S 5 k = 0 ∧ m &&& (1 <<< (nI b &&& 31)) = 0) = 0 := b1_f (fun h => h15 h.2)
      refine mj_iconst (pc' := 23) (v := 0) C dX1_goesOn_22 rfl rfl ?_
      refine mj_zret C rfl dX1_goesOn_23 (by decide) (by decide) (by decide) ?_
      exact ⟨by rw [hv], rfl⟩
    · have hv : b1 (sf S 5 k = 0 ∧ m &&& (1 <<< (nI b &&& 31)) = 0) = 1 := b1_t ⟨h4, h15⟩
      refine mj_iconst (pc' := 19) (v := 1) C dX1_goesOn_18 rfl rfl ?_
      refine mj_goto (pc' := 23) C dX1_goesOn_19 (by decide) ?_
      refine mj_zret C rfl dX1_goesOn_23 (by decide) (by decide) (by decide) ?_
      exact ⟨by rw [hv], rfl⟩
