/-! THE NETWORK'S OTHER METHODS -/
theorem xR_cur {S : jS} {μ : jM} {a : Nat} (h : xR S μ) (hT : xTab μ a (best S a)) : xR S (sI μ 11 a 4 1) ∧ xTab (sI μ 11 a 4 1) a (best S a) := by
  have hT2 : xTab (sI μ 11 a 4 1) a (best S a) := xTab_same hT (fun kd z hk => mI_sI_n _ _ _ _ _ (by omega)) (fun b z hb => mI_sI_n _ _ _ _ _ (by omega))
  refine ⟨?_, hT2⟩
  have hi : ∀ kd y z, kd ≠ 11 → mI (sI μ 11 a 4 1) kd y z = mI μ kd y z := fun kd y z hk => mI_sI_n _ _ _ _ _ (by omega)
  refine ⟨h.B, ⟨h.n12, h.n13, by rw [hi _ _ _ (by omega)]; exact h.fc, by rw [hi _ _ _ (by omega)]; exact h.nc⟩, ⟨by rw [hi _ _ _ (by omega)]; exact h.now, by rw [hi _ _ _ (by omega)]; exact h.bud, by rw [hi _ _ _ (by omega)]; exact h.uns⟩, fun j hj => by rw [hi _ _ _ (by omega)]; exact h.last hj, fun j hj => ?_, fun i hii => ?_, fun c hc => ?_, ⟨fun a' ha' => ⟨h.low ha', h.high ha'⟩, fun c a' hc ha' hf => h.next hc ha' hf⟩, fun a' ha' => ?_⟩
  · rw [hi _ _ _ (by omega), hi _ _ _ (by omega), hi _ _ _ (by omega)]
    exact ⟨h.ly hj, h.ll hj, h.lr hj⟩
  · simp only [hi 12 _ _ (by omega)]
    exact ⟨⟨h.fsz hii, h.fen hii, h.ffm hii, h.fq hii, h.frd hii, h.fst hii, h.fhl hii⟩, h.flw hii⟩
  · simp only [hi 13 _ _ (by omega)]
    exact ⟨h.cnum hc, h.cfr hc, h.cto hc, h.clo hc, h.cco hc, h.cwd hc⟩
  · by_cases e : a' = a
    · subst e
      exact Or.inr ⟨mI_sI_s _ _ _ _ _, hT2⟩
    · rw [mI_sI_n _ _ _ _ _ (by omega)]
      exact (h.cache ha').imp id (fun q => ⟨q.1, xTab_same q.2 (fun kd z hk => mI_sI_n _ _ _ _ _ (by omega)) (fun b z hb => mI_sI_n _ _ _ _ _ (by omega))⟩)
theorem tk_s {w : List Nat} {i : Nat} (h : i < w.length) : w.take (i + 1) = w.take i ++ [w.getD i 0] := by
  rw [List.take_succ]
  simp [List.getD, h]
theorem alg_s (S : jS) {w : List Nat} {i : Nat} (h : i < w.length) (q : Int32) : alg S (w.take (i + 1)) q = stQ S (w.getD i 0) (alg S (w.take i) q) := by
  rw [tk_s h]
  unfold alg
  rw [List.foldl_append]
  rfl
/-- the converters of a best way are converters -/
theorem bw_lt {S : jS} (hW : sW S) {a b i : Nat} (h : i < (bw (best S a b)).length) : (bw (best S a b)).getD i 0 < sn S 1 := by
  cases hb : best S a b with
  | none => rw [hb] at h; exact absurd h (Nat.not_lt_zero i)
  | some e =>
    obtain ⟨w, rfl, hv⟩ := best_of hW hb
    rw [hb] at h
    have h' : i < w.length := h
    refine okw_lt w hv.1 _ ?_
    show w.getD i 0 ∈ w
    have e : w.getD i 0 = w[i] := by simp [List.getD, h']
    rw [e]
    exact List.getElem_mem h'
theorem bw_le {S : jS} (hW : sW S) (a b : Nat) : (bw (best S a b)).length ≤ 9 := by
  cases hb : best S a b with
  | none => exact Nat.zero_le _
  | some e =>
    obtain ⟨w, rfl, hv⟩ := best_of hW hb
    exact hv.2
/-! the greatest quality -/
noncomputable def gx (S : jS) (g : Nat) : Nat → Nat → List Nat → Int32 → Int32
  | 0, x, _, q => if x = g then q else -1
  | n + 1, x, vis, q => if x = g then q else (List.range (sn S 1)).foldl (fun m k => if okb S k x vis = true then imax m (gx S g n (tO S k) (tO S k :: vis) (stQ S k q)) else m) (-1)
theorem imax_as (a b c : Int32) : imax (imax a b) c = imax a (imax b c) := by
  unfold imax
  simp only [Int32.lt_iff_toInt_lt]
  by_cases h1 : a.toInt < b.toInt <;> by_cases h2 : b.toInt < c.toInt <;> by_cases h3 : a.toInt < c.toInt <;> simp [h1, h2, h3] <;> omega
theorem imax_m {m : Int32} (h : -1 ≤ m) : imax m (-1) = m := if_neg (Int32.not_lt.mpr h)
theorem imax_ge {a b m : Int32} (h : m ≤ a) : m ≤ imax a b := by
  unfold imax
  split
  · rename_i h2
    exact Int32.le_trans h (Int32.le_of_lt h2)
  · exact h
theorem gq_id (S : jS) (g : Nat) : ∀ (n x : Nat) (vis : List Nat) (q m : Int32), g ∈ vis → x ≠ g → gq S g n x vis q m = m
  | 0, _, _, _, _, _, _ => rfl
  | n + 1, x, vis, q, m, hg, hx => by
    unfold gq
    rw [if_neg (fun h => hx h.1)]
    refine fold_range _ (fun _ (U : Int32) => U = m) rfl (fun k U _ hU => ?_)
    subst hU
    split
    · rename_i ho
      have ho := okb_iff.mp ho
      exact gq_id S g n _ _ _ _ (List.mem_cons_of_mem _ hg) (fun e => ho.2.2 (e ▸ hg))
    · rfl
theorem gx_ge {S : jS} (hW : sW S) (g : Nat) : ∀ (n x : Nat) (vis : List Nat) (u : Nat), u ≤ 1000 → -1 ≤ gx S g n x vis (nI u)
  | 0, x, vis, u, hu => by
    unfold gx
    split
    · rw [Int32.le_iff_toInt_le, nI_toInt (by omega)]
      have : ((-1 : Int32)).toInt = -1 := by decide
      omega
    · exact Int32.le_refl _
  | n + 1, x, vis, u, hu => by
    unfold gx
    split
    · rw [Int32.le_iff_toInt_le, nI_toInt (by omega)]
      have : ((-1 : Int32)).toInt = -1 := by decide
      omega
    · refine fold_range _ (fun _ (U : Int32) => -1 ≤ U) (Int32.le_refl _) (fun k U hk hU => ?_)
      split
      · exact imax_ge hU
      · exact hU
theorem gq_gx {S : jS} (hW : sW S) (g : Nat) : ∀ (n x : Nat) (vis : List Nat) (u : Nat) (m : Int32), u ≤ 1000 → -1 ≤ m → x ∈ vis → (g ∈ vis → x = g) → gq S g (n + 1) x vis (nI u) m = imax m (gx S g n x vis (nI u))
  | n, x, vis, u, m, hu, hm, hx, hg => by
    by_cases e : x = g
    · subst e
      have h1 : gx S x n x vis (nI u) = nI u := by
        cases n with
        | zero => exact if_pos rfl
        | succ n => exact if_pos rfl
      rw [h1]
      unfold gq
      have h2 : (if x = x ∧ m < nI u then nI u else m) = imax m (nI u) := by
        unfold imax
        by_cases q : m < nI u
        · rw [if_pos ⟨rfl, q⟩, if_pos q]
        · rw [if_neg (fun h => q h.2), if_neg q]
      rw [h2]
      refine fold_range _ (fun _ (U : Int32) => U = imax m (nI u)) rfl (fun k U _ hU => ?_)
      subst hU
      split
      · rename_i ho
        have ho := okb_iff.mp ho
        exact gq_id S x n _ _ _ _ (List.mem_cons_of_mem _ hx) (fun e => ho.2.2 (e ▸ hx))
      · rfl
    · unfold gq
      rw [if_neg (fun h => e h.1)]
      cases n with
      | zero =>
        rw [show gx S g 0 x vis (nI u) = -1 from if_neg e, imax_m hm]
        refine fold_range _ (fun _ (U : Int32) => U = m) rfl (fun k U _ hU => ?_)
        subst hU
        split <;> rfl
      | succ n =>
        rw [show gx S g (n + 1) x vis (nI u) = _ from if_neg e]
        have hgo : ∀ N, N ≤ sn S 1 → (List.range N).foldl (fun m k => if okb S k x vis = true then gq S g (n + 1) (ix (sf S 2 k)) (ix (sf S 2 k) :: vis) (stQ S k (nI u)) m else m) m = imax m ((List.range N).foldl (fun m k => if okb S k x vis = true then imax m (gx S g n (tO S k) (tO S k :: vis) (stQ S k (nI u))) else m) (-1)) ∧ -1 ≤ (List.range N).foldl (fun m k => if okb S k x vis = true then gq S g (n + 1) (ix (sf S 2 k)) (ix (sf S 2 k) :: vis) (stQ S k (nI u)) m else m) m := by
          intro N
          induction N with
          | zero => exact fun _ => ⟨(imax_m hm).symm, hm⟩
          | succ N ih =>
            intro hN
            obtain ⟨i1, i2⟩ := ih (by omega)
            rw [List.range_succ, List.foldl_append, List.foldl_append]
            simp only [List.foldl_cons, List.foldl_nil]
            split
            · rename_i ho
              have ho := okb_iff.mp ho
              rw [stQ_N hW (by omega) hu, gq_gx hW g n _ _ _ _ (Nat.le_trans (qS_le S N u) hu) i2 List.mem_cons_self (fun h => by
                rcases List.mem_cons.mp h with h | h
                · exact h.symm
                · exact absurd (hg h) e)]
              refine ⟨?_, imax_ge i2⟩
              rw [i1, imax_as]
            · exact ⟨i1, i2⟩
        exact (hgo (sn S 1) (Nat.le_refl _)).1
theorem byAll {S : jS} (hW : sW S) (a b : Nat) : gq S b 10 a [a] 1000 (-1) = gx S b 9 a [a] 1000 := by
  refine (gq_gx hW b 9 a [a] 1000 (-1) (Nat.le_refl _) (Int32.le_refl _) List.mem_cons_self (fun h => (List.mem_singleton.mp h).symm)).trans ?_
  unfold imax
  have h := gx_ge hW b 9 a [a] 1000 (Nat.le_refl _)
  split
  · rfl
  · rename_i h2
    exact Int32.le_antisymm h (Int32.not_lt.mp h2)
noncomputable def gd (S : jS) (g n x : Nat) (vis : List Nat) (q : Int32) (m : Nat) : Int32 := (List.range m).foldl (fun m k => if okb S k x vis = true then imax m (gx S g n (tO S k) (tO S k :: vis) (stQ S k q)) else m) (-1)
theorem gd_s (S : jS) (g n x : Nat) (vis : List Nat) (q : Int32) (m : Nat) : gd S g n x vis q (m + 1) = if okb S m x vis = true then imax (gd S g n x vis q m) (gx S g n (tO S m) (tO S m :: vis) (stQ S m q)) else gd S g n x vis q m := by
  unfold gd
  rw [List.range_succ, List.foldl_append]
  rfl
theorem gd_sk {S : jS} {g n x : Nat} {vis : List Nat} {q : Int32} {j k : Nat} (hjk : j ≤ k) (h : ∀ i, j ≤ i → i < k → ¬ sf S 1 i = nI x) : gd S g n x vis q k = gd S g n x vis q j := by
  induction k with
  | zero => rw [Nat.le_zero.mp hjk]
  | succ k ih =>
    by_cases e : j = k + 1
    · rw [e]
    · rw [gd_s, if_neg (fun q => h k (by omega) (Nat.lt_succ_self k) (okb_iff.mp q).2.1)]
      exact ih (by omega) (fun i h1 h2 => h i h1 (by omega))

set_option maxRecDepth 20000 in
theorem c_X3_waysFrom {l : Launch} (hst : l.stackTraces = false) (S : jS) (a : Nat) : jMet l yX3_waysFrom cX3_waysFrom 3 (some (FieldType.object "FormatVault$BestWays")) 16 500 0 0 (fun avs μ => avs = [aR 4 0, aI (nI a)] ∧ xR S μ ∧ sW S ∧ a < 10) (fun avs μ r μ' => r = some (aR 11 a) ∧ xR S μ' ∧ xF μ μ' ∧ xTab μ' a (best S a) ∧ mI μ' 11 a 4 = 1 ∧ (mI μ 11 a 4 ≠ 0 → μ' = μ)) (fun avs μ E μ' => False) := by
  refine jMet_of hst (by decide) ?_
  intro avs μ J C hav hpre
  obtain ⟨rfl, hR, hW, ha⟩ := hpre
  refine ⟨Nat.le_of_ble_eq_true rfl, ?_⟩
  show J 0 [some (aR 4 0), some (aI (nI a)), none] [] μ 0 0
  refine mj_aload_n (pc' := 1) C dX3_waysFrom_0 rfl rfl ?_
  refine mj_getR (pc' := 4) C dX3_waysFrom_1 rfl (ci := 3) (f := 4) rfl (by decide) (by decide) (fun _ => rfl) (by decide) kf_X3_25 hR.B.l4 hR.B.p44 ?_
  refine mj_iload_n (pc' := 5) C dX3_waysFrom_4 rfl rfl ?_
  refine mj_aald (pc' := 6) C dX3_waysFrom_5 rfl rfl (by decide) rfl (fun _ _ => rfl) (by decide) (by decide) hR.B.l8 rfl (by first | assumption | omega) (hR.B.p8 (by first | assumption | omega)) ?_
  refine mj_astore_n_2 (pc' := 7) C dX3_waysFrom_6 rfl (by decide) rfl ?_
  refine mj_aload_n (pc' := 8) C dX3_waysFrom_7 rfl rfl ?_
  refine mj_getV (pc' := 11) C dX3_waysFrom_8 rfl (ci := 0) (f := 4) rfl (by decide) (by decide) (fun _ => rfl) (by decide) kf_X3_55 (hR.B.l11 (by first | assumption | omega)) rfl ?_
  refine mj_if_ne (tgt := 38) (pc' := 14) C dX3_waysFrom_11 (by decide) rfl (fun h11 => ?_) (fun h11 => ?_)
  · have hT : xTab μ a (best S a) := ((hR.cache ha).resolve_left h11).2
    have hF : xF μ μ := xF.rf
    have hR1 := hR
    have hc1 : mI μ 11 a 4 = 1 := ((hR.cache ha).resolve_left h11).1
    have hsame : mI μ 11 a 4 ≠ 0 → μ = μ := fun _ => rfl
    refine mj_aload_n (pc' := 39) C dX3_waysFrom_38 rfl rfl ?_
    refine mj_aret C dX3_waysFrom_39 (by decide) (by decide) (by decide) ?_
    exact ⟨rfl, hR1, hF, hT, hc1, hsame⟩
  · have h4 := h11
    refine mj_aload_n (pc' := 15) C dX3_waysFrom_14 rfl rfl ?_
    refine mj_iload_n (pc' := 16) C dX3_waysFrom_15 rfl rfl ?_
    refine mj_callVN_1 (ci := 0) (pc' := 19) C (c_X0_restart hst S a) dX3_waysFrom_16 rfl km_X3_58 ki_yX0_restart kz_yX0_restart kn_X0 kc_yX0_restart rfl (by decide) (by decide) ⟨rfl, by decide, by decide, by decide +kernel⟩ ⟨by decide, by decide⟩ (Nat.le_of_ble_eq_true rfl) ⟨by decide, by decide⟩ ⟨rfl, hR, ha, h4⟩ (fun r16 μ16 hq16 hm16 => ?_) (fun _ _ h9 => h9)
    obtain ⟨rfl, hO16, hT16⟩ := hq16
    dsimp only [Option.toList, List.nil_append, List.cons_append]
    have h41 : mI μ16 11 a 4 = 0 := (hO16.2 11 a 4 (by unfold oQ; omega)).trans h4
    have hO2 : oF (sQ a) μ μ16 := hO16.up (fun _ _ q => oQ_s ha q)
    have hR := hR.srch h4 hO2
    refine mj_aload_n (pc' := 20) C dX3_waysFrom_19 rfl rfl ?_
    refine mj_aload_n (pc' := 21) C dX3_waysFrom_20 rfl rfl ?_
    refine mj_iload_n (pc' := 22) C dX3_waysFrom_21 rfl rfl ?_
    refine mj_iconst (pc' := 23) (v := 1) C dX3_waysFrom_22 rfl rfl ?_
    refine mj_iload_n (pc' := 24) C dX3_waysFrom_23 rfl rfl ?_
    refine mj_ishl (pc' := 25) C dX3_waysFrom_24 rfl ?_
    refine mj_iconst (pc' := 26) (v := 0) C dX3_waysFrom_25 rfl rfl ?_
    refine mj_sipush (pc' := 29) (v := 1000) C dX3_waysFrom_26 rfl rfl ?_
    refine mj_iconst (pc' := 30) (v := 0) C dX3_waysFrom_29 rfl rfl ?_
    refine mj_callSN_7 (pc' := 33) C (c_X3_search hst S hW a ha 9 a [] (ofr (fun _ => none) a 1000 0 []) (1 <<< (nI a &&& 31))) dX3_waysFrom_30 rfl km_X3_62 ks_yX3_search kn_X3 kc_yX3_search ⟨by decide, by decide, by decide +kernel⟩ ⟨by decide, by decide⟩ (Nat.le_of_ble_eq_true rfl) ⟨by decide, by decide⟩ ⟨rfl, hR, ⟨ha, rfl, h41⟩, hb_1 ha, (show okw S a [a] [] a from rfl), tInv_ofr (T := fun _ => none) (fun b e he => (by cases he)) ⟨(show okw S a [a] [] a from rfl), Nat.zero_le _⟩ List.Lex.nil, hT16, fun k hk => absurd hk (Nat.not_lt_zero k)⟩ (fun r30 μ30 hq30 hm30 => ?_) (fun _ _ h9 => h9)
    obtain ⟨rfl, hO30, hT30, htr30⟩ := hq30
    dsimp only [Option.toList, List.nil_append, List.cons_append]
    have hT2 : xTab μ30 a (best S a) := by rw [← srch_best hW a]; exact hT30
    have hR := hR.srch h41 hO30
    obtain ⟨hR1, hT⟩ := xR_cur hR hT2
    have hF : xF μ (sI μ30 11 a 4 1) := xF_sI (by decide) ((hO2.tr hO30).x)
    have hc1 : mI (sI μ30 11 a 4 1) 11 a 4 = 1 := mI_sI_s _ _ _ _ _
    have hsame : mI μ 11 a 4 ≠ 0 → sI μ30 11 a 4 1 = μ := fun h => absurd h4 h
    refine mj_aload_n (pc' := 34) C dX3_waysFrom_33 rfl rfl ?_
    refine mj_iconst (pc' := 35) (v := 1) C dX3_waysFrom_34 rfl rfl ?_
    refine mj_putI (pc' := 38) C dX3_waysFrom_35 rfl (ci := 0) (f := 4) rfl (by decide) (by decide) rfl (fun _ _ => rfl) (by decide) kf_X3_55 rfl rfl (hR.B.l11 (by first | assumption | omega)) ?_
    refine mj_aload_n (pc' := 39) C dX3_waysFrom_38 rfl rfl ?_
    refine mj_aret C dX3_waysFrom_39 (by decide) (by decide) (by decide) ?_
    exact ⟨rfl, hR1, hF, hT, hc1, hsame⟩

set_option maxRecDepth 20000 in
theorem c_X3_qualityBehind {l : Launch} (hst : l.stackTraces = false) (S : jS) (a b : Nat) (q : Int32) : jMet l yX3_qualityBehind cX3_qualityBehind 6 (some FieldType.int) 7 140 0 0 (fun avs μ => avs = [aR 4 0, aR 11 a, aI (nI b), aI q] ∧ xR S μ ∧ sW S ∧ (a < 10 ∧ b < 10) ∧ xTab μ a (best S a)) (fun avs μ r μ' => r = some (aI (alg S (bw (best S a b)) q)) ∧ μ' = μ) (fun avs μ E μ' => False) := by
  refine jMet_of hst (by decide) ?_
  intro avs μ J C hav hpre
  obtain ⟨rfl, hR, hW, ⟨ha, hb⟩, hT⟩ := hpre
  refine ⟨Nat.le_of_ble_eq_true rfl, ?_⟩
  show J 0 [some (aR 4 0), some (aR 11 a), some (aI (nI b)), some (aI q), none, none] [] μ 0 0
  have hW0 := hW.1.1
  have hW1 := hW.1.2
  have hl9 := bw_le hW a b
  refine mj_iload_n (pc' := 1) C dX3_qualityBehind_0 rfl rfl ?_
  refine mj_istore_4 (pc' := 3) C dX3_qualityBehind_1 rfl (by decide) rfl ?_
  refine mj_iconst (pc' := 4) (v := 0) C dX3_qualityBehind_3 rfl rfl ?_
  refine mj_istore_5 (pc' := 6) C dX3_qualityBehind_4 rfl (by decide) rfl ?_
  have loop : ∀ (d : Nat) (i : Nat), i + d = (bw (best S a b)).length → J 6 [some (aR 4 0), some (aR 11 a), some (aI (nI b)), some (aI q), some (aI (alg S ((bw (best S a b)).take i) q)), some (aI (nI i))] [] μ 0 0 := by
    intro d
    induction d with
    | zero =>
      intro i hd
      obtain rfl : i = (bw (best S a b)).length := by omega
      refine mj_iload (pc' := 8) C dX3_qualityBehind_6 rfl rfl ?_
      refine mj_aload_n (pc' := 9) C dX3_qualityBehind_8 rfl rfl ?_
      refine mj_getR (pc' := 12) C dX3_qualityBehind_9 rfl (ci := 0) (f := 2) rfl (by decide) (by decide) (fun _ => rfl) (by decide) kf_X3_70 (hR.B.l11 (by first | assumption | omega)) (hR.B.pl (by first | assumption | omega)) ?_
      refine mj_iload_n (pc' := 13) C dX3_qualityBehind_12 rfl rfl ?_
      refine mj_ialdV (pc' := 14) C dX3_qualityBehind_13 rfl rfl (by decide) (by decide) (hR.B.l16 (by first | assumption | omega)) rfl (by first | assumption | omega) ((hT b hb).2.2.1) ?_
      refine mj_icmp_ge (tgt := 44) (pc' := 17) C dX3_qualityBehind_14 (by decide) rfl (fun _ => ?_) (fun h9 => absurd (Int32.le_refl _) h9)
      refine mj_iload (pc' := 46) C dX3_qualityBehind_44 rfl rfl ?_
      refine mj_iret C dX3_qualityBehind_46 (by decide) (by decide) (by decide) ?_
      exact ⟨by rw [List.take_length], rfl⟩
    | succ d ih =>
      intro i hd
      have hlt : i < (bw (best S a b)).length := by omega
      have hk := bw_lt hW hlt
      refine mj_iload (pc' := 8) C dX3_qualityBehind_6 rfl rfl ?_
      refine mj_aload_n (pc' := 9) C dX3_qualityBehind_8 rfl rfl ?_
      refine mj_getR (pc' := 12) C dX3_qualityBehind_9 rfl (ci := 0) (f := 2) rfl (by decide) (by decide) (fun _ => rfl) (by decide) kf_X3_70 (hR.B.l11 (by first | assumption | omega)) (hR.B.pl (by first | assumption | omega)) ?_
      refine mj_iload_n (pc' := 13) C dX3_qualityBehind_12 rfl rfl ?_
      refine mj_ialdV (pc' := 14) C dX3_qualityBehind_13 rfl rfl (by decide) (by decide) (hR.B.l16 (by first | assumption | omega)) rfl (by first | assumption | omega) ((hT b hb).2.2.1) ?_
      refine mj_icmp_ge (tgt := 44) (pc' := 17) C dX3_qualityBehind_14 (by decide) rfl (fun h9 => absurd h9 (nI_ge hlt (by omega))) (fun _ => ?_)
      refine mj_aload_n (pc' := 18) C dX3_qualityBehind_17 rfl rfl ?_
      refine mj_getR (pc' := 21) C dX3_qualityBehind_18 rfl (ci := 3) (f := 0) rfl (by decide) (by decide) (fun _ => rfl) (by decide) kf_X3_11 hR.B.l4 hR.B.p40 ?_
      refine mj_aload_n (pc' := 22) C dX3_qualityBehind_21 rfl rfl ?_
      refine mj_getR (pc' := 25) C dX3_qualityBehind_22 rfl (ci := 0) (f := 3) rfl (by decide) (by decide) (fun _ => rfl) (by decide) kf_X3_73 (hR.B.l11 (by first | assumption | omega)) (hR.B.ps (by first | assumption | omega)) ?_
      refine mj_iload_n (pc' := 26) C dX3_qualityBehind_25 rfl rfl ?_
      refine mj_aald (pc' := 27) C dX3_qualityBehind_26 rfl rfl (by decide) rfl (fun _ _ => rfl) (by decide) (by decide) (hR.B.l17 (by first | assumption | omega)) rfl (by first | assumption | omega) (hR.B.p17 (by first | assumption | omega) (by first | assumption | omega)) ?_
      refine mj_iload (pc' := 29) C dX3_qualityBehind_27 rfl rfl ?_
      refine mj_ialdV (pc' := 30) C dX3_qualityBehind_29 rfl rfl (by decide) (by decide) (hR.B.l18 (by first | assumption | omega)) rfl (by first | assumption | omega) ((hT b hb).2.2.2.2 i hlt) ?_
      refine mj_aald (pc' := 31) C dX3_qualityBehind_30 rfl rfl (by decide) rfl (fun _ _ => rfl) (by decide) (by decide) hR.B.l5 rfl (by first | assumption | omega) (hR.B.p5 (by rw [hR.n13]; first | assumption | omega)) ?_
      refine mj_iload (pc' := 33) C dX3_qualityBehind_31 rfl rfl ?_
      refine mj_callVN_1 (ci := 1) (pc' := 36) C (c_X1_qualityAfter hst S ((bw (best S a b)).getD i 0) (alg S ((bw (best S a b)).take i) q)) dX3_qualityBehind_33 rfl km_X3_77 ki_yX1_qualityAfter kz_yX1_qualityAfter kn_X1 kc_yX1_qualityAfter rfl (by decide) (by decide) ⟨rfl, by decide, by decide, by decide +kernel⟩ ⟨by decide, by decide⟩ (Nat.le_of_ble_eq_true rfl) ⟨by decide, by decide⟩ ⟨rfl, hR.l13 hk, hR.clo hk⟩ (fun r33 μ33 hq33 hm33 => ?_) (fun _ _ h9 => h9)
      obtain ⟨rfl, hq9⟩ := hq33
      have hq9 := hq9.symm
      subst hq9
      dsimp only [Option.toList, List.nil_append, List.cons_append]
      refine mj_istore_4 (pc' := 38) C dX3_qualityBehind_36 rfl (by decide) rfl ?_
      refine mj_iinc_5 (pc' := 41) (w := 1) C dX3_qualityBehind_38 rfl rfl (by decide) rfl ?_
      refine mj_goto (pc' := 6) C dX3_qualityBehind_41 (by decide) ?_
      rw [← alg_s S hlt, nI_1]
      exact ih (i + 1) (by omega)
  exact loop _ 0 (Nat.zero_add _)

set_option maxRecDepth 20000 in
theorem c_X3_greatestQuality {l : Launch} (hst : l.stackTraces = false) (S : jS) (hW : sW S) (g : Nat) : ∀ (n x L u : Nat) (vis : List Nat) (m : Int32), jMet l yX3_greatestQuality cX3_greatestQuality 8 (some FieldType.int) (6 + n) (100 + 40 * n) 0 0 (fun avs μ => avs = [aR 4 0, aI (nI x), aI (nI g), aI m, aI (nI L), aI (nI u)] ∧ xR S μ ∧ (x < 10 ∧ g < 10 ∧ L + n = 9 ∧ u ≤ 1000) ∧ hb m vis) (fun avs μ r μ' => r = some (aI (gx S g n x vis (nI u))) ∧ μ' = μ) (fun avs μ E μ' => False) := by
  intro n
  induction n with
  | zero =>
    intro x L u vis m
    refine jMet_of hst (by decide) ?_
    intro avs μ J C hav hpre
    obtain ⟨rfl, hR, ⟨hx, hg, hl, hu⟩, hm⟩ := hpre
    refine ⟨Nat.le_of_ble_eq_true rfl, ?_⟩
    show J 0 [some (aR 4 0), some (aI (nI x)), some (aI (nI g)), some (aI m), some (aI (nI L)), some (aI (nI u)), none, none] [] μ 0 0
    refine mj_iload_n (pc' := 1) C dX3_greatestQuality_0 rfl rfl ?_
    refine mj_iload_n (pc' := 2) C dX3_greatestQuality_1 rfl rfl ?_
    refine mj_icmp_ne (tgt := 8) (pc' := 5) C dX3_greatestQuality_2 (by decide) rfl (fun h2 => ?_) (fun h2 => ?_)
    · have hxg : ¬ x = g := fun q => h2 (by rw [q])
      refine mj_iload (pc' := 10) C dX3_greatestQuality_8 rfl rfl ?_
      refine mj_bipush (pc' := 12) (v := 9) C dX3_greatestQuality_10 rfl rfl ?_
      refine mj_icmp_lt (tgt := 17) (pc' := 15) C dX3_greatestQuality_12 (by decide) rfl (fun h9 => absurd h9 (nI_nlt (b := 9) (by omega) (by omega))) (fun _ => ?_)
      refine mj_iconst (pc' := 16) (v := (-1)) C dX3_greatestQuality_15 rfl rfl ?_
      refine mj_iret C dX3_greatestQuality_16 (by decide) (by exact Nat.le_refl _) (by exact Nat.le_refl _) ?_
      exact ⟨congrArg some (congrArg aI (Eq.symm (if_neg hxg))), rfl⟩
    · have hxg : x = g := (nI_eq (by omega) (by omega)).mp h2
      refine mj_iload (pc' := 7) C dX3_greatestQuality_5 rfl rfl ?_
      refine mj_iret C dX3_greatestQuality_7 (by decide) (by exact Nat.le_refl _) (by exact Nat.le_refl _) ?_
      exact ⟨congrArg some (congrArg aI (Eq.symm (if_pos hxg))), rfl⟩
  | succ n ih =>
    intro x L u vis m
    refine jMet_of hst (by decide) ?_
    intro avs μ J C hav hpre
    obtain ⟨rfl, hR, ⟨hx, hg, hl, hu⟩, hm⟩ := hpre
    refine ⟨Nat.le_of_ble_eq_true rfl, ?_⟩
    show J 0 [some (aR 4 0), some (aI (nI x)), some (aI (nI g)), some (aI m), some (aI (nI L)), some (aI (nI u)), none, none] [] μ 0 0
    have hW0 := hW.1.1
    have hW1 := hW.1.2
    obtain ⟨G, eG⟩ : ∃ G : Nat → Int32, G = gd S g n x vis (nI u) := ⟨_, rfl⟩
    refine mj_iload_n (pc' := 1) C dX3_greatestQuality_0 rfl rfl ?_
    refine mj_iload_n (pc' := 2) C dX3_greatestQuality_1 rfl rfl ?_
    refine mj_icmp_ne (tgt := 8) (pc' := 5) C dX3_greatestQuality_2 (by decide) rfl (fun h2 => ?_) (fun h2 => ?_)
    · have hxg : ¬ x = g := fun q => h2 (by rw [q])
      have eN : gx S g (n + 1) x vis (nI u) = G (sn S 1) := by rw [eG]; exact if_neg hxg
      have eG0 : (-1 : Int32) = G 0 := by rw [eG]; rfl
      refine mj_iload (pc' := 10) C dX3_greatestQuality_8 rfl rfl ?_
      refine mj_bipush (pc' := 12) (v := 9) C dX3_greatestQuality_10 rfl rfl ?_
      refine mj_icmp_lt (tgt := 17) (pc' := 15) C dX3_greatestQuality_12 (by decide) rfl (fun _ => ?_) (fun h9 => absurd (nI_lt (b := 9) (by omega) (by decide)) h9)
      refine mj_iconst (pc' := 18) (v := (-1)) C dX3_greatestQuality_17 rfl rfl ?_
      refine mj_istore_6 (pc' := 20) C dX3_greatestQuality_18 rfl (by decide) rfl ?_
      refine mj_aload_n (pc' := 21) C dX3_greatestQuality_20 rfl rfl ?_
      refine mj_getR (pc' := 24) C dX3_greatestQuality_21 rfl (ci := 3) (f := 2) rfl (by decide) (by decide) (fun _ => rfl) (by decide) kf_X3_17 hR.B.l4 hR.B.p42 ?_
      refine mj_iload_n (pc' := 25) C dX3_greatestQuality_24 rfl rfl ?_
      refine mj_aald (pc' := 26) C dX3_greatestQuality_25 rfl rfl (by decide) rfl (fun _ _ => rfl) (by decide) (by decide) hR.B.l6 rfl (by first | assumption | omega) (hR.low hx) ?_
      refine mj_astore_7 (pc' := 28) C dX3_greatestQuality_26 rfl (by decide) rfl ?_
      have loop : ∀ (d : Nat) (j : Nat), j ≤ sn S 1 → sn S 1 ≤ j + d → J 28 [some (aR 4 0), some (aI (nI x)), some (aI (nI g)), some (aI m), some (aI (nI L)), some (aI (nI u)), some (aI (G j)), some (aO ((nxt S x j).map (fun c => (13, c))))] [] μ 0 0 := by
        intro d
        induction d with
        | zero =>
          intro j hj hd
          obtain rfl : j = sn S 1 := by omega
          refine mj_aload (pc' := 30) C dX3_greatestQuality_28 rfl rfl ?_
          refine mj_ifnull (tgt := 89) (pc' := 33) C dX3_greatestQuality_30 (by decide) rfl (fun h30 => ?_) (fun q30 h30 => ?_)
          · refine mj_iload (pc' := 91) C dX3_greatestQuality_89 rfl rfl ?_
            refine mj_iret C dX3_greatestQuality_91 (by decide) (by exact Nat.le_refl _) (by exact Nat.le_refl _) ?_
            exact ⟨by rw [eN], rfl⟩
          · obtain ⟨k, hk, -⟩ := Option.map_eq_some_iff.mp h30
            have := nxt_s hk
            omega
        | succ d ihn =>
          intro j hj hd
          refine mj_aload (pc' := 30) C dX3_greatestQuality_28 rfl rfl ?_
          refine mj_ifnull (tgt := 89) (pc' := 33) C dX3_greatestQuality_30 (by decide) rfl (fun h30 => ?_) (fun q30 h30 => ?_)
          · have hnn := nxt_n (Option.map_eq_none_iff.mp h30)
            have hGN : G (sn S 1) = G j := by rw [eG]; exact gd_sk hj hnn
            refine mj_iload (pc' := 91) C dX3_greatestQuality_89 rfl rfl ?_
            refine mj_iret C dX3_greatestQuality_91 (by decide) (by exact Nat.le_refl _) (by exact Nat.le_refl _) ?_
            exact ⟨by rw [eN, hGN], rfl⟩
          · obtain ⟨k, hk, rfl⟩ := Option.map_eq_some_iff.mp h30
            obtain ⟨hjk, hkN, hfk, hno⟩ := nxt_s hk
            have ep : (nxt S x j).map (fun c => (13, c)) = some (13, k) := by rw [hk]; rfl
            rw [ep]
            have hGk : G k = G j := by rw [eG]; exact gd_sk hjk hno
            rw [← hGk]
            obtain ⟨b, hb10, eb⟩ := (hW.2.1 k hkN).2.1
            have etO : tO S k = b := by unfold tO; rw [eb]; exact ix_nI (by omega)
            refine mj_aload (pc' := 35) C dX3_greatestQuality_33 rfl rfl ?_
            refine mj_iload_n (pc' := 36) C dX3_greatestQuality_35 rfl rfl ?_
            refine mj_callVN_1 (ci := 1) (pc' := 39) C (c_X1_goesOn hst S k b m) dX3_greatestQuality_36 rfl km_X3_81 ki_yX1_goesOn kz_yX1_goesOn kn_X1 kc_yX1_goesOn rfl (by decide) (by decide) ⟨rfl, by decide, by decide, by decide +kernel⟩ ⟨by (try dsimp only); omega, by (try dsimp only); omega⟩ (Nat.le_of_ble_eq_true rfl) ⟨by exact Nat.le_refl _, by exact Nat.le_refl _⟩ ⟨rfl, hR, hkN, eb⟩ (fun r36 μ36 hq36 hm36 => ?_) (fun _ _ h9 => h9)
            obtain ⟨rfl, hq9⟩ := hq36
            have hq9 := hq9.symm
            subst hq9
            dsimp only [Option.toList, List.nil_append, List.cons_append]
            refine mj_if_eq (tgt := 79) (pc' := 42) C dX3_greatestQuality_39 (by decide) rfl (fun h39 => ?_) (fun h39 => ?_)
            · have hnok : ¬ okc S k x vis := fun h => b1_0.mp h39 ⟨h.1, (hm b hb10).mpr (by rw [← etO]; exact h.2.2)⟩
              have hGn : G (k + 1) = G k := by rw [eG, gd_s, if_neg (fun q => hnok (okb_iff.mp q))]
              rw [← hGn]
              refine mj_aload (pc' := 81) C dX3_greatestQuality_79 rfl rfl ?_
              refine mj_getR (pc' := 84) C dX3_greatestQuality_81 rfl (ci := 1) (f := 6) rfl (by decide) (by decide) (fun _ => rfl) (by decide) kf_X3_38 (hR.l13 (by first | assumption | omega)) (hR.next hkN hx hfk) ?_
              refine mj_astore_7 (pc' := 86) C dX3_greatestQuality_84 rfl (by decide) rfl ?_
              refine mj_goto (pc' := 28) C dX3_greatestQuality_86 (by decide) ?_
              exact ihn (k + 1) (by omega) (by omega)
            · have hok : okc S k x vis := ⟨(b1_n h39).1, hfk, by show tO S k ∉ _; rw [etO]; exact (hm b hb10).mp (b1_n h39).2⟩
              have hGn : G (k + 1) = imax (G k) (gx S g n b (b :: vis) (nI (qS S k u))) := by rw [eG, gd_s, if_pos (okb_iff.mpr hok), stQ_N hW hkN hu, etO]
              refine mj_iload (pc' := 44) C dX3_greatestQuality_42 rfl rfl ?_
              refine mj_aload_n (pc' := 45) C dX3_greatestQuality_44 rfl rfl ?_
              refine mj_aload (pc' := 47) C dX3_greatestQuality_45 rfl rfl ?_
              refine mj_getV (pc' := 50) C dX3_greatestQuality_47 rfl (ci := 1) (f := 2) rfl (by decide) (by decide) (fun _ => rfl) (by decide) kf_X3_88 (hR.l13 (by first | assumption | omega)) ((hR.cto (by first | assumption | omega)).trans eb) ?_
              refine mj_iload_n (pc' := 51) C dX3_greatestQuality_50 rfl rfl ?_
              refine mj_iload_n (pc' := 52) C dX3_greatestQuality_51 rfl rfl ?_
              refine mj_iconst (pc' := 53) (v := 1) C dX3_greatestQuality_52 rfl rfl ?_
              refine mj_aload (pc' := 55) C dX3_greatestQuality_53 rfl rfl ?_
              refine mj_getV (pc' := 58) C dX3_greatestQuality_55 rfl (ci := 1) (f := 2) rfl (by decide) (by decide) (fun _ => rfl) (by decide) kf_X3_88 (hR.l13 (by first | assumption | omega)) ((hR.cto (by first | assumption | omega)).trans eb) ?_
              refine mj_ishl (pc' := 59) C dX3_greatestQuality_58 rfl ?_
              refine mj_ior (pc' := 60) C dX3_greatestQuality_59 rfl ?_
              refine mj_iload (pc' := 62) C dX3_greatestQuality_60 rfl rfl ?_
              refine mj_iconst (pc' := 63) (v := 1) C dX3_greatestQuality_62 rfl rfl ?_
              refine mj_iadd (pc' := 64) C dX3_greatestQuality_63 rfl ?_
              refine mj_aload (pc' := 66) C dX3_greatestQuality_64 rfl rfl ?_
              refine mj_iload (pc' := 68) C dX3_greatestQuality_66 rfl rfl ?_
              refine mj_callVN_1 (ci := 1) (pc' := 71) C (c_X1_qualityAfter hst S k (nI u)) dX3_greatestQuality_68 rfl km_X3_77 ki_yX1_qualityAfter kz_yX1_qualityAfter kn_X1 kc_yX1_qualityAfter rfl (by decide) (by decide) ⟨rfl, by decide, by decide, by decide +kernel⟩ ⟨by (try dsimp only); omega, by (try dsimp only); omega⟩ (Nat.le_of_ble_eq_true rfl) ⟨by exact Nat.le_refl _, by exact Nat.le_refl _⟩ ⟨rfl, hR.l13 hkN, hR.clo hkN⟩ (fun r68 μ68 hq68 hm68 => ?_) (fun _ _ h9 => h9)
              obtain ⟨rfl, hq9⟩ := hq68
              have hq9 := hq9.symm
              subst hq9
              dsimp only [Option.toList, List.nil_append, List.cons_append]
              rw [stQ_N hW hkN hu]
              rw [nI_1]
              refine mj_callSN_6 (pc' := 74) C (ih b (L + 1) (qS S k u) (b :: vis) (m ||| (1 <<< (nI b &&& 31)))) dX3_greatestQuality_71 rfl km_X3_66 ks_yX3_greatestQuality kn_X3 kc_yX3_greatestQuality ⟨by decide, by decide, by decide +kernel⟩ ⟨by (try dsimp only); omega, by (try dsimp only); omega⟩ (Nat.le_of_ble_eq_true rfl) ⟨by exact Nat.le_refl _, by exact Nat.le_refl _⟩ ⟨rfl, hR, ⟨hb10, hg, (by omega), Nat.le_trans (qS_le S k u) hu⟩, hb_c hm hb10⟩ (fun r71 μ71 hq71 hm71 => ?_) (fun _ _ h9 => h9)
              obtain ⟨rfl, hq9⟩ := hq71
              have hq9 := hq9.symm
              subst hq9
              dsimp only [Option.toList, List.nil_append, List.cons_append]
              refine mj_callSN_2 (pc' := 77) C (c_J9_max_7cf53 hst (G k) (gx S g n b (b :: vis) (nI (qS S k u)))) dX3_greatestQuality_74 rfl km_X3_95 ks_yJ9_max_7cf53 kn_J9 kc_yJ9_max_7cf53 ⟨by decide, by decide, by decide +kernel⟩ ⟨by (try dsimp only); omega, by (try dsimp only); omega⟩ (Nat.le_of_ble_eq_true rfl) ⟨by exact Nat.le_refl _, by exact Nat.le_refl _⟩ rfl (fun r74 μ74 hq74 hm74 => ?_) (fun _ _ h9 => h9)
              obtain ⟨rfl, hq9⟩ := hq74
              have hq9 := hq9.symm
              subst hq9
              dsimp only [Option.toList, List.nil_append, List.cons_append]
              refine mj_istore_6 (pc' := 79) C dX3_greatestQuality_77 rfl (by decide) rfl ?_
              rw [← hGn]
              refine mj_aload (pc' := 81) C dX3_greatestQuality_79 rfl rfl ?_
              refine mj_getR (pc' := 84) C dX3_greatestQuality_81 rfl (ci := 1) (f := 6) rfl (by decide) (by decide) (fun _ => rfl) (by decide) kf_X3_38 (hR.l13 (by first | assumption | omega)) (hR.next hkN hx hfk) ?_
              refine mj_astore_7 (pc' := 86) C dX3_greatestQuality_84 rfl (by decide) rfl ?_
              refine mj_goto (pc' := 28) C dX3_greatestQuality_86 (by decide) ?_
              exact ihn (k + 1) (by omega) (by omega)
      rw [eG0]
      exact loop (sn S 1) 0 (Nat.zero_le _) (by omega)
    · have hxg : x = g := (nI_eq (by omega) (by omega)).mp h2
      refine mj_iload (pc' := 7) C dX3_greatestQuality_5 rfl rfl ?_
      refine mj_iret C dX3_greatestQuality_7 (by decide) (by exact Nat.le_refl _) (by exact Nat.le_refl _) ?_
      exact ⟨congrArg some (congrArg aI (Eq.symm (if_pos hxg))), rfl⟩

set_option maxRecDepth 20000 in
theorem c_X3_greatestOfAllWays {l : Launch} (hst : l.stackTraces = false) (S : jS) (a b : Nat) : jMet l yX3_greatestOfAllWays cX3_greatestOfAllWays 3 (some FieldType.int) 16 500 0 0 (fun avs μ => avs = [aR 4 0, aI (nI a), aI (nI b)] ∧ xR S μ ∧ sW S ∧ (a < 10 ∧ b < 10)) (fun avs μ r μ' => r = some (aI (gq S b 10 a [a] 1000 (-1))) ∧ μ' = μ) (fun avs μ E μ' => False) := by
  refine jMet_of hst (by decide) ?_
  intro avs μ J C hav hpre
  obtain ⟨rfl, hR, hW, ⟨ha, hb⟩⟩ := hpre
  refine ⟨Nat.le_of_ble_eq_true rfl, ?_⟩
  show J 0 [some (aR 4 0), some (aI (nI a)), some (aI (nI b))] [] μ 0 0
  refine mj_aload_n (pc' := 1) C dX3_greatestOfAllWays_0 rfl rfl ?_
  refine mj_iload_n (pc' := 2) C dX3_greatestOfAllWays_1 rfl rfl ?_
  refine mj_iload_n (pc' := 3) C dX3_greatestOfAllWays_2 rfl rfl ?_
  refine mj_iconst (pc' := 4) (v := 1) C dX3_greatestOfAllWays_3 rfl rfl ?_
  refine mj_iload_n (pc' := 5) C dX3_greatestOfAllWays_4 rfl rfl ?_
  refine mj_ishl (pc' := 6) C dX3_greatestOfAllWays_5 rfl ?_
  refine mj_iconst (pc' := 7) (v := 0) C dX3_greatestOfAllWays_6 rfl rfl ?_
  refine mj_sipush (pc' := 10) (v := 1000) C dX3_greatestOfAllWays_7 rfl rfl ?_
  refine mj_callSN_6 (pc' := 13) C (c_X3_greatestQuality hst S hW b 9 a 0 1000 [a] (1 <<< (nI a &&& 31))) dX3_greatestOfAllWays_10 rfl km_X3_66 ks_yX3_greatestQuality kn_X3 kc_yX3_greatestQuality ⟨by decide, by decide, by decide +kernel⟩ ⟨by decide, by decide⟩ (Nat.le_of_ble_eq_true rfl) ⟨by decide, by decide⟩ ⟨rfl, hR, ⟨ha, hb, rfl, Nat.le_refl _⟩, hb_1 ha⟩ (fun r10 μ10 hq10 hm10 => ?_) (fun _ _ h9 => h9)
  obtain ⟨rfl, hq9⟩ := hq10
  have hq9 := hq9.symm
  subst hq9
  dsimp only [Option.toList, List.nil_append, List.cons_append]
  refine mj_iret C dX3_greatestOfAllWays_13 (by decide) (by decide) (by decide) ?_
  exact ⟨by rw [byAll hW]; rfl, rfl⟩
