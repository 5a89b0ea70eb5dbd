/-! THE LAW: AHEAD OF AN ACT, ITS LOOP -/
/-- the havens and prices of the files below t -/
def pG (S : jS) (t : Nat) (μ : jM) : Prop := ∀ i, i < t → mI μ 38 0 i = hv S i ∧ mI μ 39 0 i = prc S i
theorem pG.kept {S : jS} {t : Nat} {μ μ' : jM} (h : pG S t μ) (hF : xF μ μ') : pG S t μ' := fun i hi => by
  rw [((hF 38 (by omega)).2 0 i).1, ((hF 39 (by omega)).2 0 i).1]
  exact h i hi
theorem pG.a {S : jS} {t : Nat} {μ : jM} {v : Int32} (h : pG S t μ) : pG S t (sI μ 38 0 t v) := fun i hi => by
  rw [mI_sI_n _ _ _ _ _ (fun q => by omega), mI_sI_n _ _ _ _ _ (fun q => by omega)]
  exact h i hi
theorem pG.s {S : jS} {t : Nat} {μ : jM} {v : Int32} (h : pG S t μ) (h1 : mI μ 38 0 t = hv S t) (h2 : v = prc S t) : pG S (t + 1) (sI μ 39 0 t v) := fun i hi => by
  by_cases e : i = t
  · subst e
    rw [mI_sI_n _ _ _ _ _ (fun q => by omega), mI_sI_s]
    exact ⟨h1, h2⟩
  · rw [mI_sI_n _ _ _ _ _ (fun q => by omega), mI_sI_n _ _ _ _ _ (fun q => by omega)]
    exact h i (by omega)
set_option maxHeartbeats 2000000 in
set_option maxRecDepth 20000 in
theorem law_248 {l : Launch} (hst : l.stackTraces = false) {J : Nat → List (Option jV) → List jV → jM → Nat → Nat → Prop} (C : jCtx l J cL_law 36 RL room_1 (some FieldType.boolean) 3 [] (fun _ _ => True) (fun _ _ => False) 0 0) (Sc : jSc J cL_law) (S : jS) (c : Nat) (v26 v27 : Int32) (wh f fl : Nat) (μ : jM) (hc : c < 40) (hwh : wh < 13) (hf : f < 10) (hfl : 0 < sn S 0 → fl < sn S 0) (hR : xR S μ) (hP : pR S μ) (hA : sA S) (hI : pI c S) (fin : pFin J c v27) : J 248 [some (aR 61 0), some (aR 0 0), some (aR 22 0), some (aR 23 0), some (aR 24 0), some (aR 25 0), some (aR 21 0), some (aR 27 0), some (aR 28 0), some (aR 29 0), some (aR 30 0), some (aR 31 0), some (aR 32 0), some (aR 33 0), some (aR 34 0), some (aR 35 0), some (aR 36 0), some (aR 37 0), some (aR 38 0), some (aR 39 0), some (aI (nI (sn S 1))), some (aI (nI (sn S 0))), some (aI (sf S 17 2)), some (aI (sf S 17 0)), some (aI (sf S 17 1)), some (aI (nI c)), some (aI v26), some (aI v27), some (aI (nI wh)), some (aI (nI f)), none, none, none, none, none, none] [aI (nI fl)] μ (300 + 1000 * c) (4000 + 10000 * c) := by
  have hW := hA.1
  have hW1 := hW.1.2
  have hN := hI.1
  refine mj_istore_30 (pc' := 250) C dL_law_248 rfl (by decide) rfl ?_
  refine mj_aload (pc' := 252) C dL_law_250 rfl rfl ?_
  refine mj_iload (pc' := 254) C dL_law_252 rfl rfl ?_
  refine mj_ialdV (pc' := 255) C dL_law_254 rfl rfl (by decide) (by decide) (hP.B.l 0 (by decide) rfl) rfl hf (hP.last hf) ?_
  refine mj_iconst (pc' := 256) (v := (-1)) C dL_law_255 rfl rfl ?_
  refine jn (tgt := 274) (v := aI (b1 (canR S f))) (st := []) (fun K256 => ?_) ?_
  · refine mj_icmp_eq (tgt := 269) (pc' := 259) C dL_law_256 (by decide) rfl (fun h256 => ?_) (fun h256 => ?_)
    · have ej : b1 (canR S f) = 1 := b1_t (Or.inl h256)
      refine mj_iconst (pc' := 270) (v := 1) C dL_law_269 rfl rfl ?_
      refine mj_goto (pc' := 274) C dL_law_270 (by decide) ?_
      rw [ej] at K256
      exact K256
    · refine mj_aload (pc' := 261) C dL_law_259 rfl rfl ?_
      refine mj_iload (pc' := 263) C dL_law_261 rfl rfl ?_
      refine mj_ialdV (pc' := 264) C dL_law_263 rfl rfl (by decide) (by decide) (hP.B.l 0 (by decide) rfl) rfl hf (hP.last hf) ?_
      refine mj_iload (pc' := 266) C dL_law_264 rfl rfl ?_
      refine mj_icmp_lt (tgt := 273) (pc' := 269) C dL_law_266 (by decide) rfl (fun h266 => ?_) (fun h266 => ?_)
      · have ej : b1 (canR S f) = 0 := b1_f (fun q => q.elim h256 (fun z => absurd z (Int32.not_le.mpr h266)))
        refine mj_iconst (pc' := 274) (v := 0) C dL_law_273 rfl rfl ?_
        rw [ej] at K256
        exact K256
      · have ej : b1 (canR S f) = 1 := b1_t (Or.inr (Int32.not_lt.mp h266))
        refine mj_iconst (pc' := 270) (v := 1) C dL_law_269 rfl rfl ?_
        refine mj_goto (pc' := 274) C dL_law_270 (by decide) ?_
        rw [ej] at K256
        exact K256
  refine mj_istore_31 (pc' := 276) C dL_law_274 rfl (by decide) rfl ?_
  refine mj_iconst (pc' := 277) (v := 0) C dL_law_276 rfl rfl ?_
  refine mj_istore_32 (pc' := 279) C dL_law_277 rfl (by decide) rfl ?_
  have loop : ∀ (d : Nat) (t : Nat) (μ1 : jM), t + d = sn S 0 → xR S μ1 → pR S μ1 → pG S t μ1 → J 279 [some (aR 61 0), some (aR 0 0), some (aR 22 0), some (aR 23 0), some (aR 24 0), some (aR 25 0), some (aR 21 0), some (aR 27 0), some (aR 28 0), some (aR 29 0), some (aR 30 0), some (aR 31 0), some (aR 32 0), some (aR 33 0), some (aR 34 0), some (aR 35 0), some (aR 36 0), some (aR 37 0), some (aR 38 0), some (aR 39 0), some (aI (nI (sn S 1))), some (aI (nI (sn S 0))), some (aI (sf S 17 2)), some (aI (sf S 17 0)), some (aI (sf S 17 1)), some (aI (nI c)), some (aI v26), some (aI v27), some (aI (nI wh)), some (aI (nI f)), some (aI (nI fl)), some (aI (b1 (canR S f))), some (aI (nI t)), none, none, none] [] μ1 (300 + 1000 * c + 3 * t) (4000 + 10000 * c + 18 * t) := by
    intro d
    induction d with
    | zero =>
      intro t μ1 hd hR hP hG
      obtain rfl : t = sn S 0 := by omega
      refine mj_iload (pc' := 281) C dL_law_279 rfl rfl ?_
      refine mj_iload (pc' := 283) C dL_law_281 rfl rfl ?_
      refine mj_icmp_ge (tgt := 341) (pc' := 286) C dL_law_283 (by decide) rfl (fun _ => ?_) (fun h9 => absurd (Int32.le_refl _) h9)
      refine Sc.widen (k' := 400 + 1000 * c) (n' := 5000 + 10000 * c) (by omega) (by omega) ?_
      exact Sc.mask [true, true, true, true, true, true, true, true, true, true, true, true, true, true, true, true, true, true, true, true, true, true, true, true, true, true, true, true, true, true, true, true, false, false, false, false] (pk_341 hst C Sc S c v26 v27 wh f fl _ hc hwh hf hfl hR hP hG hA hI fin)
    | succ d ih =>
      intro t μ1 hd hR hP hG
      have hlt : t < sn S 0 := by omega
      obtain ⟨hg, eg⟩ := fF_of hW hlt
      refine mj_iload (pc' := 281) C dL_law_279 rfl rfl ?_
      refine mj_iload (pc' := 283) C dL_law_281 rfl rfl ?_
      refine mj_icmp_ge (tgt := 341) (pc' := 286) C dL_law_283 (by decide) rfl (fun h9 => absurd h9 (nI_ge hlt (by omega))) (fun _ => ?_)
      refine mj_aload (pc' := 288) C dL_law_286 rfl rfl ?_
      refine mj_iload (pc' := 290) C dL_law_288 rfl rfl ?_
      refine mj_aload_n (pc' := 291) C dL_law_290 rfl rfl ?_
      refine mj_iload (pc' := 293) C dL_law_291 rfl rfl ?_
      refine mj_callVN_1 (ci := 5) (pc' := 296) C (c_X5_haven hst S (nI t)) dL_law_293 rfl km_L_26 ki_yX5_haven kz_yX5_haven kn_X5 kc_yX5_haven rfl (by decide) (by decide) ⟨rfl, by decide, by decide, by decide +kernel⟩ ⟨by decide, by decide⟩ (Nat.le_of_ble_eq_true rfl) ⟨by first | decide | (show _ ≤ (600104 : Nat); omega) | (show _ ≤ (7301314 : Nat); omega), by first | decide | (show _ ≤ (600104 : Nat); omega) | (show _ ≤ (7301314 : Nat); omega)⟩ ⟨rfl, hR, hW⟩ (fun r293 μ293 hq293 hm293 => ?_) (fun _ _ h9 => jno_of (oe_haven hW hlt) h9)
      obtain ⟨rfl, hR293, hF293⟩ := jret_of (oe_haven hW hlt) hq293
      dsimp only [Option.toList, List.nil_append, List.cons_append]
      have hR := hR293
      have hP := hP.kept hF293
      have hG := hG.kept hF293
      refine mj_iast (pc' := 297) C dL_law_296 rfl rfl (by decide) (by decide) (hP.B.l 17 (by decide) rfl) rfl (by omega) ?_
      refine jgen (J := J) (P := fun μ2 => xR S μ2 ∧ pR S μ2 ∧ pG S t μ2 ∧ mI μ2 38 0 t = hv S t) ⟨hR.o (by decide), pR_out (a := 17) hP 38 rfl (by decide) (fun q => absurd q (by decide)), hG.a, mI_sI_s _ _ _ _ _⟩ ?_
      clear hR hP
      rintro μ297 ⟨hR, hP, hG, w38⟩
      refine mj_aload (pc' := 299) C dL_law_297 rfl rfl ?_
      refine mj_iload (pc' := 301) C dL_law_299 rfl rfl ?_
      refine mj_aload (pc' := 303) C dL_law_301 rfl rfl ?_
      refine mj_iload (pc' := 305) C dL_law_303 rfl rfl ?_
      refine mj_ialdV (pc' := 306) C dL_law_305 rfl rfl (by decide) (by decide) (hP.B.l 17 (by decide) rfl) rfl (by omega) w38 ?_
      refine mj_iconst (pc' := 307) (v := (-1)) C dL_law_306 rfl rfl ?_
      refine mj_icmp_ne (tgt := 314) (pc' := 310) C dL_law_307 (by decide) rfl (fun h307 => ?_) (fun h307 => ?_)
      · obtain ⟨hs, j, hj, ej, -, -⟩ := hv_some h307
        have ev : sf S 10 t * bc (best S (fF S t) j) = prc S t := by unfold prc; rw [if_neg h307, ej, ix_nI (by omega)]
        refine mj_aload (pc' := 316) C dL_law_314 rfl rfl ?_
        refine mj_iload (pc' := 318) C dL_law_316 rfl rfl ?_
        refine mj_ialdV (pc' := 319) C dL_law_318 rfl rfl (by decide) (by decide) (hP.B.l 10 (by decide) rfl) rfl (by omega) (hP.siz (by first | assumption | omega)) ?_
        refine mj_aload_n (pc' := 320) C dL_law_319 rfl rfl ?_
        refine mj_aload (pc' := 322) C dL_law_320 rfl rfl ?_
        refine mj_iload (pc' := 324) C dL_law_322 rfl rfl ?_
        refine mj_ialdV (pc' := 325) C dL_law_324 rfl rfl (by decide) (by decide) (hP.B.l 9 (by decide) rfl) rfl (by omega) ((hP.fmt hlt).trans eg) ?_
        refine mj_aload (pc' := 327) C dL_law_325 rfl rfl ?_
        refine mj_iload (pc' := 329) C dL_law_327 rfl rfl ?_
        refine mj_ialdV (pc' := 330) C dL_law_329 rfl rfl (by decide) (by decide) (hP.B.l 17 (by decide) rfl) rfl (by omega) (w38.trans ej) ?_
        refine mj_callVN_2 (ci := 5) (pc' := 333) C (c_X5_cost hst S (nI (fF S t)) (nI j)) dL_law_330 rfl km_L_19 ki_yX5_cost kz_yX5_cost kn_X5 kc_yX5_cost rfl (by decide) (by decide) ⟨rfl, by decide, by decide, by decide +kernel⟩ ⟨by decide, by decide⟩ (Nat.le_of_ble_eq_true rfl) ⟨by first | decide | (show _ ≤ (600104 : Nat); omega) | (show _ ≤ (7301314 : Nat); omega), by first | decide | (show _ ≤ (600104 : Nat); omega) | (show _ ≤ (7301314 : Nat); omega)⟩ ⟨rfl, hR, hW⟩ (fun r330 μ330 hq330 hm330 => ?_) (fun _ _ h9 => jno_of (oe_cost hg hj) h9)
        obtain ⟨rfl, hR330, hF330⟩ := jret_of (oe_cost hg hj) hq330
        dsimp only [Option.toList, List.nil_append, List.cons_append]
        have hR := hR330
        have hP := hP.kept hF330
        have hG := hG.kept hF330
        have w38 := (((hF330 38 (by omega)).2 0 t).1).trans w38
        refine mj_imul (pc' := 334) C dL_law_333 rfl ?_
        refine mj_iast (pc' := 335) C dL_law_334 rfl rfl (by decide) (by decide) (hP.B.l 18 (by decide) rfl) rfl (by omega) ?_
        refine jgen (J := J) (P := fun μ2 => xR S μ2 ∧ pR S μ2 ∧ pG S (t + 1) μ2) ⟨hR.o (by decide), pR_out (a := 18) hP 39 rfl (by decide) (fun q => absurd q (by decide)), hG.s w38 ev⟩ ?_
        clear hR hP
        rintro μ335 ⟨hR, hP, hG⟩
        refine mj_iinc_32 (pc' := 338) (w := 1) C dL_law_335 rfl rfl (by decide) rfl ?_
        refine mj_goto (pc' := 279) C dL_law_338 (by decide) ?_
        rw [nI_1]
        refine Sc.widen (k' := 300 + 1000 * c + 3 * (t + 1)) (n' := 4000 + 10000 * c + 18 * (t + 1)) (by omega) (by omega) ?_
        exact ih (t + 1) _ (by omega) hR hP hG
      · have ev : (0 : Int32) = prc S t := (if_pos h307).symm
        refine mj_iconst (pc' := 311) (v := 0) C dL_law_310 rfl rfl ?_
        refine mj_goto (pc' := 334) C dL_law_311 (by decide) ?_
        refine mj_iast (pc' := 335) C dL_law_334 rfl rfl (by decide) (by decide) (hP.B.l 18 (by decide) rfl) rfl (by omega) ?_
        refine jgen (J := J) (P := fun μ2 => xR S μ2 ∧ pR S μ2 ∧ pG S (t + 1) μ2) ⟨hR.o (by decide), pR_out (a := 18) hP 39 rfl (by decide) (fun q => absurd q (by decide)), hG.s w38 ev⟩ ?_
        clear hR hP
        rintro μ335 ⟨hR, hP, hG⟩
        refine mj_iinc_32 (pc' := 338) (w := 1) C dL_law_335 rfl rfl (by decide) rfl ?_
        refine mj_goto (pc' := 279) C dL_law_338 (by decide) ?_
        rw [nI_1]
        refine Sc.widen (k' := 300 + 1000 * c + 3 * (t + 1)) (n' := 4000 + 10000 * c + 18 * (t + 1)) (by omega) (by omega) ?_
        exact ih (t + 1) _ (by omega) hR hP hG
  exact loop (sn S 0) 0 _ (Nat.zero_add _) hR hP (fun i h => absurd h (Nat.not_lt_zero i))

set_option maxHeartbeats 2000000 in
set_option maxRecDepth 20000 in
theorem law_head {l : Launch} (hst : l.stackTraces = false) {J : Nat → List (Option jV) → List jV → jM → Nat → Nat → Prop} (C : jCtx l J cL_law 36 RL room_1 (some FieldType.boolean) 3 [] (fun _ _ => True) (fun _ _ => False) 0 0) (Sc : jSc J cL_law) (S : jS) (c : Nat) (μ : jM) (hc : c < 40) (hR : xR S μ) (hP : pR S μ) (hA : sA S) (hI : pI c S) (next : ∀ (S : jS) (μ : jM), xR S μ → pR S μ → sA S → pI (c + 1) S → J 183 [some (aR 61 0), some (aR 0 0), some (aR 22 0), some (aR 23 0), some (aR 24 0), some (aR 25 0), some (aR 21 0), some (aR 27 0), some (aR 28 0), some (aR 29 0), some (aR 30 0), some (aR 31 0), some (aR 32 0), some (aR 33 0), some (aR 34 0), some (aR 35 0), some (aR 36 0), some (aR 37 0), some (aR 38 0), some (aR 39 0), some (aI (nI (sn S 1))), some (aI (nI (sn S 0))), some (aI (sf S 17 2)), some (aI (sf S 17 0)), some (aI (sf S 17 1)), some (aI (nI (c + 1))), none, none, none, none, none, none, none, none, none, none] [] μ (300 + 1000 * (c + 1)) (4000 + 10000 * (c + 1))) : J 183 [some (aR 61 0), some (aR 0 0), some (aR 22 0), some (aR 23 0), some (aR 24 0), some (aR 25 0), some (aR 21 0), some (aR 27 0), some (aR 28 0), some (aR 29 0), some (aR 30 0), some (aR 31 0), some (aR 32 0), some (aR 33 0), some (aR 34 0), some (aR 35 0), some (aR 36 0), some (aR 37 0), some (aR 38 0), some (aR 39 0), some (aI (nI (sn S 1))), some (aI (nI (sn S 0))), some (aI (sf S 17 2)), some (aI (sf S 17 0)), some (aI (sf S 17 1)), some (aI (nI c)), none, none, none, none, none, none, none, none, none, none] [] μ (300 + 1000 * c) (4000 + 10000 * c) := by
  have hW := hA.1
  have hW1 := hW.1.2
  have hN := hI.1
  refine mj_iload (pc' := 185) C dL_law_183 rfl rfl ?_
  refine mj_bipush (pc' := 187) (v := 40) C dL_law_185 rfl rfl ?_
  refine mj_icmp_ge (tgt := 1522) (pc' := 190) C dL_law_187 (by decide) rfl (fun h9 => absurd h9 (nI_ge (b := 40) hc (by decide))) (fun _ => ?_)
  refine mj_aload_n (pc' := 191) C dL_law_190 rfl rfl ?_
  refine mj_iconst (pc' := 192) (v := 2) C dL_law_191 rfl rfl ?_
  refine mj_iload (pc' := 194) C dL_law_192 rfl rfl ?_
  refine mj_imul (pc' := 195) C dL_law_194 rfl ?_
  refine Sc.cell (pc' := 198) dL_law_195 rfl km_L_47 (show (2 : Int32) * nI c = nI (2 * c) from pk_mul 2 c) (by omega) (Nat.le_of_ble_eq_true rfl) (by first | decide | (show _ ≤ (600104 : Nat); omega) | (show _ ≤ (7301314 : Nat); omega)) (by first | decide | (show _ ≤ (600104 : Nat); omega) | (show _ ≤ (7301314 : Nat); omega)) (fun v195 => ?_)
  refine mj_istore_26 (pc' := 200) C dL_law_198 rfl (by decide) rfl ?_
  refine mj_aload_n (pc' := 201) C dL_law_200 rfl rfl ?_
  refine mj_iconst (pc' := 202) (v := 2) C dL_law_201 rfl rfl ?_
  refine mj_iload (pc' := 204) C dL_law_202 rfl rfl ?_
  refine mj_imul (pc' := 205) C dL_law_204 rfl ?_
  refine mj_iconst (pc' := 206) (v := 1) C dL_law_205 rfl rfl ?_
  refine mj_iadd (pc' := 207) C dL_law_206 rfl ?_
  refine Sc.cell (pc' := 210) dL_law_207 rfl km_L_47 (show (2 : Int32) * nI c + 1 = nI (2 * c + 1) from by rw [show (2 : Int32) * nI c = nI (2 * c) from pk_mul 2 c, nI_1]) (by omega) (Nat.le_of_ble_eq_true rfl) (by first | decide | (show _ ≤ (600104 : Nat); omega) | (show _ ≤ (7301314 : Nat); omega)) (by first | decide | (show _ ≤ (600104 : Nat); omega) | (show _ ≤ (7301314 : Nat); omega)) (fun v207 => ?_)
  refine mj_istore_27 (pc' := 212) C dL_law_210 rfl (by decide) rfl ?_
  refine mj_iload (pc' := 214) C dL_law_212 rfl rfl ?_
  refine mj_bipush (pc' := 216) (v := 13) C dL_law_214 rfl rfl ?_
  refine mj_callSN_2 (pc' := 219) C (c_L_low hst v195 13 ⟨by decide, by decide⟩) dL_law_216 rfl km_L_53 ks_yL_low kn_L kc_yL_low ⟨by decide, by decide, by decide +kernel⟩ ⟨by decide, by decide⟩ (Nat.le_of_ble_eq_true rfl) ⟨by first | decide | (show _ ≤ (600104 : Nat); omega) | (show _ ≤ (7301314 : Nat); omega), by first | decide | (show _ ≤ (600104 : Nat); omega) | (show _ ≤ (7301314 : Nat); omega)⟩ rfl (fun r216 μ216 hq216 hm216 => ?_) (fun _ _ h9 => h9)
  obtain ⟨⟨w216, hw216, rfl⟩, hq9⟩ := hq216
  have hq9 := hq9.symm
  subst hq9
  dsimp only [Option.toList, List.nil_append, List.cons_append]
  refine mj_istore_28 (pc' := 221) C dL_law_219 rfl (by decide) rfl ?_
  refine mj_iload (pc' := 223) C dL_law_221 rfl rfl ?_
  refine mj_iconst (pc' := 224) (v := 4) C dL_law_223 rfl rfl ?_
  refine mj_ishr (pc' := 225) C dL_law_224 rfl ?_
  refine mj_bipush (pc' := 227) (v := 10) C dL_law_225 rfl rfl ?_
  refine mj_callSN_2 (pc' := 230) C (c_L_low hst (v195 >>> (4 &&& 31)) 10 ⟨by decide, by decide⟩) dL_law_227 rfl km_L_53 ks_yL_low kn_L kc_yL_low ⟨by decide, by decide, by decide +kernel⟩ ⟨by decide, by decide⟩ (Nat.le_of_ble_eq_true rfl) ⟨by first | decide | (show _ ≤ (600104 : Nat); omega) | (show _ ≤ (7301314 : Nat); omega), by first | decide | (show _ ≤ (600104 : Nat); omega) | (show _ ≤ (7301314 : Nat); omega)⟩ rfl (fun r227 μ227 hq227 hm227 => ?_) (fun _ _ h9 => h9)
  obtain ⟨⟨w227, hw227, rfl⟩, hq9⟩ := hq227
  have hq9 := hq9.symm
  subst hq9
  dsimp only [Option.toList, List.nil_append, List.cons_append]
  refine mj_istore_29 (pc' := 232) C dL_law_230 rfl (by decide) rfl ?_
  refine mj_iload (pc' := 234) C dL_law_232 rfl rfl ?_
  refine mj_if_ne (tgt := 241) (pc' := 237) C dL_law_234 (by decide) rfl (fun h234 => ?_) (fun h234 => ?_)
  · have h0 : 0 < sn S 0 := Nat.pos_of_ne_zero (fun q => h234 (by rw [q]; rfl))
    refine mj_iload (pc' := 243) C dL_law_241 rfl rfl ?_
    refine mj_iload (pc' := 245) C dL_law_243 rfl rfl ?_
    refine mj_callSN_2 (pc' := 248) C (c_L_low hst v207 (sn S 0) ⟨h0, by omega⟩) dL_law_245 rfl km_L_53 ks_yL_low kn_L kc_yL_low ⟨by decide, by decide, by decide +kernel⟩ ⟨by decide, by decide⟩ (Nat.le_of_ble_eq_true rfl) ⟨by first | decide | (show _ ≤ (600104 : Nat); omega) | (show _ ≤ (7301314 : Nat); omega), by first | decide | (show _ ≤ (600104 : Nat); omega) | (show _ ≤ (7301314 : Nat); omega)⟩ rfl (fun r245 μ245 hq245 hm245 => ?_) (fun _ _ h9 => h9)
    obtain ⟨⟨w245, hw245, rfl⟩, hq9⟩ := hq245
    have hq9 := hq9.symm
    subst hq9
    dsimp only [Option.toList, List.nil_append, List.cons_append]
    first | exact law_248 hst C Sc S c v195 v207 w216 w227 w245 _ hc hw216 hw227 (fun _ => hw245) hR hP hA hI (law_tail hst C Sc c hc v207 next) | exact law_248 hst C Sc S c v195 v207 w216 w227 0 _ hc hw216 hw227 (fun q => absurd q hz0) hR hP hA hI (law_tail hst C Sc c hc v207 next)
  · have hz0 : ¬ 0 < sn S 0 := fun q => nI_ne0 q (by omega) h234
    refine mj_iconst (pc' := 238) (v := 0) C dL_law_237 rfl rfl ?_
    refine mj_goto (pc' := 248) C dL_law_238 (by decide) ?_
    first | exact law_248 hst C Sc S c v195 v207 w216 w227 w245 _ hc hw216 hw227 (fun _ => hw245) hR hP hA hI (law_tail hst C Sc c hc v207 next) | exact law_248 hst C Sc S c v195 v207 w216 w227 0 _ hc hw216 hw227 (fun q => absurd q hz0) hR hP hA hI (law_tail hst C Sc c hc v207 next)

theorem law_loop {l : Launch} (hst : l.stackTraces = false) {J : Nat → List (Option jV) → List jV → jM → Nat → Nat → Prop} (C : jCtx l J cL_law 36 RL room_1 (some FieldType.boolean) 3 [] (fun _ _ => True) (fun _ _ => False) 0 0) (Sc : jSc J cL_law) : ∀ (d c : Nat) (S : jS) (μ : jM), c + d = 40 → xR S μ → pR S μ → sA S → pI c S → J 183 [some (aR 61 0), some (aR 0 0), some (aR 22 0), some (aR 23 0), some (aR 24 0), some (aR 25 0), some (aR 21 0), some (aR 27 0), some (aR 28 0), some (aR 29 0), some (aR 30 0), some (aR 31 0), some (aR 32 0), some (aR 33 0), some (aR 34 0), some (aR 35 0), some (aR 36 0), some (aR 37 0), some (aR 38 0), some (aR 39 0), some (aI (nI (sn S 1))), some (aI (nI (sn S 0))), some (aI (sf S 17 2)), some (aI (sf S 17 0)), some (aI (sf S 17 1)), some (aI (nI c)), none, none, none, none, none, none, none, none, none, none] [] μ (300 + 1000 * c) (4000 + 10000 * c) := by
  intro d
  induction d with
  | zero =>
    intro c S μ hd hR hP hA hI
    obtain rfl : c = 40 := by omega
    refine mj_iload (pc' := 185) C dL_law_183 rfl rfl ?_
    refine mj_bipush (pc' := 187) (v := 40) C dL_law_185 rfl rfl ?_
    refine mj_icmp_ge (tgt := 1522) (pc' := 190) C dL_law_187 (by decide) rfl (fun _ => ?_) (fun h9 => absurd (Int32.le_refl _) h9)
    refine mj_iconst (pc' := 1523) (v := 1) C dL_law_1522 rfl rfl ?_
    exact Sc.ret dL_law_1523 (by omega) (by omega)
  | succ d ih =>
    intro c S μ hd hR hP hA hI
    exact law_head hst C Sc S c μ (by omega) hR hP hA hI (fun S μ hR hP hA hI => ih (c + 1) S μ (by omega) hR hP hA hI)
