/-! THE LAW: CONVERTERS -/
set_option maxHeartbeats 2000000 in
set_option maxRecDepth 20000 in
theorem pk_442 {l : Launch} (hst : l.stackTraces = false) {J : Nat → List (Option jV) → List jV → jM → Nat → Nat → Prop} (C : jCtx l J cL_law 36 RL room_1 (some FieldType.boolean) 3 [] (fun _ _ => True) (fun _ _ => False) 0 0) (Sc : jSc J cL_law) (S : jS) (c : Nat) (v26 v27 : Int32) (wh f fl : Nat) (μ : jM) (hc : c < 40) (hwh : wh < 13) (hf : f < 10) (hfl : 0 < sn S 0 → fl < sn S 0) (hR : xR S μ) (hP : pR S μ) (hH : pH S μ) (hA : sA S) (hI : pI c S) (fin : pFin J c v27) : J 442 [some (aR 61 0), some (aR 0 0), some (aR 22 0), some (aR 23 0), some (aR 24 0), some (aR 25 0), some (aR 21 0), some (aR 27 0), some (aR 28 0), some (aR 29 0), some (aR 30 0), some (aR 31 0), some (aR 32 0), some (aR 33 0), some (aR 34 0), some (aR 35 0), some (aR 36 0), some (aR 37 0), some (aR 38 0), some (aR 39 0), some (aI (nI (sn S 1))), some (aI (nI (sn S 0))), some (aI (sf S 17 2)), some (aI (sf S 17 0)), some (aI (sf S 17 1)), some (aI (nI c)), some (aI v26), some (aI v27), some (aI (nI wh)), some (aI (nI f)), some (aI (nI fl)), some (aI (b1 (canR S f))), none, none, none, none] [] μ (400 + 1000 * c) (5000 + 10000 * c) := by
  have hW := hA.1
  have hW1 := hW.1.2
  have hN := hI.1
  refine mj_iload (pc' := 444) C dL_law_442 rfl rfl ?_
  refine mj_iconst (pc' := 445) (v := 4) C dL_law_444 rfl rfl ?_
  refine mj_icmp_ne (tgt := 540) (pc' := 448) C dL_law_445 (by decide) rfl (fun h445 => ?_) (fun h445 => ?_)
  · exact pk_540 hst C Sc S c v26 v27 wh f fl μ hc hwh hf hfl hR hP hH hA hI fin
  · refine mj_iload (pc' := 450) C dL_law_448 rfl rfl ?_
    refine mj_if_le (tgt := 540) (pc' := 453) C dL_law_450 (by decide) rfl (fun h450 => ?_) (fun h450 => ?_)
    · exact pk_540 hst C Sc S c v26 v27 wh f fl μ hc hwh hf hfl hR hP hH hA hI fin
    · have h0 : 0 < sn S 1 := Nat.pos_of_ne_zero (fun q => h450 (by rw [q]; decide))
      refine mj_iload (pc' := 455) C dL_law_453 rfl rfl ?_
      refine mj_iload (pc' := 457) C dL_law_455 rfl rfl ?_
      refine mj_callSN_2 (pc' := 460) C (c_L_low hst v27 (sn S 1) ⟨h0, by omega⟩) dL_law_457 rfl km_L_53 ks_yL_low kn_L kc_yL_low ⟨by decide, by decide, by decide +kernel⟩ ⟨by decide, by decide⟩ (Nat.le_of_ble_eq_true rfl) ⟨by first | decide | (show _ ≤ (600104 : Nat); omega) | (show _ ≤ (7301314 : Nat); omega), by first | decide | (show _ ≤ (600104 : Nat); omega) | (show _ ≤ (7301314 : Nat); omega)⟩ rfl (fun r457 μ457 hq457 hm457 => ?_) (fun _ _ h9 => h9)
      obtain ⟨⟨w457, hw457, rfl⟩, hq9⟩ := hq457
      have hq9 := hq9.symm
      subst hq9
      dsimp only [Option.toList, List.nil_append, List.cons_append]
      refine mj_istore_32 (pc' := 462) C dL_law_460 rfl (by decide) rfl ?_
      refine mj_aload (pc' := 464) C dL_law_462 rfl rfl ?_
      refine mj_iload (pc' := 466) C dL_law_464 rfl rfl ?_
      refine mj_ialdV (pc' := 467) C dL_law_466 rfl rfl (by decide) (by decide) (hP.B.l 3 (by decide) rfl) rfl (by omega) (hP.los (by first | assumption | omega)) ?_
      refine mj_iconst (pc' := 468) (v := (-1)) C dL_law_467 rfl rfl ?_
      refine mj_icmp_eq (tgt := 537) (pc' := 471) C dL_law_468 (by decide) rfl (fun h468 => ?_) (fun h468 => ?_)
      · refine mj_goto (pc' := 1337) C dL_law_537 (by decide) ?_
        exact fin.use Sc S rfl rfl rfl rfl rfl hR hP hA hI.up (by omega) (by omega)
      · have h5 : sf S 5 w457 = 0 := Decidable.byContradiction (fun q => h468 (if_pos ⟨rfl, q⟩))
        have eo := oe_withdraw (S := S) hw457 hW1 h5
        refine mj_aload (pc' := 473) C dL_law_471 rfl rfl ?_
        refine mj_iload (pc' := 475) C dL_law_473 rfl rfl ?_
        refine mj_iconst (pc' := 476) (v := (-1)) C dL_law_475 rfl rfl ?_
        refine mj_iast (pc' := 477) C dL_law_476 rfl rfl (by decide) (by decide) (hP.B.l 3 (by decide) rfl) rfl (by omega) ?_
        refine jgen (J := J) (P := fun μ2 => xR S μ2 ∧ pR (su S 5 w457 1) μ2 ∧ pH S μ2) ⟨hR.o (by decide), pR_wd hP, hH.o (by decide)⟩ ?_
        clear hR hP
        rintro μ477 ⟨hR, hP, hH⟩
        refine mj_aload_n (pc' := 478) C dL_law_477 rfl rfl ?_
        refine mj_iload (pc' := 480) C dL_law_478 rfl rfl ?_
        refine mj_callVN_1 (ci := 5) (pc' := 483) C (c_X5_withdraw hst S (nI w457)) dL_law_480 rfl km_L_60 ki_yX5_withdraw kz_yX5_withdraw kn_X5 kc_yX5_withdraw rfl (by decide) (by decide) ⟨rfl, by decide, by decide, by decide +kernel⟩ ⟨by decide, by decide⟩ (Nat.le_of_ble_eq_true rfl) ⟨by first | decide | (show _ ≤ (600104 : Nat); omega) | (show _ ≤ (7301314 : Nat); omega), by first | decide | (show _ ≤ (600104 : Nat); omega) | (show _ ≤ (7301314 : Nat); omega)⟩ ⟨rfl, hR, hW⟩ (fun r480 μ480 hq480 hm480 => ?_) (fun _ _ h9 => jno_of (eo) h9)
        obtain ⟨rfl, hR480, hF480⟩ := jret_of (eo) hq480
        dsimp only [Option.toList, List.nil_append, List.cons_append]
        have hR := hR480
        have hP := hP.kept hF480
        have hH := hH.kept hF480
        have hA9 := A_withdraw hA (nI w457)
        rw [eo] at hA9
        dsimp only at hA9
        have f17 : ∀ x, sf (su S 5 w457 1) 17 x = sf S 17 x := fun x => s17 (by decide)
        have n0 : sn (su S 5 w457 1) 0 = sn S 0 := rfl
        have n1 : sn (su S 5 w457 1) 1 = sn S 1 := rfl
        clear eo
        generalize su S 5 w457 1 = S9 at hR hP hA9 f17 n0 n1 ⊢
        refine mj_istore_33 (pc' := 485) C dL_law_483 rfl (by decide) rfl ?_
        refine mj_iconst (pc' := 486) (v := 0) C dL_law_485 rfl rfl ?_
        refine mj_istore_34 (pc' := 488) C dL_law_486 rfl (by decide) rfl ?_
        have loop : ∀ (d : Nat) (t : Nat) (μ1 : jM), t + d = sn S 0 → xR S9 μ1 → pR S9 μ1 → pH S μ1 → J 488 [some (aR 61 0), some (aR 0 0), some (aR 22 0), some (aR 23 0), some (aR 24 0), some (aR 25 0), some (aR 21 0), some (aR 27 0), some (aR 28 0), some (aR 29 0), some (aR 30 0), some (aR 31 0), some (aR 32 0), some (aR 33 0), some (aR 34 0), some (aR 35 0), some (aR 36 0), some (aR 37 0), some (aR 38 0), some (aR 39 0), some (aI (nI (sn S 1))), some (aI (nI (sn S 0))), some (aI (sf S 17 2)), some (aI (sf S 17 0)), some (aI (sf S 17 1)), some (aI (nI c)), some (aI v26), some (aI v27), some (aI (nI wh)), some (aI (nI f)), some (aI (nI fl)), some (aI (b1 (canR S f))), some (aI (nI w457)), some (aI (nI (lostHv S S9 (sn S 0)) - nI (lostHv S S9 t))), some (aI (nI t)), none] [] μ1 (410 + 1000 * c + t) (5100 + 10000 * c + 6 * t) := by
          intro d
          induction d with
          | zero =>
            intro t μ1 hd hR hP hH
            obtain rfl : t = sn S 0 := by omega
            refine mj_iload (pc' := 490) C dL_law_488 rfl rfl ?_
            refine mj_iload (pc' := 492) C dL_law_490 rfl rfl ?_
            refine mj_icmp_ge (tgt := 530) (pc' := 495) C dL_law_492 (by decide) rfl (fun _ => ?_) (fun h9 => absurd (Int32.le_refl _) h9)
            refine mj_iload (pc' := 532) C dL_law_530 rfl rfl ?_
            refine mj_if_eq (tgt := 537) (pc' := 535) C dL_law_532 (by decide) rfl (fun _ => ?_) (fun h9 => absurd (Int32.sub_self _) h9)
            refine mj_goto (pc' := 1337) C dL_law_537 (by decide) ?_
            exact fin.use Sc S9 (by rw [n1]) (by rw [n0]) (f17 2).symm (f17 0).symm (f17 1).symm hR hP hA9 (hI.to (by rw [n0]; exact hN) f17) (by omega) (by omega)
          | succ d ih =>
            intro t μ1 hd hR hP hH
            have hlt : t < sn S 0 := by omega
            refine mj_iload (pc' := 490) C dL_law_488 rfl rfl ?_
            refine mj_iload (pc' := 492) C dL_law_490 rfl rfl ?_
            refine mj_icmp_ge (tgt := 530) (pc' := 495) C dL_law_492 (by decide) rfl (fun h9 => absurd h9 (nI_ge hlt (by omega))) (fun _ => ?_)
            refine mj_iload (pc' := 497) C dL_law_495 rfl rfl ?_
            refine mj_aload (pc' := 499) C dL_law_497 rfl rfl ?_
            refine mj_iload (pc' := 501) C dL_law_499 rfl rfl ?_
            refine mj_ialdV (pc' := 502) C dL_law_501 rfl rfl (by decide) (by decide) (hP.B.l 17 (by decide) rfl) rfl (by omega) (hH _ (by first | assumption | omega)).1 ?_
            refine mj_iconst (pc' := 503) (v := (-1)) C dL_law_502 rfl rfl ?_
            refine mj_icmp_eq (tgt := 520) (pc' := 506) C dL_law_503 (by decide) rfl (fun h503 => ?_) (fun h503 => ?_)
            · have ej := lost_0 (S := S) (S' := S9) (t := t) (nI (lostHv S S9 (sn S 0))) (fun q => q.1 h503)
              refine mj_iconst (pc' := 521) (v := 0) C dL_law_520 rfl rfl ?_
              refine mj_isub (pc' := 522) C dL_law_521 rfl ?_
              refine mj_istore_33 (pc' := 524) C dL_law_522 rfl (by decide) rfl ?_
              refine mj_iinc_34 (pc' := 527) (w := 1) C dL_law_524 rfl rfl (by decide) rfl ?_
              refine mj_goto (pc' := 488) C dL_law_527 (by decide) ?_
              rw [ej, nI_1]
              refine Sc.widen (k' := 410 + 1000 * c + (t + 1)) (n' := 5100 + 10000 * c + 6 * (t + 1)) (by omega) (by omega) ?_
              exact ih (t + 1) _ (by omega) hR hP hH
            · refine mj_aload_n (pc' := 507) C dL_law_506 rfl rfl ?_
              refine mj_iload (pc' := 509) C dL_law_507 rfl rfl ?_
              refine mj_callVN_1 (ci := 5) (pc' := 512) C (c_X5_haven hst S9 (nI t)) dL_law_509 rfl km_L_26 ki_yX5_haven kz_yX5_haven kn_X5 kc_yX5_haven rfl (by decide) (by decide) ⟨rfl, by decide, by decide, by decide +kernel⟩ ⟨by decide, by decide⟩ (Nat.le_of_ble_eq_true rfl) ⟨by first | decide | (show _ ≤ (600104 : Nat); omega) | (show _ ≤ (7301314 : Nat); omega), by first | decide | (show _ ≤ (600104 : Nat); omega) | (show _ ≤ (7301314 : Nat); omega)⟩ ⟨rfl, hR, hA9.1⟩ (fun r509 μ509 hq509 hm509 => ?_) (fun _ _ h9 => jno_of (oe_haven hA9.1 (by rw [n0]; exact hlt)) h9)
              obtain ⟨rfl, hR509, hF509⟩ := jret_of (oe_haven hA9.1 (by rw [n0]; exact hlt)) hq509
              dsimp only [Option.toList, List.nil_append, List.cons_append]
              have hR := hR509
              have hP := hP.kept hF509
              have hH := hH.kept hF509
              refine mj_iconst (pc' := 513) (v := (-1)) C dL_law_512 rfl rfl ?_
              refine mj_icmp_ne (tgt := 520) (pc' := 516) C dL_law_513 (by decide) rfl (fun h513 => ?_) (fun h513 => ?_)
              · have ej := lost_0 (S := S) (S' := S9) (t := t) (nI (lostHv S S9 (sn S 0))) (fun q => h513 q.2)
                refine mj_iconst (pc' := 521) (v := 0) C dL_law_520 rfl rfl ?_
                refine mj_isub (pc' := 522) C dL_law_521 rfl ?_
                refine mj_istore_33 (pc' := 524) C dL_law_522 rfl (by decide) rfl ?_
                refine mj_iinc_34 (pc' := 527) (w := 1) C dL_law_524 rfl rfl (by decide) rfl ?_
                refine mj_goto (pc' := 488) C dL_law_527 (by decide) ?_
                rw [ej, nI_1]
                refine Sc.widen (k' := 410 + 1000 * c + (t + 1)) (n' := 5100 + 10000 * c + 6 * (t + 1)) (by omega) (by omega) ?_
                exact ih (t + 1) _ (by omega) hR hP hH
              · have ej := lost_1 (S := S) (S' := S9) (t := t) (nI (lostHv S S9 (sn S 0))) ⟨h503, h513⟩
                refine mj_iconst (pc' := 517) (v := 1) C dL_law_516 rfl rfl ?_
                refine mj_goto (pc' := 521) C dL_law_517 (by decide) ?_
                refine mj_isub (pc' := 522) C dL_law_521 rfl ?_
                refine mj_istore_33 (pc' := 524) C dL_law_522 rfl (by decide) rfl ?_
                refine mj_iinc_34 (pc' := 527) (w := 1) C dL_law_524 rfl rfl (by decide) rfl ?_
                refine mj_goto (pc' := 488) C dL_law_527 (by decide) ?_
                rw [ej, nI_1]
                refine Sc.widen (k' := 410 + 1000 * c + (t + 1)) (n' := 5100 + 10000 * c + 6 * (t + 1)) (by omega) (by omega) ?_
                exact ih (t + 1) _ (by omega) hR hP hH
        refine Sc.widen (k' := 410 + 1000 * c + 0) (n' := 5100 + 10000 * c + 6 * 0) (by omega) (by omega) ?_
        rw [show nI (lostHv S S9 (sn S 0)) = nI (lostHv S S9 (sn S 0)) - nI (lostHv S S9 0) from (Int32.sub_zero _).symm]
        exact loop (sn S 0) 0 _ (Nat.zero_add _) hR hP hH

set_option maxHeartbeats 2000000 in
set_option maxRecDepth 20000 in
theorem pk_341 {l : Launch} (hst : l.stackTraces = false) {J : Nat → List (Option jV) → List jV → jM → Nat → Nat → Prop} (C : jCtx l J cL_law 36 RL room_1 (some FieldType.boolean) 3 [] (fun _ _ => True) (fun _ _ => False) 0 0) (Sc : jSc J cL_law) (S : jS) (c : Nat) (v26 v27 : Int32) (wh f fl : Nat) (μ : jM) (hc : c < 40) (hwh : wh < 13) (hf : f < 10) (hfl : 0 < sn S 0 → fl < sn S 0) (hR : xR S μ) (hP : pR S μ) (hH : pH S μ) (hA : sA S) (hI : pI c S) (fin : pFin J c v27) : J 341 [some (aR 61 0), some (aR 0 0), some (aR 22 0), some (aR 23 0), some (aR 24 0), some (aR 25 0), some (aR 21 0), some (aR 27 0), some (aR 28 0), some (aR 29 0), some (aR 30 0), some (aR 31 0), some (aR 32 0), some (aR 33 0), some (aR 34 0), some (aR 35 0), some (aR 36 0), some (aR 37 0), some (aR 38 0), some (aR 39 0), some (aI (nI (sn S 1))), some (aI (nI (sn S 0))), some (aI (sf S 17 2)), some (aI (sf S 17 0)), some (aI (sf S 17 1)), some (aI (nI c)), some (aI v26), some (aI v27), some (aI (nI wh)), some (aI (nI f)), some (aI (nI fl)), some (aI (b1 (canR S f))), none, none, none, none] [] μ (400 + 1000 * c) (5000 + 10000 * c) := by
  have hW := hA.1
  have hW1 := hW.1.2
  have hN := hI.1
  refine mj_iload (pc' := 343) C dL_law_341 rfl rfl ?_
  refine mj_iconst (pc' := 344) (v := 4) C dL_law_343 rfl rfl ?_
  refine mj_icmp_ge (tgt := 442) (pc' := 347) C dL_law_344 (by decide) rfl (fun h344 => ?_) (fun h344 => ?_)
  · exact pk_442 hst C Sc S c v26 v27 wh f fl μ hc hwh hf hfl hR hP hH hA hI fin
  · refine mj_iload (pc' := 349) C dL_law_347 rfl rfl ?_
    refine mj_bipush (pc' := 351) (v := 30) C dL_law_349 rfl rfl ?_
    refine mj_icmp_ge (tgt := 442) (pc' := 354) C dL_law_351 (by decide) rfl (fun h351 => ?_) (fun h351 => ?_)
    · exact pk_442 hst C Sc S c v26 v27 wh f fl μ hc hwh hf hfl hR hP hH hA hI fin
    · have h30 : sn S 1 < 30 := Nat.lt_of_not_le (fun q => h351 (nI_le (a := 30) q (by omega)))
      refine mj_aload_n (pc' := 355) C dL_law_354 rfl rfl ?_
      refine mj_iload (pc' := 357) C dL_law_355 rfl rfl ?_
      refine mj_iload (pc' := 359) C dL_law_357 rfl rfl ?_
      refine mj_iast (pc' := 360) C dL_law_359 rfl rfl (by decide) (by decide) (hP.B.l 1 (by decide) rfl) rfl (by omega) ?_
      refine jgen (J := J) (P := fun μ2 => xR S μ2 ∧ pR S μ2 ∧ mI μ2 22 0 (sn S 1) = nI f) ⟨hR.o (by decide), pR_out (a := 1) hP 22 rfl (by decide) (fun _ => Nat.le_refl _), mI_sI_s _ _ _ _ _⟩ ?_
      clear hR hP
      rintro μ360 ⟨hR, hP, w22⟩
      refine mj_aload_n (pc' := 361) C dL_law_360 rfl rfl ?_
      refine mj_iload (pc' := 363) C dL_law_361 rfl rfl ?_
      refine mj_iload (pc' := 365) C dL_law_363 rfl rfl ?_
      refine mj_iconst (pc' := 366) (v := 1) C dL_law_365 rfl rfl ?_
      refine mj_iadd (pc' := 367) C dL_law_366 rfl ?_
      refine mj_iload (pc' := 369) C dL_law_367 rfl rfl ?_
      refine mj_bipush (pc' := 371) (v := 9) C dL_law_369 rfl rfl ?_
      refine mj_callSN_2 (pc' := 374) C (c_L_low hst v27 9 ⟨by decide, by decide⟩) dL_law_371 rfl km_L_53 ks_yL_low kn_L kc_yL_low ⟨by decide, by decide, by decide +kernel⟩ ⟨by decide, by decide⟩ (Nat.le_of_ble_eq_true rfl) ⟨by first | decide | (show _ ≤ (600104 : Nat); omega) | (show _ ≤ (7301314 : Nat); omega), by first | decide | (show _ ≤ (600104 : Nat); omega) | (show _ ≤ (7301314 : Nat); omega)⟩ rfl (fun r371 μ371 hq371 hm371 => ?_) (fun _ _ h9 => h9)
      obtain ⟨⟨w371, hw371, rfl⟩, hq9⟩ := hq371
      have hq9 := hq9.symm
      subst hq9
      dsimp only [Option.toList, List.nil_append, List.cons_append]
      refine mj_iadd (pc' := 375) C dL_law_374 rfl ?_
      rw [nI_1, nI_add]
      refine mj_bipush (pc' := 377) (v := 10) C dL_law_375 rfl rfl ?_
      refine mj_irem (pc' := 378) C dL_law_377 rfl (by decide) ?_
      rw [show nI (f + 1 + w371) - nI (f + 1 + w371) / 10 * 10 = nI ((f + 1 + w371) % 10) from rem_N (n := 10) (by omega) (by decide) (by decide)]
      refine mj_iast (pc' := 379) C dL_law_378 rfl rfl (by decide) (by decide) (hP.B.l 2 (by decide) rfl) rfl (by omega) ?_
      refine jgen (J := J) (P := fun μ2 => xR S μ2 ∧ pR S μ2 ∧ mI μ2 23 0 (sn S 1) = nI ((f + 1 + w371) % 10) ∧ mI μ2 22 0 (sn S 1) = nI f) ⟨hR.o (by decide), pR_out (a := 2) hP 23 rfl (by decide) (fun _ => Nat.le_refl _), mI_sI_s _ _ _ _ _, (mI_sI_n _ _ _ _ _ (fun q => by omega)).trans w22⟩ ?_
      clear hR hP
      rintro μ379 ⟨hR, hP, w23, w22⟩
      refine mj_aload (pc' := 381) C dL_law_379 rfl rfl ?_
      refine mj_iload (pc' := 383) C dL_law_381 rfl rfl ?_
      refine mj_iload (pc' := 385) C dL_law_383 rfl rfl ?_
      refine mj_iconst (pc' := 386) (v := 4) C dL_law_385 rfl rfl ?_
      refine mj_ishr (pc' := 387) C dL_law_386 rfl ?_
      refine mj_sipush (pc' := 390) (v := 501) C dL_law_387 rfl rfl ?_
      refine mj_callSN_2 (pc' := 393) C (c_L_low hst (v27 >>> (4 &&& 31)) 501 ⟨by decide, by decide⟩) dL_law_390 rfl km_L_53 ks_yL_low kn_L kc_yL_low ⟨by decide, by decide, by decide +kernel⟩ ⟨by decide, by decide⟩ (Nat.le_of_ble_eq_true rfl) ⟨by first | decide | (show _ ≤ (600104 : Nat); omega) | (show _ ≤ (7301314 : Nat); omega), by first | decide | (show _ ≤ (600104 : Nat); omega) | (show _ ≤ (7301314 : Nat); omega)⟩ rfl (fun r390 μ390 hq390 hm390 => ?_) (fun _ _ h9 => h9)
      obtain ⟨⟨w390, hw390, rfl⟩, hq9⟩ := hq390
      have hq9 := hq9.symm
      subst hq9
      dsimp only [Option.toList, List.nil_append, List.cons_append]
      refine mj_iast (pc' := 394) C dL_law_393 rfl rfl (by decide) (by decide) (hP.B.l 3 (by decide) rfl) rfl (by omega) ?_
      refine jgen (J := J) (P := fun μ2 => xR S μ2 ∧ pR S μ2 ∧ mI μ2 24 0 (sn S 1) = nI w390 ∧ mI μ2 23 0 (sn S 1) = nI ((f + 1 + w371) % 10) ∧ mI μ2 22 0 (sn S 1) = nI f) ⟨hR.o (by decide), pR_out (a := 3) hP 24 rfl (by decide) (fun _ => Nat.le_refl _), mI_sI_s _ _ _ _ _, (mI_sI_n _ _ _ _ _ (fun q => by omega)).trans w23, (mI_sI_n _ _ _ _ _ (fun q => by omega)).trans w22⟩ ?_
      clear hR hP
      rintro μ394 ⟨hR, hP, w24, w23, w22⟩
      refine mj_aload (pc' := 396) C dL_law_394 rfl rfl ?_
      refine mj_iload (pc' := 398) C dL_law_396 rfl rfl ?_
      refine mj_iload (pc' := 400) C dL_law_398 rfl rfl ?_
      refine mj_bipush (pc' := 402) (v := 13) C dL_law_400 rfl rfl ?_
      refine mj_ishr (pc' := 403) C dL_law_402 rfl ?_
      refine mj_bipush (pc' := 405) (v := 101) C dL_law_403 rfl rfl ?_
      refine mj_callSN_2 (pc' := 408) C (c_L_low hst (v27 >>> (13 &&& 31)) 101 ⟨by decide, by decide⟩) dL_law_405 rfl km_L_53 ks_yL_low kn_L kc_yL_low ⟨by decide, by decide, by decide +kernel⟩ ⟨by decide, by decide⟩ (Nat.le_of_ble_eq_true rfl) ⟨by first | decide | (show _ ≤ (600104 : Nat); omega) | (show _ ≤ (7301314 : Nat); omega), by first | decide | (show _ ≤ (600104 : Nat); omega) | (show _ ≤ (7301314 : Nat); omega)⟩ rfl (fun r405 μ405 hq405 hm405 => ?_) (fun _ _ h9 => h9)
      obtain ⟨⟨w405, hw405, rfl⟩, hq9⟩ := hq405
      have hq9 := hq9.symm
      subst hq9
      dsimp only [Option.toList, List.nil_append, List.cons_append]
      refine mj_iast (pc' := 409) C dL_law_408 rfl rfl (by decide) (by decide) (hP.B.l 4 (by decide) rfl) rfl (by omega) ?_
      refine jgen (J := J) (P := fun μ2 => xR S μ2 ∧ pR S μ2 ∧ mI μ2 25 0 (sn S 1) = nI w405 ∧ mI μ2 24 0 (sn S 1) = nI w390 ∧ mI μ2 23 0 (sn S 1) = nI ((f + 1 + w371) % 10) ∧ mI μ2 22 0 (sn S 1) = nI f) ⟨hR.o (by decide), pR_out (a := 4) hP 25 rfl (by decide) (fun _ => Nat.le_refl _), mI_sI_s _ _ _ _ _, (mI_sI_n _ _ _ _ _ (fun q => by omega)).trans w24, (mI_sI_n _ _ _ _ _ (fun q => by omega)).trans w23, (mI_sI_n _ _ _ _ _ (fun q => by omega)).trans w22⟩ ?_
      clear hR hP
      rintro μ409 ⟨hR, hP, w25, w24, w23, w22⟩
      have eo := oe_conv (S := S) (f := f) (t := (f + 1 + w371) % 10) (lo := w390) (co := w405) hf (Nat.mod_lt _ (by decide)) (by omega) (by omega) (by omega) h30
      have hP := pR_conv hP w22 w23 w24 w25
      have hA9 := A_converter hA (nI f) (nI ((f + 1 + w371) % 10)) (nI w390) (nI w405)
      rw [eo] at hA9
      dsimp only at hA9
      refine mj_aload_n (pc' := 410) C dL_law_409 rfl rfl ?_
      refine mj_iload (pc' := 412) C dL_law_410 rfl rfl ?_
      refine mj_aload_n (pc' := 413) C dL_law_412 rfl rfl ?_
      refine mj_iload (pc' := 415) C dL_law_413 rfl rfl ?_
      refine mj_ialdV (pc' := 416) C dL_law_415 rfl rfl (by decide) (by decide) (hP.B.l 2 (by decide) rfl) rfl (by omega) w23 ?_
      refine mj_aload (pc' := 418) C dL_law_416 rfl rfl ?_
      refine mj_iload (pc' := 420) C dL_law_418 rfl rfl ?_
      refine mj_ialdV (pc' := 421) C dL_law_420 rfl rfl (by decide) (by decide) (hP.B.l 3 (by decide) rfl) rfl (by omega) w24 ?_
      refine mj_aload (pc' := 423) C dL_law_421 rfl rfl ?_
      refine mj_iload (pc' := 425) C dL_law_423 rfl rfl ?_
      refine mj_ialdV (pc' := 426) C dL_law_425 rfl rfl (by decide) (by decide) (hP.B.l 4 (by decide) rfl) rfl (by omega) w25 ?_
      refine mj_callVN_4 (ci := 5) (pc' := 429) C (c_X5_converter hst S (nI f) (nI ((f + 1 + w371) % 10)) (nI w390) (nI w405)) dL_law_426 rfl km_L_56 ki_yX5_converter kz_yX5_converter kn_X5 kc_yX5_converter rfl (by decide) (by decide) ⟨rfl, by decide, by decide, by decide +kernel⟩ ⟨by decide, by decide⟩ (Nat.le_of_ble_eq_true rfl) ⟨by first | decide | (show _ ≤ (600104 : Nat); omega) | (show _ ≤ (7301314 : Nat); omega), by first | decide | (show _ ≤ (600104 : Nat); omega) | (show _ ≤ (7301314 : Nat); omega)⟩ ⟨rfl, hR, hW⟩ (fun r426 μ426 hq426 hm426 => ?_) (fun _ _ h9 => jno_of (eo) h9)
      obtain ⟨rfl, hR426, hF426⟩ := jret_of (eo) hq426
      dsimp only [Option.toList, List.nil_append, List.cons_append]
      have hR := hR426
      have hP := hP.kept hF426
      refine mj_iload (pc' := 431) C dL_law_429 rfl rfl ?_
      refine mj_icmp_eq (tgt := 436) (pc' := 434) C dL_law_431 (by decide) rfl (fun _ => ?_) (fun h9 => absurd rfl h9)
      refine mj_iinc_20 (pc' := 439) (w := 1) C dL_law_436 rfl rfl (by decide) rfl ?_
      refine mj_goto (pc' := 1337) C dL_law_439 (by decide) ?_
      generalize eS : (sa (su (su (su (su (su S 1 (sn S 1) (nI f)) 2 (sn S 1) (nI ((f + 1 + w371) % 10))) 3 (sn S 1) (nI w390)) 4 (sn S 1) (nI w405)) 5 (sn S 1) 0) 1) = S9 at hR hP hA9 eo
      have n0 : sn S9 0 = sn S 0 := by rw [← eS]; rfl
      have n1 : sn S9 1 = sn S 1 + 1 := by rw [← eS]; rfl
      have f17 : ∀ x, sf S9 17 x = sf S 17 x := fun x => by rw [← eS]; simp [sf_sa, sf_su]
      exact fin.use Sc S9 (by rw [n1, nI_1]) (by rw [n0]) (f17 2).symm (f17 0).symm (f17 1).symm hR hP hA9 (hI.to (by rw [n0]; exact hN) f17) (by omega) (by omega)
