/-! THE LAW: BEHIND AN ACT -/
set_option maxHeartbeats 2000000 in
set_option maxRecDepth 20000 in
theorem law_tail {l : Launch} (hst : l.stackTraces = false) {J : Nat → List (Option jV) → List jV → jM → Nat → Nat → Prop} (C : jCtx l J cL_law 36 RL room_1 (some FieldType.boolean) 3 [] (fun _ _ => True) (fun _ _ => False) 0 0) (Sc : jSc J cL_law) (c : Nat) (hc : c < 40) (v27 : Int32) (next : ∀ (S : jS) (μ : jM), xR S μ → pR S μ → sA S → pI (c + 1) S → J 183 [some (aR 61 0), some (aR 0 0), some (aR 22 0), some (aR 23 0), some (aR 24 0), some (aR 25 0), some (aR 21 0), some (aR 27 0), some (aR 28 0), some (aR 29 0), some (aR 30 0), some (aR 31 0), some (aR 32 0), some (aR 33 0), some (aR 34 0), some (aR 35 0), some (aR 36 0), some (aR 37 0), some (aR 38 0), some (aR 39 0), some (aI (nI (sn S 1))), some (aI (nI (sn S 0))), some (aI (sf S 17 2)), some (aI (sf S 17 0)), some (aI (sf S 17 1)), some (aI (nI (c + 1))), none, none, none, none, none, none, none, none, none, none] [] μ (300 + 1000 * (c + 1)) (4000 + 10000 * (c + 1))) : pFin J c v27 := by
  intro S μ k n hR hP hA hI hk hn
  refine Sc.widen (k' := 600 + 1000 * c) (n' := 8000 + 10000 * c) hk hn ?_
  have hW := hA.1
  have hW1 := hW.1.2
  have hN := hI.1
  refine mj_iconst (pc' := 1338) (v := 0) C dL_law_1337 rfl rfl ?_
  refine mj_istore_32 (pc' := 1340) C dL_law_1338 rfl (by decide) rfl ?_
  refine mj_iconst (pc' := 1341) (v := 0) C dL_law_1340 rfl rfl ?_
  refine mj_istore_33 (pc' := 1343) C dL_law_1341 rfl (by decide) rfl ?_
  have loop : ∀ (d : Nat) (t : Nat) (μ1 : jM), t + d = sn S 0 → xR S μ1 → pR S μ1 → J 1343 [some (aR 61 0), some (aR 0 0), some (aR 22 0), some (aR 23 0), some (aR 24 0), some (aR 25 0), some (aR 21 0), some (aR 27 0), some (aR 28 0), some (aR 29 0), some (aR 30 0), some (aR 31 0), some (aR 32 0), some (aR 33 0), some (aR 34 0), some (aR 35 0), some (aR 36 0), some (aR 37 0), some (aR 38 0), some (aR 39 0), some (aI (nI (sn S 1))), some (aI (nI (sn S 0))), some (aI (sf S 17 2)), some (aI (sf S 17 0)), some (aI (sf S 17 1)), some (aI (nI c)), none, some (aI v27), none, none, none, none, some (aI (nI (odue S t))), some (aI (nI t)), none, none] [] μ1 (600 + 1000 * c + 11 * t) (8000 + 10000 * c + 66 * t) := by
    intro d
    induction d with
    | zero =>
      intro t μ1 hd hR hP
      obtain rfl : t = sn S 0 := by omega
      refine mj_iload (pc' := 1345) C dL_law_1343 rfl rfl ?_
      refine mj_iload (pc' := 1347) C dL_law_1345 rfl rfl ?_
      refine mj_icmp_ge (tgt := 1451) (pc' := 1350) C dL_law_1347 (by decide) rfl (fun _ => ?_) (fun h9 => absurd (Int32.le_refl _) h9)
      refine mj_aload_n (pc' := 1452) C dL_law_1451 rfl rfl ?_
      refine mj_callVN_0 (ci := 5) (pc' := 1455) C (c_X5_overdue hst S) dL_law_1452 rfl km_L_94 ki_yX5_overdue kz_yX5_overdue kn_X5 kc_yX5_overdue rfl (by decide) (by decide) ⟨rfl, by decide, by decide, by decide +kernel⟩ ⟨by decide, by decide⟩ (Nat.le_of_ble_eq_true rfl) ⟨by first | decide | (show _ ≤ (600104 : Nat); omega) | (show _ ≤ (7301314 : Nat); omega), by first | decide | (show _ ≤ (600104 : Nat); omega) | (show _ ≤ (7301314 : Nat); omega)⟩ ⟨rfl, hR, hW⟩ (fun r1452 μ1452 hq1452 hm1452 => ?_) (fun _ _ h9 => h9)
      obtain ⟨rfl, hq9⟩ := hq1452
      have hq9 := hq9.symm
      subst hq9
      dsimp only [Option.toList, List.nil_append, List.cons_append]
      refine mj_iload (pc' := 1457) C dL_law_1455 rfl rfl ?_
      refine mj_icmp_ne (tgt := 1478) (pc' := 1460) C dL_law_1457 (by decide) rfl (fun h9 => absurd rfl h9) (fun _ => ?_)
      refine mj_aload_n (pc' := 1461) C dL_law_1460 rfl rfl ?_
      refine mj_callVN_0 (ci := 5) (pc' := 1464) C (c_X5_left hst S) dL_law_1461 rfl km_L_97 ki_yX5_left kz_yX5_left kn_X5 kc_yX5_left rfl (by decide) (by decide) ⟨rfl, by decide, by decide, by decide +kernel⟩ ⟨by decide, by decide⟩ (Nat.le_of_ble_eq_true rfl) ⟨by first | decide | (show _ ≤ (600104 : Nat); omega) | (show _ ≤ (7301314 : Nat); omega), by first | decide | (show _ ≤ (600104 : Nat); omega) | (show _ ≤ (7301314 : Nat); omega)⟩ ⟨rfl, hR, hW⟩ (fun r1461 μ1461 hq1461 hm1461 => ?_) (fun _ _ h9 => h9)
      obtain ⟨rfl, hq9⟩ := hq1461
      have hq9 := hq9.symm
      subst hq9
      dsimp only [Option.toList, List.nil_append, List.cons_append]
      refine mj_iload (pc' := 1466) C dL_law_1464 rfl rfl ?_
      refine mj_icmp_ne (tgt := 1478) (pc' := 1469) C dL_law_1466 (by decide) rfl (fun h9 => absurd rfl h9) (fun _ => ?_)
      refine mj_aload_n (pc' := 1470) C dL_law_1469 rfl rfl ?_
      refine mj_callVN_0 (ci := 5) (pc' := 1473) C (c_X5_year hst S) dL_law_1470 rfl km_L_100 ki_yX5_year kz_yX5_year kn_X5 kc_yX5_year rfl (by decide) (by decide) ⟨rfl, by decide, by decide, by decide +kernel⟩ ⟨by decide, by decide⟩ (Nat.le_of_ble_eq_true rfl) ⟨by first | decide | (show _ ≤ (600104 : Nat); omega) | (show _ ≤ (7301314 : Nat); omega), by first | decide | (show _ ≤ (600104 : Nat); omega) | (show _ ≤ (7301314 : Nat); omega)⟩ ⟨rfl, hR, hW⟩ (fun r1470 μ1470 hq1470 hm1470 => ?_) (fun _ _ h9 => h9)
      obtain ⟨rfl, hq9⟩ := hq1470
      have hq9 := hq9.symm
      subst hq9
      dsimp only [Option.toList, List.nil_append, List.cons_append]
      refine mj_iload (pc' := 1475) C dL_law_1473 rfl rfl ?_
      refine mj_icmp_eq (tgt := 1480) (pc' := 1478) C dL_law_1475 (by decide) rfl (fun _ => ?_) (fun h9 => absurd rfl h9)
      refine mj_aload_n (pc' := 1481) C dL_law_1480 rfl rfl ?_
      refine mj_iload (pc' := 1483) C dL_law_1481 rfl rfl ?_
      refine mj_iconst (pc' := 1484) (v := 2) C dL_law_1483 rfl rfl ?_
      refine mj_ishr (pc' := 1485) C dL_law_1484 rfl ?_
      refine mj_bipush (pc' := 1487) (v := 10) C dL_law_1485 rfl rfl ?_
      refine mj_callSN_2 (pc' := 1490) C (c_L_low hst (v27 >>> (2 &&& 31)) 10 ⟨by decide, by decide⟩) dL_law_1487 rfl km_L_53 ks_yL_low kn_L kc_yL_low ⟨by decide, by decide, by decide +kernel⟩ ⟨by decide, by decide⟩ (Nat.le_of_ble_eq_true rfl) ⟨by first | decide | (show _ ≤ (600104 : Nat); omega) | (show _ ≤ (7301314 : Nat); omega), by first | decide | (show _ ≤ (600104 : Nat); omega) | (show _ ≤ (7301314 : Nat); omega)⟩ rfl (fun r1487 μ1487 hq1487 hm1487 => ?_) (fun _ _ h9 => h9)
      obtain ⟨⟨w1487, hw1487, rfl⟩, hq9⟩ := hq1487
      have hq9 := hq9.symm
      subst hq9
      dsimp only [Option.toList, List.nil_append, List.cons_append]
      refine mj_iload (pc' := 1492) C dL_law_1490 rfl rfl ?_
      refine mj_bipush (pc' := 1494) (v := 6) C dL_law_1492 rfl rfl ?_
      refine mj_ishr (pc' := 1495) C dL_law_1494 rfl ?_
      refine mj_bipush (pc' := 1497) (v := 10) C dL_law_1495 rfl rfl ?_
      refine mj_callSN_2 (pc' := 1500) C (c_L_low hst (v27 >>> (6 &&& 31)) 10 ⟨by decide, by decide⟩) dL_law_1497 rfl km_L_53 ks_yL_low kn_L kc_yL_low ⟨by decide, by decide, by decide +kernel⟩ ⟨by decide, by decide⟩ (Nat.le_of_ble_eq_true rfl) ⟨by first | decide | (show _ ≤ (600104 : Nat); omega) | (show _ ≤ (7301314 : Nat); omega), by first | decide | (show _ ≤ (600104 : Nat); omega) | (show _ ≤ (7301314 : Nat); omega)⟩ rfl (fun r1497 μ1497 hq1497 hm1497 => ?_) (fun _ _ h9 => h9)
      obtain ⟨⟨w1497, hw1497, rfl⟩, hq9⟩ := hq1497
      have hq9 := hq9.symm
      subst hq9
      dsimp only [Option.toList, List.nil_append, List.cons_append]
      refine mj_aload_n (pc' := 1501) C dL_law_1500 rfl rfl ?_
      refine mj_aload_n (pc' := 1502) C dL_law_1501 rfl rfl ?_
      refine mj_aload (pc' := 1504) C dL_law_1502 rfl rfl ?_
      refine mj_aload (pc' := 1506) C dL_law_1504 rfl rfl ?_
      refine mj_iload (pc' := 1508) C dL_law_1506 rfl rfl ?_
      refine mj_callSN_8 (pc' := 1511) C (c_L_isWay hst S w1487 w1497) dL_law_1508 rfl km_L_103 ks_yL_isWay kn_L kc_yL_isWay ⟨by decide, by decide, by decide +kernel⟩ ⟨by decide, by decide⟩ (Nat.le_of_ble_eq_true rfl) ⟨by first | decide | (show _ ≤ (600104 : Nat); omega) | (show _ ≤ (7301314 : Nat); omega), by first | decide | (show _ ≤ (600104 : Nat); omega) | (show _ ≤ (7301314 : Nat); omega)⟩ ⟨rfl, hR, hW, hP, hw1487, hw1497⟩ (fun r1508 μ1508 hq1508 hm1508 => ?_) (fun _ _ h9 => h9)
      obtain ⟨rfl, hR1508, hF1508⟩ := hq1508
      dsimp only [Option.toList, List.nil_append, List.cons_append]
      have hR := hR1508
      have hP := hP.kept hF1508
      refine mj_if_ne (tgt := 1516) (pc' := 1514) C dL_law_1511 (by decide) rfl (fun _ => ?_) (fun h9 => absurd h9 (by decide))
      refine mj_iinc_25 (pc' := 1519) (w := 1) C dL_law_1516 rfl rfl (by decide) rfl ?_
      refine mj_goto (pc' := 183) C dL_law_1519 (by decide) ?_
      rw [nI_1]
      refine Sc.widen (k' := 300 + 1000 * (c + 1)) (n' := 4000 + 10000 * (c + 1)) (by omega) (by omega) ?_
      exact Sc.mask [true, true, true, true, true, true, true, true, true, true, true, true, true, true, true, true, true, true, true, true, true, true, true, true, true, true, false, false, false, false, false, false, false, false, false, false] (next S _ hR hP hA hI)
    | succ d ih =>
      intro t μ1 hd hR hP
      have hlt : t < sn S 0 := by omega
      obtain ⟨hg, eg⟩ := fF_of hW hlt
      obtain ⟨hl5, el⟩ := fL_of hW hlt
      refine mj_iload (pc' := 1345) C dL_law_1343 rfl rfl ?_
      refine mj_iload (pc' := 1347) C dL_law_1345 rfl rfl ?_
      refine mj_icmp_ge (tgt := 1451) (pc' := 1350) C dL_law_1347 (by decide) rfl (fun h9 => absurd h9 (nI_ge hlt (by omega))) (fun _ => ?_)
      refine mj_iload (pc' := 1352) C dL_law_1350 rfl rfl ?_
      refine mj_aload (pc' := 1354) C dL_law_1352 rfl rfl ?_
      refine mj_iload (pc' := 1356) C dL_law_1354 rfl rfl ?_
      refine mj_ialdV (pc' := 1357) C dL_law_1356 rfl rfl (by decide) (by decide) (hP.B.l 15 (by decide) rfl) rfl (by omega) (hP.sta (by first | assumption | omega)) ?_
      refine jn (tgt := 1384) (v := aI (b1 (sf S 15 t = 0 ∧ sf S 14 t + sf S 8 (fL S t) < sf S 17 2))) (st := [aI (nI (odue S t))]) (fun K1357 => ?_) ?_
      · refine mj_if_ne (tgt := 1383) (pc' := 1360) C dL_law_1357 (by decide) rfl (fun h1357 => ?_) (fun h1357 => ?_)
        · have ej : b1 (sf S 15 t = 0 ∧ sf S 14 t + sf S 8 (fL S t) < sf S 17 2) = 0 := b1_f (fun q => h1357 q.1)
          refine mj_iconst (pc' := 1384) (v := 0) C dL_law_1383 rfl rfl ?_
          rw [ej] at K1357
          exact K1357
        · refine mj_iload (pc' := 1362) C dL_law_1360 rfl rfl ?_
          refine mj_aload (pc' := 1364) C dL_law_1362 rfl rfl ?_
          refine mj_iload (pc' := 1366) C dL_law_1364 rfl rfl ?_
          refine mj_ialdV (pc' := 1367) C dL_law_1366 rfl rfl (by decide) (by decide) (hP.B.l 14 (by decide) rfl) rfl (by omega) (hP.rin (by first | assumption | omega)) ?_
          refine mj_aload (pc' := 1369) C dL_law_1367 rfl rfl ?_
          refine mj_aload (pc' := 1371) C dL_law_1369 rfl rfl ?_
          refine mj_iload (pc' := 1373) C dL_law_1371 rfl rfl ?_
          refine mj_ialdV (pc' := 1374) C dL_law_1373 rfl rfl (by decide) (by decide) (hP.B.l 11 (by decide) rfl) rfl (by omega) (hP.lwo (by first | assumption | omega)) ?_
          refine mj_ialdV (pc' := 1375) C dL_law_1374 rfl rfl (by decide) (by decide) (hP.B.l 8 (by decide) rfl) el hl5 (hP.rds hl5) ?_
          refine mj_iadd (pc' := 1376) C dL_law_1375 rfl ?_
          refine mj_icmp_le (tgt := 1383) (pc' := 1379) C dL_law_1376 (by decide) rfl (fun h1376 => ?_) (fun h1376 => ?_)
          · have ej : b1 (sf S 15 t = 0 ∧ sf S 14 t + sf S 8 (fL S t) < sf S 17 2) = 0 := b1_f (fun q => absurd q.2 (Int32.not_lt.mpr h1376))
            refine mj_iconst (pc' := 1384) (v := 0) C dL_law_1383 rfl rfl ?_
            rw [ej] at K1357
            exact K1357
          · have ej : b1 (sf S 15 t = 0 ∧ sf S 14 t + sf S 8 (fL S t) < sf S 17 2) = 1 := b1_t ⟨h1357, Int32.not_le.mp h1376⟩
            refine mj_iconst (pc' := 1380) (v := 1) C dL_law_1379 rfl rfl ?_
            refine mj_goto (pc' := 1384) C dL_law_1380 (by decide) ?_
            rw [ej] at K1357
            exact K1357
      refine mj_iadd (pc' := 1385) C dL_law_1384 rfl ?_
      rw [show nI (odue S t) + b1 (sf S 15 t = 0 ∧ sf S 14 t + sf S 8 (fL S t) < sf S 17 2) = nI (odue S (t + 1)) from b1_nI _]
      refine mj_istore_32 (pc' := 1387) C dL_law_1385 rfl (by decide) rfl ?_
      refine mj_aload_n (pc' := 1388) C dL_law_1387 rfl rfl ?_
      refine mj_iload (pc' := 1390) C dL_law_1388 rfl rfl ?_
      refine mj_aload (pc' := 1392) C dL_law_1390 rfl rfl ?_
      refine mj_iload (pc' := 1394) C dL_law_1392 rfl rfl ?_
      refine mj_ialdV (pc' := 1395) C dL_law_1394 rfl rfl (by decide) (by decide) (hP.B.l 15 (by decide) rfl) rfl (by omega) (hP.sta (by first | assumption | omega)) ?_
      refine mj_aload (pc' := 1397) C dL_law_1395 rfl rfl ?_
      refine mj_iload (pc' := 1399) C dL_law_1397 rfl rfl ?_
      refine mj_ialdV (pc' := 1400) C dL_law_1399 rfl rfl (by decide) (by decide) (hP.B.l 9 (by decide) rfl) rfl (by omega) (hP.fmt (by first | assumption | omega)) ?_
      refine mj_aload (pc' := 1402) C dL_law_1400 rfl rfl ?_
      refine mj_iload (pc' := 1404) C dL_law_1402 rfl rfl ?_
      refine mj_ialdV (pc' := 1405) C dL_law_1404 rfl rfl (by decide) (by decide) (hP.B.l 12 (by decide) rfl) rfl (by omega) rfl ?_
      refine mj_aload (pc' := 1407) C dL_law_1405 rfl rfl ?_
      refine mj_aload (pc' := 1409) C dL_law_1407 rfl rfl ?_
      refine mj_iload (pc' := 1411) C dL_law_1409 rfl rfl ?_
      refine mj_ialdV (pc' := 1412) C dL_law_1411 rfl rfl (by decide) (by decide) (hP.B.l 11 (by decide) rfl) rfl (by omega) (hP.lwo (by first | assumption | omega)) ?_
      refine mj_ialdV (pc' := 1413) C dL_law_1412 rfl rfl (by decide) (by decide) (hP.B.l 7 (by decide) rfl) el hl5 (hP.lea hl5) ?_
      refine mj_aload (pc' := 1415) C dL_law_1413 rfl rfl ?_
      refine mj_iload (pc' := 1417) C dL_law_1415 rfl rfl ?_
      refine mj_ialdV (pc' := 1418) C dL_law_1417 rfl rfl (by decide) (by decide) (hP.B.l 13 (by decide) rfl) rfl (by omega) (hP.enn (by first | assumption | omega)) ?_
      refine mj_aload (pc' := 1420) C dL_law_1418 rfl rfl ?_
      refine mj_aload (pc' := 1422) C dL_law_1420 rfl rfl ?_
      refine mj_iload (pc' := 1424) C dL_law_1422 rfl rfl ?_
      refine mj_ialdV (pc' := 1425) C dL_law_1424 rfl rfl (by decide) (by decide) (hP.B.l 9 (by decide) rfl) rfl (by omega) (hP.fmt (by first | assumption | omega)) ?_
      refine mj_ialdV (pc' := 1426) C dL_law_1425 rfl rfl (by decide) (by decide) (hP.B.l 0 (by decide) rfl) eg hg (hP.last hg) ?_
      refine mj_callSN_8 (pc' := 1429) C (c_L_isFile hst S t (mI μ1 33 0 t)) dL_law_1426 rfl km_L_90 ks_yL_isFile kn_L kc_yL_isFile ⟨by decide, by decide, by decide +kernel⟩ ⟨by decide, by decide⟩ (Nat.le_of_ble_eq_true rfl) ⟨by first | decide | (show _ ≤ (600104 : Nat); omega) | (show _ ≤ (7301314 : Nat); omega), by first | decide | (show _ ≤ (600104 : Nat); omega) | (show _ ≤ (7301314 : Nat); omega)⟩ ⟨rfl, hR, hW, hlt, hP.mos hlt⟩ (fun r1426 μ1426 hq1426 hm1426 => ?_) (fun _ _ h9 => h9)
      obtain ⟨rfl, hR1426, hF1426⟩ := hq1426
      dsimp only [Option.toList, List.nil_append, List.cons_append]
      have hR := hR1426
      have hP := hP.kept hF1426
      refine mj_if_ne (tgt := 1434) (pc' := 1432) C dL_law_1429 (by decide) rfl (fun _ => ?_) (fun h9 => absurd h9 (by decide))
      refine mj_aload (pc' := 1436) C dL_law_1434 rfl rfl ?_
      refine mj_iload (pc' := 1438) C dL_law_1436 rfl rfl ?_
      refine mj_aload_n (pc' := 1439) C dL_law_1438 rfl rfl ?_
      refine mj_iload (pc' := 1441) C dL_law_1439 rfl rfl ?_
      refine mj_callVN_1 (ci := 5) (pc' := 1444) C (c_X5_qualityOf hst S (nI t)) dL_law_1441 rfl km_L_43 ki_yX5_qualityOf kz_yX5_qualityOf kn_X5 kc_yX5_qualityOf rfl (by decide) (by decide) ⟨rfl, by decide, by decide, by decide +kernel⟩ ⟨by decide, by decide⟩ (Nat.le_of_ble_eq_true rfl) ⟨by first | decide | (show _ ≤ (600104 : Nat); omega) | (show _ ≤ (7301314 : Nat); omega), by first | decide | (show _ ≤ (600104 : Nat); omega) | (show _ ≤ (7301314 : Nat); omega)⟩ ⟨rfl, hR, hW⟩ (fun r1441 μ1441 hq1441 hm1441 => ?_) (fun _ _ h9 => jno_of (oe_get 12 hW hlt) h9)
      obtain ⟨rfl, hR1441, hF1441⟩ := jret_of (oe_get 12 hW hlt) hq1441
      dsimp only [Option.toList, List.nil_append, List.cons_append]
      have hR := hR1441
      have hP := hP.kept hF1441
      refine mj_iast (pc' := 1445) C dL_law_1444 rfl rfl (by decide) (by decide) (hP.B.l 12 (by decide) rfl) rfl (by omega) ?_
      refine jgen (J := J) (P := fun μ2 => xR S μ2 ∧ pR S μ2) ⟨hR.o (by decide), pR_m hP (Int32.le_refl _)⟩ ?_
      clear hR hP
      rintro μ1445 ⟨hR, hP⟩
      refine mj_iinc_33 (pc' := 1448) (w := 1) C dL_law_1445 rfl rfl (by decide) rfl ?_
      refine mj_goto (pc' := 1343) C dL_law_1448 (by decide) ?_
      rw [nI_1]
      refine Sc.widen (k' := 600 + 1000 * c + 11 * (t + 1)) (n' := 8000 + 10000 * c + 66 * (t + 1)) (by omega) (by omega) ?_
      exact ih (t + 1) _ (by omega) hR hP
  refine Sc.widen (k' := 600 + 1000 * c + 11 * 0) (n' := 8000 + 10000 * c + 66 * 0) (by omega) (by omega) ?_
  exact loop (sn S 0) 0 _ (Nat.zero_add _) hR hP
