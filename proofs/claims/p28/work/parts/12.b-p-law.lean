/-! THE LAW: A LAW, THE BUDGET -/
set_option maxHeartbeats 2000000 in
set_option maxRecDepth 20000 in
theorem pk_1222 {l : Launch} (hst : l.stackTraces = false) {J : Nat → List (Option jV) → List jV → jM → Nat → Nat → Prop} (C : jCtx l J cL_law 36 RL room_1 (some FieldType.boolean) 3 [] (fun _ _ => True) (fun _ _ => False) 0 0) (Sc : jSc J cL_law) (S : jS) (c : Nat) (v26 v27 : Int32) (wh f fl : Nat) (μ : jM) (hc : c < 40) (hwh : wh < 13) (hf : f < 10) (hfl : 0 < sn S 0 → fl < sn S 0) (hR : xR S μ) (hP : pR S μ) (hH : pH S μ) (hA : sA S) (hI : pI c S) (fin : pFin J c v27) : J 1222 [some (aR 61 0), some (aR 0 0), some (aR 22 0), some (aR 23 0), some (aR 24 0), some (aR 25 0), some (aR 21 0), some (aR 27 0), some (aR 28 0), some (aR 29 0), some (aR 30 0), some (aR 31 0), some (aR 32 0), some (aR 33 0), some (aR 34 0), some (aR 35 0), some (aR 36 0), some (aR 37 0), some (aR 38 0), some (aR 39 0), some (aI (nI (sn S 1))), some (aI (nI (sn S 0))), some (aI (sf S 17 2)), some (aI (sf S 17 0)), some (aI (sf S 17 1)), some (aI (nI c)), some (aI v26), some (aI v27), some (aI (nI wh)), some (aI (nI f)), some (aI (nI fl)), some (aI (b1 (canR S f))), none, none, none, none] [] μ (400 + 1000 * c) (5000 + 10000 * c) := by
  have hW := hA.1
  have hW1 := hW.1.2
  have hN := hI.1
  refine mj_iload (pc' := 1224) C dL_law_1222 rfl rfl ?_
  refine mj_bipush (pc' := 1226) (v := 12) C dL_law_1224 rfl rfl ?_
  refine mj_icmp_ne (tgt := 1337) (pc' := 1229) C dL_law_1226 (by decide) rfl (fun h1226 => ?_) (fun h1226 => ?_)
  · exact fin.use Sc S rfl rfl rfl rfl rfl hR hP hA hI.up (by omega) (by omega)
  · refine mj_iload (pc' := 1231) C dL_law_1229 rfl rfl ?_
    refine mj_iconst (pc' := 1232) (v := 5) C dL_law_1231 rfl rfl ?_
    refine mj_callSN_2 (pc' := 1235) C (c_L_low hst v27 5 ⟨by decide, by decide⟩) dL_law_1232 rfl km_L_53 ks_yL_low kn_L kc_yL_low ⟨by decide, by decide, by decide +kernel⟩ ⟨by decide, by decide⟩ (Nat.le_of_ble_eq_true rfl) ⟨by first | decide | (show _ ≤ (600104 : Nat); omega) | (show _ ≤ (7301314 : Nat); omega), by first | decide | (show _ ≤ (600104 : Nat); omega) | (show _ ≤ (7301314 : Nat); omega)⟩ rfl (fun r1232 μ1232 hq1232 hm1232 => ?_) (fun _ _ h9 => h9)
    obtain ⟨⟨w1232, hw1232, rfl⟩, hq9⟩ := hq1232
    have hq9 := hq9.symm
    subst hq9
    dsimp only [Option.toList, List.nil_append, List.cons_append]
    refine mj_istore_32 (pc' := 1237) C dL_law_1235 rfl (by decide) rfl ?_
    refine mj_aload (pc' := 1239) C dL_law_1237 rfl rfl ?_
    refine mj_iload (pc' := 1241) C dL_law_1239 rfl rfl ?_
    refine mj_iconst (pc' := 1242) (v := 1) C dL_law_1241 rfl rfl ?_
    refine mj_iload (pc' := 1244) C dL_law_1242 rfl rfl ?_
    refine mj_iconst (pc' := 1245) (v := 3) C dL_law_1244 rfl rfl ?_
    refine mj_ishr (pc' := 1246) C dL_law_1245 rfl ?_
    refine mj_bipush (pc' := 1248) (v := 20) C dL_law_1246 rfl rfl ?_
    refine mj_callSN_2 (pc' := 1251) C (c_L_low hst (v27 >>> (3 &&& 31)) 20 ⟨by decide, by decide⟩) dL_law_1248 rfl km_L_53 ks_yL_low kn_L kc_yL_low ⟨by decide, by decide, by decide +kernel⟩ ⟨by decide, by decide⟩ (Nat.le_of_ble_eq_true rfl) ⟨by first | decide | (show _ ≤ (600104 : Nat); omega) | (show _ ≤ (7301314 : Nat); omega), by first | decide | (show _ ≤ (600104 : Nat); omega) | (show _ ≤ (7301314 : Nat); omega)⟩ rfl (fun r1248 μ1248 hq1248 hm1248 => ?_) (fun _ _ h9 => h9)
    obtain ⟨⟨w1248, hw1248, rfl⟩, hq9⟩ := hq1248
    have hq9 := hq9.symm
    subst hq9
    dsimp only [Option.toList, List.nil_append, List.cons_append]
    refine mj_iadd (pc' := 1252) C dL_law_1251 rfl ?_
    rw [show (1 : Int32) + nI w1248 = nI (1 + w1248) from nI_add 1 w1248]
    refine mj_iast (pc' := 1253) C dL_law_1252 rfl rfl (by decide) (by decide) (hP.B.l 6 (by decide) rfl) rfl (by omega) ?_
    refine jgen (J := J) (P := fun μ2 => xR S μ2 ∧ pR (su S 6 w1232 (nI (1 + w1248))) μ2 ∧ mI μ2 27 0 w1232 = (nI (1 + w1248))) ⟨hR.o (by decide), pR_v hP 27 rfl (Or.inr (by decide)) (Or.inl (by decide)), mI_sI_s _ _ _ _ _⟩ ?_
    clear hR hP
    rintro μ1253 ⟨hR, hP, w27⟩
    refine mj_aload (pc' := 1255) C dL_law_1253 rfl rfl ?_
    refine mj_iload (pc' := 1257) C dL_law_1255 rfl rfl ?_
    refine mj_iload (pc' := 1259) C dL_law_1257 rfl rfl ?_
    refine mj_bipush (pc' := 1261) (v := 8) C dL_law_1259 rfl rfl ?_
    refine mj_ishr (pc' := 1262) C dL_law_1261 rfl ?_
    refine mj_sipush (pc' := 1265) (v := 1001) C dL_law_1262 rfl rfl ?_
    refine mj_callSN_2 (pc' := 1268) C (c_L_low hst (v27 >>> (8 &&& 31)) 1001 ⟨by decide, by decide⟩) dL_law_1265 rfl km_L_53 ks_yL_low kn_L kc_yL_low ⟨by decide, by decide, by decide +kernel⟩ ⟨by decide, by decide⟩ (Nat.le_of_ble_eq_true rfl) ⟨by first | decide | (show _ ≤ (600104 : Nat); omega) | (show _ ≤ (7301314 : Nat); omega), by first | decide | (show _ ≤ (600104 : Nat); omega) | (show _ ≤ (7301314 : Nat); omega)⟩ rfl (fun r1265 μ1265 hq1265 hm1265 => ?_) (fun _ _ h9 => h9)
    obtain ⟨⟨w1265, hw1265, rfl⟩, hq9⟩ := hq1265
    have hq9 := hq9.symm
    subst hq9
    dsimp only [Option.toList, List.nil_append, List.cons_append]
    refine mj_iast (pc' := 1269) C dL_law_1268 rfl rfl (by decide) (by decide) (hP.B.l 7 (by decide) rfl) rfl (by omega) ?_
    refine jgen (J := J) (P := fun μ2 => xR S μ2 ∧ pR (su (su S 6 w1232 (nI (1 + w1248))) 7 w1232 (nI w1265)) μ2 ∧ mI μ2 28 0 w1232 = (nI w1265) ∧ mI μ2 27 0 w1232 = (nI (1 + w1248))) ⟨hR.o (by decide), pR_v hP 28 rfl (Or.inr (by decide)) (Or.inl (by decide)), mI_sI_s _ _ _ _ _, (mI_sI_n _ _ _ _ _ (fun q => by omega)).trans w27⟩ ?_
    clear hR hP
    rintro μ1269 ⟨hR, hP, w28, w27⟩
    refine mj_aload (pc' := 1271) C dL_law_1269 rfl rfl ?_
    refine mj_iload (pc' := 1273) C dL_law_1271 rfl rfl ?_
    refine mj_iconst (pc' := 1274) (v := 1) C dL_law_1273 rfl rfl ?_
    refine mj_iload (pc' := 1276) C dL_law_1274 rfl rfl ?_
    refine mj_bipush (pc' := 1278) (v := 18) C dL_law_1276 rfl rfl ?_
    refine mj_ishr (pc' := 1279) C dL_law_1278 rfl ?_
    refine mj_bipush (pc' := 1281) (v := 9) C dL_law_1279 rfl rfl ?_
    refine mj_callSN_2 (pc' := 1284) C (c_L_low hst (v27 >>> (18 &&& 31)) 9 ⟨by decide, by decide⟩) dL_law_1281 rfl km_L_53 ks_yL_low kn_L kc_yL_low ⟨by decide, by decide, by decide +kernel⟩ ⟨by decide, by decide⟩ (Nat.le_of_ble_eq_true rfl) ⟨by first | decide | (show _ ≤ (600104 : Nat); omega) | (show _ ≤ (7301314 : Nat); omega), by first | decide | (show _ ≤ (600104 : Nat); omega) | (show _ ≤ (7301314 : Nat); omega)⟩ rfl (fun r1281 μ1281 hq1281 hm1281 => ?_) (fun _ _ h9 => h9)
    obtain ⟨⟨w1281, hw1281, rfl⟩, hq9⟩ := hq1281
    have hq9 := hq9.symm
    subst hq9
    dsimp only [Option.toList, List.nil_append, List.cons_append]
    refine mj_iadd (pc' := 1285) C dL_law_1284 rfl ?_
    rw [show (1 : Int32) + nI w1281 = nI (1 + w1281) from nI_add 1 w1281]
    refine mj_iast (pc' := 1286) C dL_law_1285 rfl rfl (by decide) (by decide) (hP.B.l 8 (by decide) rfl) rfl (by omega) ?_
    refine jgen (J := J) (P := fun μ2 => xR S μ2 ∧ pR (su (su (su S 6 w1232 (nI (1 + w1248))) 7 w1232 (nI w1265)) 8 w1232 (nI (1 + w1281))) μ2 ∧ mI μ2 29 0 w1232 = (nI (1 + w1281)) ∧ mI μ2 28 0 w1232 = (nI w1265) ∧ mI μ2 27 0 w1232 = (nI (1 + w1248))) ⟨hR.o (by decide), pR_v hP 29 rfl (Or.inr (by decide)) (Or.inl (by decide)), mI_sI_s _ _ _ _ _, (mI_sI_n _ _ _ _ _ (fun q => by omega)).trans w28, (mI_sI_n _ _ _ _ _ (fun q => by omega)).trans w27⟩ ?_
    clear hR hP
    rintro μ1286 ⟨hR, hP, w29, w28, w27⟩
    have eo := oe_law (S := S) (j := w1232) (y := 1 + w1248) (w := w1265) (q := 1 + w1281) hw1232 ⟨by omega, by omega⟩ (by omega) ⟨by omega, by omega⟩
    refine mj_aload_n (pc' := 1287) C dL_law_1286 rfl rfl ?_
    refine mj_iload (pc' := 1289) C dL_law_1287 rfl rfl ?_
    refine mj_aload (pc' := 1291) C dL_law_1289 rfl rfl ?_
    refine mj_iload (pc' := 1293) C dL_law_1291 rfl rfl ?_
    refine mj_ialdV (pc' := 1294) C dL_law_1293 rfl rfl (by decide) (by decide) (hP.B.l 6 (by decide) rfl) rfl (by omega) w27 ?_
    refine mj_aload (pc' := 1296) C dL_law_1294 rfl rfl ?_
    refine mj_iload (pc' := 1298) C dL_law_1296 rfl rfl ?_
    refine mj_ialdV (pc' := 1299) C dL_law_1298 rfl rfl (by decide) (by decide) (hP.B.l 7 (by decide) rfl) rfl (by omega) w28 ?_
    refine mj_aload (pc' := 1301) C dL_law_1299 rfl rfl ?_
    refine mj_iload (pc' := 1303) C dL_law_1301 rfl rfl ?_
    refine mj_ialdV (pc' := 1304) C dL_law_1303 rfl rfl (by decide) (by decide) (hP.B.l 8 (by decide) rfl) rfl (by omega) w29 ?_
    refine mj_callVN_4 (ci := 5) (pc' := 1307) C (c_X5_law hst S (nI w1232) (nI (1 + w1248)) (nI w1265) (nI (1 + w1281))) dL_law_1304 rfl km_L_83 ki_yX5_law kz_yX5_law kn_X5 kc_yX5_law rfl (by decide) (by decide) ⟨rfl, by decide, by decide, by decide +kernel⟩ ⟨by decide, by decide⟩ (Nat.le_of_ble_eq_true rfl) ⟨by first | decide | (show _ ≤ (600104 : Nat); omega) | (show _ ≤ (7301314 : Nat); omega), by first | decide | (show _ ≤ (600104 : Nat); omega) | (show _ ≤ (7301314 : Nat); omega)⟩ ⟨rfl, hR, hW⟩ (fun r1304 μ1304 hq1304 hm1304 => ?_) (fun _ _ h9 => jno_of eo h9)
    obtain ⟨rfl, -, hR1304, hF1304⟩ := hq1304
    rw [eo] at hR1304
    dsimp only at hR1304
    dsimp only [Option.toList, List.nil_append, List.cons_append]
    have hR := hR1304
    have hP := hP.kept hF1304
    have hA3 := A_law hA (nI w1232) (nI (1 + w1248)) (nI w1265) (nI (1 + w1281))
    rw [eo] at hA3
    dsimp only at hA3
    have eb : sf (su (su (su S 6 w1232 (nI (1 + w1248))) 7 w1232 (nI w1265)) 8 w1232 (nI (1 + w1281))) 17 0 = sf S 17 0 := by rw [s17 (by decide), s17 (by decide), s17 (by decide)]
    have eb1 : sf (su (su (su S 6 w1232 (nI (1 + w1248))) 7 w1232 (nI w1265)) 8 w1232 (nI (1 + w1281))) 17 1 = sf S 17 1 := by rw [s17 (by decide), s17 (by decide), s17 (by decide)]
    have eb2 : sf (su (su (su S 6 w1232 (nI (1 + w1248))) 7 w1232 (nI w1265)) 8 w1232 (nI (1 + w1281))) 17 2 = sf S 17 2 := by rw [s17 (by decide), s17 (by decide), s17 (by decide)]
    generalize eS : (su (su (su S 6 w1232 (nI (1 + w1248))) 7 w1232 (nI w1265)) 8 w1232 (nI (1 + w1281))) = S3 at hR hP hA3 eb eb1 eb2
    have n0 : sn S3 0 = sn S 0 := by rw [← eS]; rfl
    have n1 : sn S3 1 = sn S 1 := by rw [← eS]; rfl
    refine mj_iload (pc' := 1309) C dL_law_1307 rfl rfl ?_
    refine mj_bipush (pc' := 1311) (v := 8) C dL_law_1309 rfl rfl ?_
    refine mj_ishr (pc' := 1312) C dL_law_1311 rfl ?_
    refine mj_sipush (pc' := 1315) (v := 4000) C dL_law_1312 rfl rfl ?_
    refine mj_callSN_2 (pc' := 1318) C (c_L_low hst (v26 >>> (8 &&& 31)) 4000 ⟨by decide, by decide⟩) dL_law_1315 rfl km_L_53 ks_yL_low kn_L kc_yL_low ⟨by decide, by decide, by decide +kernel⟩ ⟨by decide, by decide⟩ (Nat.le_of_ble_eq_true rfl) ⟨by first | decide | (show _ ≤ (600104 : Nat); omega) | (show _ ≤ (7301314 : Nat); omega), by first | decide | (show _ ≤ (600104 : Nat); omega) | (show _ ≤ (7301314 : Nat); omega)⟩ rfl (fun r1315 μ1315 hq1315 hm1315 => ?_) (fun _ _ h9 => h9)
    obtain ⟨⟨w1315, hw1315, rfl⟩, hq9⟩ := hq1315
    have hq9 := hq9.symm
    subst hq9
    dsimp only [Option.toList, List.nil_append, List.cons_append]
    refine mj_istore_33 (pc' := 1320) C dL_law_1318 rfl (by decide) rfl ?_
    refine mj_aload_n (pc' := 1321) C dL_law_1320 rfl rfl ?_
    refine mj_iload (pc' := 1323) C dL_law_1321 rfl rfl ?_
    refine mj_callVN_1 (ci := 5) (pc' := 1326) C (c_X5_setBudget hst S3 (nI w1315)) dL_law_1323 rfl km_L_87 ki_yX5_setBudget kz_yX5_setBudget kn_X5 kc_yX5_setBudget rfl (by decide) (by decide) ⟨rfl, by decide, by decide, by decide +kernel⟩ ⟨by decide, by decide⟩ (Nat.le_of_ble_eq_true rfl) ⟨by first | decide | (show _ ≤ (600104 : Nat); omega) | (show _ ≤ (7301314 : Nat); omega), by first | decide | (show _ ≤ (600104 : Nat); omega) | (show _ ≤ (7301314 : Nat); omega)⟩ ⟨rfl, hR, hA3.1⟩ (fun r1323 μ1323 hq1323 hm1323 => ?_) (fun _ _ h9 => jno_of (oe_budget (by omega)) h9)
    obtain ⟨rfl, hR1323, hF1323⟩ := jret_of (oe_budget (by omega)) hq1323
    dsimp only [Option.toList, List.nil_append, List.cons_append]
    have hR := hR1323
    have hP := hP.kept hF1323
    refine mj_iload (pc' := 1328) C dL_law_1326 rfl rfl ?_
    refine mj_icmp_eq (tgt := 1333) (pc' := 1331) C dL_law_1328 (by decide) rfl (fun _ => ?_) (fun h9 => absurd eb h9)
    refine mj_iload (pc' := 1335) C dL_law_1333 rfl rfl ?_
    refine mj_istore_23 (pc' := 1337) C dL_law_1335 rfl (by decide) rfl ?_
    have hA4 := A_setBudget hA3 (nI w1315)
    rw [oe_budget (by omega)] at hA4
    dsimp only at hA4
    have hP : pR (su S3 17 0 (nI w1315)) _ := hP.other (S' := su S3 17 0 (nI w1315)) rfl rfl (fun a i h1 _ _ => by rw [sf_su, if_neg (by omega)]) (fun i _ => by rw [sf_su, if_neg (by omega)]; exact Int32.le_refl _)
    have hI4 : pI (c + 1) (su S3 17 0 (nI w1315)) := by
      obtain ⟨i1, i2, i3, y, i4, i5⟩ := hI
      refine ⟨by show sn S3 0 ≤ 12; rw [n0]; exact i1, ?_, ?_, y, by omega, ?_⟩
      · rw [sf_su, if_neg (by omega), eb1]; exact i2
      · rw [sf_su, if_pos ⟨rfl, rfl⟩]; exact nI_pos' (by omega)
      · rw [sf_su, if_neg (by omega), eb2]; exact i5
    exact fin.use Sc (su S3 17 0 (nI w1315)) (by show _ = nI (sn S3 1); rw [n1]) (by show _ = nI (sn S3 0); rw [n0]) (by rw [sf_su, if_neg (by omega), eb2]) (by rw [sf_su, if_pos ⟨rfl, rfl⟩]) (by rw [sf_su, if_neg (by omega), eb1]) hR hP hA4 hI4 (by omega) (by omega)
