/-! THE LAW: EACH CALL OF ITS SCRIPT -/
/-- the walk from behind a call -/
def lFin (J : Nat → List (Option jV) → List jV → jM → Nat → Nat → Prop) (c : Nat) : Prop := ∀ (S' : jS) (μ' : jM) (x5 x6 : Option jV) (k' n' : Nat), xR S' μ' → mR S' μ' → sA S' → mN μ' 60 = 1 → k' ≤ 196 + 6 * (c + 1) → n' ≤ 3380 + 60 * (c + 1) → J 1582 [some (aR 61 0), some (aR 0 0), some (aR 20 0), some (aR 60 0), some (aI (nI (5 * c))), x5, x6] [] μ' k' n'

set_option maxHeartbeats 2000000 in
set_option maxRecDepth 20000 in
theorem lk_setLast {l : Launch} (hst : l.stackTraces = false) {J : Nat → List (Option jV) → List jV → jM → Nat → Nat → Prop} (C : jCtx l J cL_law_ 7 RL room_1 (some FieldType.boolean) 3 [] (fun _ _ => True) (fun _ _ => False) 0 0) {L9 : Nat} {xs : Nat → Int32} (Sc : jSc J cL_law_ L9 xs) (S : jS) (c : Nat) (μ : jM) (hc : c < 512) (hi : 5 * c + 5 ≤ L9) (hR : xR S μ) (hM : mR S μ) (hA : sA S) (h60 : mN μ 60 = 1) (fin : lFin J c) : J 152 [some (aR 61 0), some (aR 0 0), some (aR 20 0), some (aR 60 0), some (aI (nI (5 * c))), none, none] [] μ (196 + 6 * c) (3380 + 60 * c) := by
  refine mj_aload_n (pc' := 153) C dL_law__152 rfl rfl ?_
  refine mj_aload_n (pc' := 154) C dL_law__153 rfl rfl ?_
  refine mj_iload (pc' := 156) C dL_law__154 rfl rfl ?_
  refine mj_iconst (pc' := 157) (v := 1) C dL_law__156 rfl rfl ?_
  refine mj_iadd (pc' := 158) C dL_law__157 rfl ?_
  refine Sc.ld (pc' := 159) dL_law__158 rfl (nI_add (5 * c) 1) (by omega) ?_
  refine mj_aload_n (pc' := 160) C dL_law__159 rfl rfl ?_
  refine mj_iload (pc' := 162) C dL_law__160 rfl rfl ?_
  refine mj_iconst (pc' := 163) (v := 2) C dL_law__162 rfl rfl ?_
  refine mj_iadd (pc' := 164) C dL_law__163 rfl ?_
  refine Sc.ld (pc' := 165) dL_law__164 rfl (nI_add (5 * c) 2) (by omega) ?_
  refine mj_aload_n (pc' := 166) C dL_law__165 rfl rfl ?_
  refine mj_callW_4 (pc' := 169) C (c_L_setLast hst S (xs (5 * c + 1)) (xs (5 * c + 2))) dL_law__166 rfl km_L_90 ks_yL_setLast kn_L kc_yL_setLast ⟨by decide, by decide, by decide +kernel⟩ ⟨by decide, by decide⟩ (Nat.le_of_ble_eq_true rfl) ⟨by first | decide | (show _ ≤ (601024 : Nat); omega) | (show _ ≤ (7293034 : Nat); omega), by first | decide | (show _ ≤ (601024 : Nat); omega) | (show _ ≤ (7293034 : Nat); omega)⟩ ⟨rfl, hR, hA.1, (Nat.lt_of_lt_of_eq Nat.zero_lt_one h60.symm)⟩ (fun r166 μ166 hq166 hm166 => ?_)
  obtain ⟨rfl, hG, hR1, hF1⟩ := hq166
  have hM1 := hM.keptL hF1
  have h61 : mN μ166 60 = 1 := hF1.2.trans h60
  dsimp only [Option.toList, List.nil_append, List.cons_append]
  refine mj_istore_5 (pc' := 171) C dL_law__169 rfl (by decide) rfl ?_
  refine mj_aload_n (pc' := 172) C dL_law__171 rfl rfl ?_
  refine mj_aload_n (pc' := 173) C dL_law__172 rfl rfl ?_
  refine mj_iload (pc' := 175) C dL_law__173 rfl rfl ?_
  refine mj_iconst (pc' := 176) (v := 1) C dL_law__175 rfl rfl ?_
  refine mj_iadd (pc' := 177) C dL_law__176 rfl ?_
  refine Sc.ld (pc' := 178) dL_law__177 rfl (nI_add (5 * c) 1) (by omega) ?_
  refine mj_aload_n (pc' := 179) C dL_law__178 rfl rfl ?_
  refine mj_iload (pc' := 181) C dL_law__179 rfl rfl ?_
  refine mj_iconst (pc' := 182) (v := 2) C dL_law__181 rfl rfl ?_
  refine mj_iadd (pc' := 183) C dL_law__182 rfl ?_
  refine Sc.ld (pc' := 184) dL_law__183 rfl (nI_add (5 * c) 2) (by omega) ?_
  refine mj_callVN_2 (ci := 6) (pc' := 187) C (c_X6_setLast hst S (xs (5 * c + 1)) (xs (5 * c + 2))) dL_law__184 rfl km_L_95 ki_yX6_setLast kz_yX6_setLast kn_X6 kc_yX6_setLast rfl (by decide) (by decide) ⟨rfl, by decide, by decide, by decide +kernel⟩ ⟨by decide, by decide⟩ (Nat.le_of_ble_eq_true rfl) ⟨by first | decide | (show _ ≤ (601024 : Nat); omega) | (show _ ≤ (7293034 : Nat); omega), by first | decide | (show _ ≤ (601024 : Nat); omega) | (show _ ≤ (7293034 : Nat); omega)⟩ ⟨rfl, hM1, hA.1⟩ (fun r184 μ184 hq184 hm184 => ?_) (fun _ _ h9 => h9)
  obtain ⟨v, rfl, h35, hv, hM2, hF2⟩ := hq184
  have hR2 := hR1.kept (fun kd hk => hF2 kd (Or.inl hk))
  have h62 : mN μ184 60 = 1 := (hF2 60 (Or.inr (by omega))).1.trans h61
  dsimp only [Option.toList, List.nil_append, List.cons_append]
  refine mj_istore_6 (pc' := 189) C dL_law__187 rfl (by decide) rfl ?_
  refine mj_aload_n (pc' := 190) C dL_law__189 rfl rfl ?_
  refine mj_callVN_0 (ci := 6) (pc' := 193) C (c_X6_thrown hst (o_setLast S (xs (5 * c + 1)) (xs (5 * c + 2))).2.2) dL_law__190 rfl km_L_96 ki_yX6_thrown kz_yX6_thrown kn_X6 kc_yX6_thrown rfl (by decide) (by decide) ⟨rfl, by decide, by decide, by decide +kernel⟩ ⟨by decide, by decide⟩ (Nat.le_of_ble_eq_true rfl) ⟨by first | decide | (show _ ≤ (601024 : Nat); omega) | (show _ ≤ (7293034 : Nat); omega), by first | decide | (show _ ≤ (601024 : Nat); omega) | (show _ ≤ (7293034 : Nat); omega)⟩ ⟨rfl, hM2⟩ (fun r190 μ190 hq190 hm190 => ?_) (fun _ _ h9 => h9)
  obtain ⟨rfl, rfl⟩ := hq190
  dsimp only [Option.toList, List.nil_append, List.cons_append]
  rw [h35]
  refine mj_iload (pc' := 195) C dL_law__193 rfl rfl ?_
  refine mj_icmp_eq (tgt := 200) (pc' := 198) C dL_law__195 (by decide) rfl (fun _ => ?_) (fun h9 => absurd rfl h9)
  refine mj_iload (pc' := 202) C dL_law__200 rfl rfl ?_
  refine mj_if_ne (tgt := 217) (pc' := 205) C dL_law__202 (by decide) rfl (fun hz => ?_) (fun hz => ?_)
  · refine mj_goto (pc' := 1582) C dL_law__217 (by decide) ?_
    exact fin _ _ _ _ _ _ hR2 hM2 (A_setLast hA _ _) h62 (by omega) (by omega)
  · have h0 : (o_setLast S (xs (5 * c + 1)) (xs (5 * c + 2))).1 = 0 := kA_0 (by rcases o_setLast_c S (xs (5 * c + 1)) (xs (5 * c + 2)) with h9 | ⟨h9, -⟩ | ⟨h9, -⟩ | ⟨h9, -⟩ <;> omega) hz
    refine mj_aload_n (pc' := 206) C dL_law__205 rfl rfl ?_
    refine mj_iconst (pc' := 207) (v := 0) C dL_law__206 rfl rfl ?_
    refine mj_lald (pc' := 208) C dL_law__207 rfl rfl (by decide) (by decide) (Nat.lt_of_lt_of_eq Nat.zero_lt_one h62.symm) (rfl : (0 : Int32) = nI 0) (by decide) ?_
    refine mj_iload (pc' := 210) C dL_law__208 rfl rfl ?_
    refine mj_i2l (pc' := 211) C dL_law__210 rfl ?_
    refine mj_lcmp (pc' := 212) C dL_law__211 rfl ?_
    refine mj_if_eq (tgt := 217) (pc' := 215) C dL_law__212 (by decide) rfl (fun _ => ?_) (fun h9 => absurd (lgz ((((hF2 60 (Or.inr (by omega))).2 0 0).2.2.trans (hG h0)).trans (by rw [hv h0]))) h9)
    refine mj_goto (pc' := 1582) C dL_law__217 (by decide) ?_
    exact fin _ _ _ _ _ _ hR2 hM2 (A_setLast hA _ _) h62 (by omega) (by omega)

set_option maxHeartbeats 2000000 in
set_option maxRecDepth 20000 in
theorem lk_converter {l : Launch} (hst : l.stackTraces = false) {J : Nat → List (Option jV) → List jV → jM → Nat → Nat → Prop} (C : jCtx l J cL_law_ 7 RL room_1 (some FieldType.boolean) 3 [] (fun _ _ => True) (fun _ _ => False) 0 0) {L9 : Nat} {xs : Nat → Int32} (Sc : jSc J cL_law_ L9 xs) (S : jS) (c : Nat) (μ : jM) (hc : c < 512) (hi : 5 * c + 5 ≤ L9) (hR : xR S μ) (hM : mR S μ) (hA : sA S) (h60 : mN μ 60 = 1) (fin : lFin J c) : J 220 [some (aR 61 0), some (aR 0 0), some (aR 20 0), some (aR 60 0), some (aI (nI (5 * c))), none, none] [] μ (196 + 6 * c) (3380 + 60 * c) := by
  refine mj_aload_n (pc' := 221) C dL_law__220 rfl rfl ?_
  refine mj_aload_n (pc' := 222) C dL_law__221 rfl rfl ?_
  refine mj_iload (pc' := 224) C dL_law__222 rfl rfl ?_
  refine mj_iconst (pc' := 225) (v := 1) C dL_law__224 rfl rfl ?_
  refine mj_iadd (pc' := 226) C dL_law__225 rfl ?_
  refine Sc.ld (pc' := 227) dL_law__226 rfl (nI_add (5 * c) 1) (by omega) ?_
  refine mj_aload_n (pc' := 228) C dL_law__227 rfl rfl ?_
  refine mj_iload (pc' := 230) C dL_law__228 rfl rfl ?_
  refine mj_iconst (pc' := 231) (v := 2) C dL_law__230 rfl rfl ?_
  refine mj_iadd (pc' := 232) C dL_law__231 rfl ?_
  refine Sc.ld (pc' := 233) dL_law__232 rfl (nI_add (5 * c) 2) (by omega) ?_
  refine mj_aload_n (pc' := 234) C dL_law__233 rfl rfl ?_
  refine mj_iload (pc' := 236) C dL_law__234 rfl rfl ?_
  refine mj_iconst (pc' := 237) (v := 3) C dL_law__236 rfl rfl ?_
  refine mj_iadd (pc' := 238) C dL_law__237 rfl ?_
  refine Sc.ld (pc' := 239) dL_law__238 rfl (nI_add (5 * c) 3) (by omega) ?_
  refine mj_aload_n (pc' := 240) C dL_law__239 rfl rfl ?_
  refine mj_iload (pc' := 242) C dL_law__240 rfl rfl ?_
  refine mj_iconst (pc' := 243) (v := 4) C dL_law__242 rfl rfl ?_
  refine mj_iadd (pc' := 244) C dL_law__243 rfl ?_
  refine Sc.ld (pc' := 245) dL_law__244 rfl (nI_add (5 * c) 4) (by omega) ?_
  refine mj_aload_n (pc' := 246) C dL_law__245 rfl rfl ?_
  refine mj_callW_6 (pc' := 249) C (c_L_converter hst S (xs (5 * c + 1)) (xs (5 * c + 2)) (xs (5 * c + 3)) (xs (5 * c + 4))) dL_law__246 rfl km_L_99 ks_yL_converter kn_L kc_yL_converter ⟨by decide, by decide, by decide +kernel⟩ ⟨by decide, by decide⟩ (Nat.le_of_ble_eq_true rfl) ⟨by first | decide | (show _ ≤ (601024 : Nat); omega) | (show _ ≤ (7293034 : Nat); omega), by first | decide | (show _ ≤ (601024 : Nat); omega) | (show _ ≤ (7293034 : Nat); omega)⟩ ⟨rfl, hR, hA.1, (Nat.lt_of_lt_of_eq Nat.zero_lt_one h60.symm)⟩ (fun r246 μ246 hq246 hm246 => ?_)
  obtain ⟨rfl, hG, hR1, hF1⟩ := hq246
  have hM1 := hM.keptL hF1
  have h61 : mN μ246 60 = 1 := hF1.2.trans h60
  dsimp only [Option.toList, List.nil_append, List.cons_append]
  refine mj_istore_5 (pc' := 251) C dL_law__249 rfl (by decide) rfl ?_
  refine mj_aload_n (pc' := 252) C dL_law__251 rfl rfl ?_
  refine mj_aload_n (pc' := 253) C dL_law__252 rfl rfl ?_
  refine mj_iload (pc' := 255) C dL_law__253 rfl rfl ?_
  refine mj_iconst (pc' := 256) (v := 1) C dL_law__255 rfl rfl ?_
  refine mj_iadd (pc' := 257) C dL_law__256 rfl ?_
  refine Sc.ld (pc' := 258) dL_law__257 rfl (nI_add (5 * c) 1) (by omega) ?_
  refine mj_aload_n (pc' := 259) C dL_law__258 rfl rfl ?_
  refine mj_iload (pc' := 261) C dL_law__259 rfl rfl ?_
  refine mj_iconst (pc' := 262) (v := 2) C dL_law__261 rfl rfl ?_
  refine mj_iadd (pc' := 263) C dL_law__262 rfl ?_
  refine Sc.ld (pc' := 264) dL_law__263 rfl (nI_add (5 * c) 2) (by omega) ?_
  refine mj_aload_n (pc' := 265) C dL_law__264 rfl rfl ?_
  refine mj_iload (pc' := 267) C dL_law__265 rfl rfl ?_
  refine mj_iconst (pc' := 268) (v := 3) C dL_law__267 rfl rfl ?_
  refine mj_iadd (pc' := 269) C dL_law__268 rfl ?_
  refine Sc.ld (pc' := 270) dL_law__269 rfl (nI_add (5 * c) 3) (by omega) ?_
  refine mj_aload_n (pc' := 271) C dL_law__270 rfl rfl ?_
  refine mj_iload (pc' := 273) C dL_law__271 rfl rfl ?_
  refine mj_iconst (pc' := 274) (v := 4) C dL_law__273 rfl rfl ?_
  refine mj_iadd (pc' := 275) C dL_law__274 rfl ?_
  refine Sc.ld (pc' := 276) dL_law__275 rfl (nI_add (5 * c) 4) (by omega) ?_
  refine mj_callVN_4 (ci := 6) (pc' := 279) C (c_X6_converter hst S (xs (5 * c + 1)) (xs (5 * c + 2)) (xs (5 * c + 3)) (xs (5 * c + 4))) dL_law__276 rfl km_L_102 ki_yX6_converter kz_yX6_converter kn_X6 kc_yX6_converter rfl (by decide) (by decide) ⟨rfl, by decide, by decide, by decide +kernel⟩ ⟨by decide, by decide⟩ (Nat.le_of_ble_eq_true rfl) ⟨by first | decide | (show _ ≤ (601024 : Nat); omega) | (show _ ≤ (7293034 : Nat); omega), by first | decide | (show _ ≤ (601024 : Nat); omega) | (show _ ≤ (7293034 : Nat); omega)⟩ ⟨rfl, hM1, hA.1, hA.2.2⟩ (fun r276 μ276 hq276 hm276 => ?_) (fun _ _ h9 => h9)
  obtain ⟨v, rfl, h35, hv, hM2, hF2⟩ := hq276
  have hR2 := hR1.kept (fun kd hk => hF2 kd (Or.inl hk))
  have h62 : mN μ276 60 = 1 := (hF2 60 (Or.inr (by omega))).1.trans h61
  dsimp only [Option.toList, List.nil_append, List.cons_append]
  refine mj_istore_6 (pc' := 281) C dL_law__279 rfl (by decide) rfl ?_
  refine mj_aload_n (pc' := 282) C dL_law__281 rfl rfl ?_
  refine mj_callVN_0 (ci := 6) (pc' := 285) C (c_X6_thrown hst (o_converter S (xs (5 * c + 1)) (xs (5 * c + 2)) (xs (5 * c + 3)) (xs (5 * c + 4))).2.2) dL_law__282 rfl km_L_96 ki_yX6_thrown kz_yX6_thrown kn_X6 kc_yX6_thrown rfl (by decide) (by decide) ⟨rfl, by decide, by decide, by decide +kernel⟩ ⟨by decide, by decide⟩ (Nat.le_of_ble_eq_true rfl) ⟨by first | decide | (show _ ≤ (601024 : Nat); omega) | (show _ ≤ (7293034 : Nat); omega), by first | decide | (show _ ≤ (601024 : Nat); omega) | (show _ ≤ (7293034 : Nat); omega)⟩ ⟨rfl, hM2⟩ (fun r282 μ282 hq282 hm282 => ?_) (fun _ _ h9 => h9)
  obtain ⟨rfl, rfl⟩ := hq282
  dsimp only [Option.toList, List.nil_append, List.cons_append]
  rw [h35]
  refine mj_iload (pc' := 287) C dL_law__285 rfl rfl ?_
  refine mj_icmp_eq (tgt := 292) (pc' := 290) C dL_law__287 (by decide) rfl (fun _ => ?_) (fun h9 => absurd rfl h9)
  refine mj_iload (pc' := 294) C dL_law__292 rfl rfl ?_
  refine mj_if_ne (tgt := 309) (pc' := 297) C dL_law__294 (by decide) rfl (fun hz => ?_) (fun hz => ?_)
  · refine mj_goto (pc' := 1582) C dL_law__309 (by decide) ?_
    exact fin _ _ _ _ _ _ hR2 hM2 (A_converter hA _ _ _ _) h62 (by omega) (by omega)
  · have h0 : (o_converter S (xs (5 * c + 1)) (xs (5 * c + 2)) (xs (5 * c + 3)) (xs (5 * c + 4))).1 = 0 := kA_0 (by rcases o_converter_c S (xs (5 * c + 1)) (xs (5 * c + 2)) (xs (5 * c + 3)) (xs (5 * c + 4)) with h9 | ⟨h9, -⟩ | ⟨h9, -⟩ | ⟨h9, -⟩ <;> omega) hz
    refine mj_aload_n (pc' := 298) C dL_law__297 rfl rfl ?_
    refine mj_iconst (pc' := 299) (v := 0) C dL_law__298 rfl rfl ?_
    refine mj_lald (pc' := 300) C dL_law__299 rfl rfl (by decide) (by decide) (Nat.lt_of_lt_of_eq Nat.zero_lt_one h62.symm) (rfl : (0 : Int32) = nI 0) (by decide) ?_
    refine mj_iload (pc' := 302) C dL_law__300 rfl rfl ?_
    refine mj_i2l (pc' := 303) C dL_law__302 rfl ?_
    refine mj_lcmp (pc' := 304) C dL_law__303 rfl ?_
    refine mj_if_eq (tgt := 309) (pc' := 307) C dL_law__304 (by decide) rfl (fun _ => ?_) (fun h9 => absurd (lgz ((((hF2 60 (Or.inr (by omega))).2 0 0).2.2.trans (hG h0)).trans (by rw [hv h0]))) h9)
    refine mj_goto (pc' := 1582) C dL_law__309 (by decide) ?_
    exact fin _ _ _ _ _ _ hR2 hM2 (A_converter hA _ _ _ _) h62 (by omega) (by omega)

set_option maxHeartbeats 2000000 in
set_option maxRecDepth 20000 in
theorem lk_withdraw {l : Launch} (hst : l.stackTraces = false) {J : Nat → List (Option jV) → List jV → jM → Nat → Nat → Prop} (C : jCtx l J cL_law_ 7 RL room_1 (some FieldType.boolean) 3 [] (fun _ _ => True) (fun _ _ => False) 0 0) {L9 : Nat} {xs : Nat → Int32} (Sc : jSc J cL_law_ L9 xs) (S : jS) (c : Nat) (μ : jM) (hc : c < 512) (hi : 5 * c + 5 ≤ L9) (hR : xR S μ) (hM : mR S μ) (hA : sA S) (h60 : mN μ 60 = 1) (fin : lFin J c) : J 312 [some (aR 61 0), some (aR 0 0), some (aR 20 0), some (aR 60 0), some (aI (nI (5 * c))), none, none] [] μ (196 + 6 * c) (3380 + 60 * c) := by
  refine mj_aload_n (pc' := 313) C dL_law__312 rfl rfl ?_
  refine mj_aload_n (pc' := 314) C dL_law__313 rfl rfl ?_
  refine mj_iload (pc' := 316) C dL_law__314 rfl rfl ?_
  refine mj_iconst (pc' := 317) (v := 1) C dL_law__316 rfl rfl ?_
  refine mj_iadd (pc' := 318) C dL_law__317 rfl ?_
  refine Sc.ld (pc' := 319) dL_law__318 rfl (nI_add (5 * c) 1) (by omega) ?_
  refine mj_aload_n (pc' := 320) C dL_law__319 rfl rfl ?_
  refine mj_callW_3 (pc' := 323) C (c_L_withdraw hst S (xs (5 * c + 1))) dL_law__320 rfl km_L_103 ks_yL_withdraw kn_L kc_yL_withdraw ⟨by decide, by decide, by decide +kernel⟩ ⟨by decide, by decide⟩ (Nat.le_of_ble_eq_true rfl) ⟨by first | decide | (show _ ≤ (601024 : Nat); omega) | (show _ ≤ (7293034 : Nat); omega), by first | decide | (show _ ≤ (601024 : Nat); omega) | (show _ ≤ (7293034 : Nat); omega)⟩ ⟨rfl, hR, hA.1, (Nat.lt_of_lt_of_eq Nat.zero_lt_one h60.symm)⟩ (fun r320 μ320 hq320 hm320 => ?_)
  obtain ⟨rfl, hG, hR1, hF1⟩ := hq320
  have hM1 := hM.keptL hF1
  have h61 : mN μ320 60 = 1 := hF1.2.trans h60
  dsimp only [Option.toList, List.nil_append, List.cons_append]
  refine mj_istore_5 (pc' := 325) C dL_law__323 rfl (by decide) rfl ?_
  refine mj_aload_n (pc' := 326) C dL_law__325 rfl rfl ?_
  refine mj_aload_n (pc' := 327) C dL_law__326 rfl rfl ?_
  refine mj_iload (pc' := 329) C dL_law__327 rfl rfl ?_
  refine mj_iconst (pc' := 330) (v := 1) C dL_law__329 rfl rfl ?_
  refine mj_iadd (pc' := 331) C dL_law__330 rfl ?_
  refine Sc.ld (pc' := 332) dL_law__331 rfl (nI_add (5 * c) 1) (by omega) ?_
  refine mj_callVN_1 (ci := 6) (pc' := 335) C (c_X6_withdraw hst S (xs (5 * c + 1))) dL_law__332 rfl km_L_106 ki_yX6_withdraw kz_yX6_withdraw kn_X6 kc_yX6_withdraw rfl (by decide) (by decide) ⟨rfl, by decide, by decide, by decide +kernel⟩ ⟨by decide, by decide⟩ (Nat.le_of_ble_eq_true rfl) ⟨by first | decide | (show _ ≤ (601024 : Nat); omega) | (show _ ≤ (7293034 : Nat); omega), by first | decide | (show _ ≤ (601024 : Nat); omega) | (show _ ≤ (7293034 : Nat); omega)⟩ ⟨rfl, hM1, hA.1⟩ (fun r332 μ332 hq332 hm332 => ?_) (fun _ _ h9 => h9)
  obtain ⟨v, rfl, h35, hv, hM2, hF2⟩ := hq332
  have hR2 := hR1.kept (fun kd hk => hF2 kd (Or.inl hk))
  have h62 : mN μ332 60 = 1 := (hF2 60 (Or.inr (by omega))).1.trans h61
  dsimp only [Option.toList, List.nil_append, List.cons_append]
  refine mj_istore_6 (pc' := 337) C dL_law__335 rfl (by decide) rfl ?_
  refine mj_aload_n (pc' := 338) C dL_law__337 rfl rfl ?_
  refine mj_callVN_0 (ci := 6) (pc' := 341) C (c_X6_thrown hst (o_withdraw S (xs (5 * c + 1))).2.2) dL_law__338 rfl km_L_96 ki_yX6_thrown kz_yX6_thrown kn_X6 kc_yX6_thrown rfl (by decide) (by decide) ⟨rfl, by decide, by decide, by decide +kernel⟩ ⟨by decide, by decide⟩ (Nat.le_of_ble_eq_true rfl) ⟨by first | decide | (show _ ≤ (601024 : Nat); omega) | (show _ ≤ (7293034 : Nat); omega), by first | decide | (show _ ≤ (601024 : Nat); omega) | (show _ ≤ (7293034 : Nat); omega)⟩ ⟨rfl, hM2⟩ (fun r338 μ338 hq338 hm338 => ?_) (fun _ _ h9 => h9)
  obtain ⟨rfl, rfl⟩ := hq338
  dsimp only [Option.toList, List.nil_append, List.cons_append]
  rw [h35]
  refine mj_iload (pc' := 343) C dL_law__341 rfl rfl ?_
  refine mj_icmp_eq (tgt := 348) (pc' := 346) C dL_law__343 (by decide) rfl (fun _ => ?_) (fun h9 => absurd rfl h9)
  refine mj_iload (pc' := 350) C dL_law__348 rfl rfl ?_
  refine mj_if_ne (tgt := 365) (pc' := 353) C dL_law__350 (by decide) rfl (fun hz => ?_) (fun hz => ?_)
  · refine mj_goto (pc' := 1582) C dL_law__365 (by decide) ?_
    exact fin _ _ _ _ _ _ hR2 hM2 (A_withdraw hA _) h62 (by omega) (by omega)
  · have h0 : (o_withdraw S (xs (5 * c + 1))).1 = 0 := kB_0 (by rcases o_withdraw_c S (xs (5 * c + 1)) with h9 | ⟨h9, -⟩ | ⟨h9, -⟩ <;> omega) hz
    refine mj_aload_n (pc' := 354) C dL_law__353 rfl rfl ?_
    refine mj_iconst (pc' := 355) (v := 0) C dL_law__354 rfl rfl ?_
    refine mj_lald (pc' := 356) C dL_law__355 rfl rfl (by decide) (by decide) (Nat.lt_of_lt_of_eq Nat.zero_lt_one h62.symm) (rfl : (0 : Int32) = nI 0) (by decide) ?_
    refine mj_iload (pc' := 358) C dL_law__356 rfl rfl ?_
    refine mj_i2l (pc' := 359) C dL_law__358 rfl ?_
    refine mj_lcmp (pc' := 360) C dL_law__359 rfl ?_
    refine mj_if_eq (tgt := 365) (pc' := 363) C dL_law__360 (by decide) rfl (fun _ => ?_) (fun h9 => absurd (lgz ((((hF2 60 (Or.inr (by omega))).2 0 0).2.2.trans (hG h0)).trans (by rw [hv h0]))) h9)
    refine mj_goto (pc' := 1582) C dL_law__365 (by decide) ?_
    exact fin _ _ _ _ _ _ hR2 hM2 (A_withdraw hA _) h62 (by omega) (by omega)

set_option maxHeartbeats 2000000 in
set_option maxRecDepth 20000 in
theorem lk_law {l : Launch} (hst : l.stackTraces = false) {J : Nat → List (Option jV) → List jV → jM → Nat → Nat → Prop} (C : jCtx l J cL_law_ 7 RL room_1 (some FieldType.boolean) 3 [] (fun _ _ => True) (fun _ _ => False) 0 0) {L9 : Nat} {xs : Nat → Int32} (Sc : jSc J cL_law_ L9 xs) (S : jS) (c : Nat) (μ : jM) (hc : c < 512) (hi : 5 * c + 5 ≤ L9) (hR : xR S μ) (hM : mR S μ) (hA : sA S) (h60 : mN μ 60 = 1) (fin : lFin J c) : J 368 [some (aR 61 0), some (aR 0 0), some (aR 20 0), some (aR 60 0), some (aI (nI (5 * c))), none, none] [] μ (196 + 6 * c) (3380 + 60 * c) := by
  refine mj_aload_n (pc' := 369) C dL_law__368 rfl rfl ?_
  refine mj_aload_n (pc' := 370) C dL_law__369 rfl rfl ?_
  refine mj_iload (pc' := 372) C dL_law__370 rfl rfl ?_
  refine mj_iconst (pc' := 373) (v := 1) C dL_law__372 rfl rfl ?_
  refine mj_iadd (pc' := 374) C dL_law__373 rfl ?_
  refine Sc.ld (pc' := 375) dL_law__374 rfl (nI_add (5 * c) 1) (by omega) ?_
  refine mj_aload_n (pc' := 376) C dL_law__375 rfl rfl ?_
  refine mj_iload (pc' := 378) C dL_law__376 rfl rfl ?_
  refine mj_iconst (pc' := 379) (v := 2) C dL_law__378 rfl rfl ?_
  refine mj_iadd (pc' := 380) C dL_law__379 rfl ?_
  refine Sc.ld (pc' := 381) dL_law__380 rfl (nI_add (5 * c) 2) (by omega) ?_
  refine mj_aload_n (pc' := 382) C dL_law__381 rfl rfl ?_
  refine mj_iload (pc' := 384) C dL_law__382 rfl rfl ?_
  refine mj_iconst (pc' := 385) (v := 3) C dL_law__384 rfl rfl ?_
  refine mj_iadd (pc' := 386) C dL_law__385 rfl ?_
  refine Sc.ld (pc' := 387) dL_law__386 rfl (nI_add (5 * c) 3) (by omega) ?_
  refine mj_aload_n (pc' := 388) C dL_law__387 rfl rfl ?_
  refine mj_iload (pc' := 390) C dL_law__388 rfl rfl ?_
  refine mj_iconst (pc' := 391) (v := 4) C dL_law__390 rfl rfl ?_
  refine mj_iadd (pc' := 392) C dL_law__391 rfl ?_
  refine Sc.ld (pc' := 393) dL_law__392 rfl (nI_add (5 * c) 4) (by omega) ?_
  refine mj_callW_5 (pc' := 396) C (c_L_law hst S (xs (5 * c + 1)) (xs (5 * c + 2)) (xs (5 * c + 3)) (xs (5 * c + 4))) dL_law__393 rfl km_L_107 ks_yL_law kn_L kc_yL_law ⟨by decide, by decide, by decide +kernel⟩ ⟨by decide, by decide⟩ (Nat.le_of_ble_eq_true rfl) ⟨by first | decide | (show _ ≤ (601024 : Nat); omega) | (show _ ≤ (7293034 : Nat); omega), by first | decide | (show _ ≤ (601024 : Nat); omega) | (show _ ≤ (7293034 : Nat); omega)⟩ ⟨rfl, hR, hA.1⟩ (fun r393 μ393 hq393 hm393 => ?_)
  obtain ⟨rfl, hR1, hF1⟩ := hq393
  have hM1 := hM.keptL hF1
  have h61 : mN μ393 60 = 1 := hF1.2.trans h60
  dsimp only [Option.toList, List.nil_append, List.cons_append]
  refine mj_istore_5 (pc' := 398) C dL_law__396 rfl (by decide) rfl ?_
  refine mj_aload_n (pc' := 399) C dL_law__398 rfl rfl ?_
  refine mj_aload_n (pc' := 400) C dL_law__399 rfl rfl ?_
  refine mj_iload (pc' := 402) C dL_law__400 rfl rfl ?_
  refine mj_iconst (pc' := 403) (v := 1) C dL_law__402 rfl rfl ?_
  refine mj_iadd (pc' := 404) C dL_law__403 rfl ?_
  refine Sc.ld (pc' := 405) dL_law__404 rfl (nI_add (5 * c) 1) (by omega) ?_
  refine mj_aload_n (pc' := 406) C dL_law__405 rfl rfl ?_
  refine mj_iload (pc' := 408) C dL_law__406 rfl rfl ?_
  refine mj_iconst (pc' := 409) (v := 2) C dL_law__408 rfl rfl ?_
  refine mj_iadd (pc' := 410) C dL_law__409 rfl ?_
  refine Sc.ld (pc' := 411) dL_law__410 rfl (nI_add (5 * c) 2) (by omega) ?_
  refine mj_aload_n (pc' := 412) C dL_law__411 rfl rfl ?_
  refine mj_iload (pc' := 414) C dL_law__412 rfl rfl ?_
  refine mj_iconst (pc' := 415) (v := 3) C dL_law__414 rfl rfl ?_
  refine mj_iadd (pc' := 416) C dL_law__415 rfl ?_
  refine Sc.ld (pc' := 417) dL_law__416 rfl (nI_add (5 * c) 3) (by omega) ?_
  refine mj_aload_n (pc' := 418) C dL_law__417 rfl rfl ?_
  refine mj_iload (pc' := 420) C dL_law__418 rfl rfl ?_
  refine mj_iconst (pc' := 421) (v := 4) C dL_law__420 rfl rfl ?_
  refine mj_iadd (pc' := 422) C dL_law__421 rfl ?_
  refine Sc.ld (pc' := 423) dL_law__422 rfl (nI_add (5 * c) 4) (by omega) ?_
  refine mj_callVN_4 (ci := 6) (pc' := 426) C (c_X6_law hst S (xs (5 * c + 1)) (xs (5 * c + 2)) (xs (5 * c + 3)) (xs (5 * c + 4))) dL_law__423 rfl km_L_110 ki_yX6_law kz_yX6_law kn_X6 kc_yX6_law rfl (by decide) (by decide) ⟨rfl, by decide, by decide, by decide +kernel⟩ ⟨by decide, by decide⟩ (Nat.le_of_ble_eq_true rfl) ⟨by first | decide | (show _ ≤ (601024 : Nat); omega) | (show _ ≤ (7293034 : Nat); omega), by first | decide | (show _ ≤ (601024 : Nat); omega) | (show _ ≤ (7293034 : Nat); omega)⟩ ⟨rfl, hM1, hA.1⟩ (fun r423 μ423 hq423 hm423 => ?_) (fun _ _ h9 => h9)
  obtain ⟨rfl, h35, hM2, hF2⟩ := hq423
  have hR2 := hR1.kept (fun kd hk => hF2 kd (Or.inl hk))
  have h62 : mN μ423 60 = 1 := (hF2 60 (Or.inr (by omega))).1.trans h61
  dsimp only [Option.toList, List.nil_append, List.cons_append]
  refine mj_aload_n (pc' := 427) C dL_law__426 rfl rfl ?_
  refine mj_callVN_0 (ci := 6) (pc' := 430) C (c_X6_thrown hst (o_law S (xs (5 * c + 1)) (xs (5 * c + 2)) (xs (5 * c + 3)) (xs (5 * c + 4))).2.2) dL_law__427 rfl km_L_96 ki_yX6_thrown kz_yX6_thrown kn_X6 kc_yX6_thrown rfl (by decide) (by decide) ⟨rfl, by decide, by decide, by decide +kernel⟩ ⟨by decide, by decide⟩ (Nat.le_of_ble_eq_true rfl) ⟨by first | decide | (show _ ≤ (601024 : Nat); omega) | (show _ ≤ (7293034 : Nat); omega), by first | decide | (show _ ≤ (601024 : Nat); omega) | (show _ ≤ (7293034 : Nat); omega)⟩ ⟨rfl, hM2⟩ (fun r427 μ427 hq427 hm427 => ?_) (fun _ _ h9 => h9)
  obtain ⟨rfl, rfl⟩ := hq427
  dsimp only [Option.toList, List.nil_append, List.cons_append]
  rw [h35]
  refine mj_iload (pc' := 432) C dL_law__430 rfl rfl ?_
  refine mj_icmp_eq (tgt := 437) (pc' := 435) C dL_law__432 (by decide) rfl (fun _ => ?_) (fun h9 => absurd rfl h9)
  refine mj_goto (pc' := 1582) C dL_law__437 (by decide) ?_
  exact fin _ _ _ _ _ _ hR2 hM2 (A_law hA _ _ _ _) h62 (by omega) (by omega)

set_option maxHeartbeats 2000000 in
set_option maxRecDepth 20000 in
theorem lk_quality {l : Launch} (hst : l.stackTraces = false) {J : Nat → List (Option jV) → List jV → jM → Nat → Nat → Prop} (C : jCtx l J cL_law_ 7 RL room_1 (some FieldType.boolean) 3 [] (fun _ _ => True) (fun _ _ => False) 0 0) {L9 : Nat} {xs : Nat → Int32} (Sc : jSc J cL_law_ L9 xs) (S : jS) (c : Nat) (μ : jM) (hc : c < 512) (hi : 5 * c + 5 ≤ L9) (hR : xR S μ) (hM : mR S μ) (hA : sA S) (h60 : mN μ 60 = 1) (fin : lFin J c) : J 440 [some (aR 61 0), some (aR 0 0), some (aR 20 0), some (aR 60 0), some (aI (nI (5 * c))), none, none] [] μ (196 + 6 * c) (3380 + 60 * c) := by
  refine mj_aload_n (pc' := 441) C dL_law__440 rfl rfl ?_
  refine mj_aload_n (pc' := 442) C dL_law__441 rfl rfl ?_
  refine mj_iload (pc' := 444) C dL_law__442 rfl rfl ?_
  refine mj_iconst (pc' := 445) (v := 1) C dL_law__444 rfl rfl ?_
  refine mj_iadd (pc' := 446) C dL_law__445 rfl ?_
  refine Sc.ld (pc' := 447) dL_law__446 rfl (nI_add (5 * c) 1) (by omega) ?_
  refine mj_aload_n (pc' := 448) C dL_law__447 rfl rfl ?_
  refine mj_iload (pc' := 450) C dL_law__448 rfl rfl ?_
  refine mj_iconst (pc' := 451) (v := 2) C dL_law__450 rfl rfl ?_
  refine mj_iadd (pc' := 452) C dL_law__451 rfl ?_
  refine Sc.ld (pc' := 453) dL_law__452 rfl (nI_add (5 * c) 2) (by omega) ?_
  refine mj_aload_n (pc' := 454) C dL_law__453 rfl rfl ?_
  refine mj_callW_4 (pc' := 457) C (c_L_quality hst S (xs (5 * c + 1)) (xs (5 * c + 2))) dL_law__454 rfl km_L_111 ks_yL_quality kn_L kc_yL_quality ⟨by decide, by decide, by decide +kernel⟩ ⟨by decide, by decide⟩ (Nat.le_of_ble_eq_true rfl) ⟨by first | decide | (show _ ≤ (601024 : Nat); omega) | (show _ ≤ (7293034 : Nat); omega), by first | decide | (show _ ≤ (601024 : Nat); omega) | (show _ ≤ (7293034 : Nat); omega)⟩ ⟨rfl, hR, hA.1, (Nat.lt_of_lt_of_eq Nat.zero_lt_one h60.symm)⟩ (fun r454 μ454 hq454 hm454 => ?_)
  obtain ⟨rfl, hG, hR1, hF1⟩ := hq454
  have hM1 := hM.keptL hF1
  have h61 : mN μ454 60 = 1 := hF1.2.trans h60
  dsimp only [Option.toList, List.nil_append, List.cons_append]
  refine mj_istore_5 (pc' := 459) C dL_law__457 rfl (by decide) rfl ?_
  refine mj_aload_n (pc' := 460) C dL_law__459 rfl rfl ?_
  refine mj_aload_n (pc' := 461) C dL_law__460 rfl rfl ?_
  refine mj_iload (pc' := 463) C dL_law__461 rfl rfl ?_
  refine mj_iconst (pc' := 464) (v := 1) C dL_law__463 rfl rfl ?_
  refine mj_iadd (pc' := 465) C dL_law__464 rfl ?_
  refine Sc.ld (pc' := 466) dL_law__465 rfl (nI_add (5 * c) 1) (by omega) ?_
  refine mj_aload_n (pc' := 467) C dL_law__466 rfl rfl ?_
  refine mj_iload (pc' := 469) C dL_law__467 rfl rfl ?_
  refine mj_iconst (pc' := 470) (v := 2) C dL_law__469 rfl rfl ?_
  refine mj_iadd (pc' := 471) C dL_law__470 rfl ?_
  refine Sc.ld (pc' := 472) dL_law__471 rfl (nI_add (5 * c) 2) (by omega) ?_
  refine mj_callVN_2 (ci := 6) (pc' := 475) C (c_X6_quality hst S (xs (5 * c + 1)) (xs (5 * c + 2))) dL_law__472 rfl km_L_113 ki_yX6_quality kz_yX6_quality kn_X6 kc_yX6_quality rfl (by decide) (by decide) ⟨rfl, by decide, by decide, by decide +kernel⟩ ⟨by decide, by decide⟩ (Nat.le_of_ble_eq_true rfl) ⟨by first | decide | (show _ ≤ (601024 : Nat); omega) | (show _ ≤ (7293034 : Nat); omega), by first | decide | (show _ ≤ (601024 : Nat); omega) | (show _ ≤ (7293034 : Nat); omega)⟩ ⟨rfl, hM1, hA.1⟩ (fun r472 μ472 hq472 hm472 => ?_) (fun _ _ h9 => h9)
  obtain ⟨v, rfl, h35, hv, hM2, hF2⟩ := hq472
  have hR2 := hR1.kept (fun kd hk => hF2 kd (Or.inl hk))
  have h62 : mN μ472 60 = 1 := (hF2 60 (Or.inr (by omega))).1.trans h61
  dsimp only [Option.toList, List.nil_append, List.cons_append]
  refine mj_istore_6 (pc' := 477) C dL_law__475 rfl (by decide) rfl ?_
  refine mj_aload_n (pc' := 478) C dL_law__477 rfl rfl ?_
  refine mj_callVN_0 (ci := 6) (pc' := 481) C (c_X6_thrown hst (o_quality S (xs (5 * c + 1)) (xs (5 * c + 2))).2.2) dL_law__478 rfl km_L_96 ki_yX6_thrown kz_yX6_thrown kn_X6 kc_yX6_thrown rfl (by decide) (by decide) ⟨rfl, by decide, by decide, by decide +kernel⟩ ⟨by decide, by decide⟩ (Nat.le_of_ble_eq_true rfl) ⟨by first | decide | (show _ ≤ (601024 : Nat); omega) | (show _ ≤ (7293034 : Nat); omega), by first | decide | (show _ ≤ (601024 : Nat); omega) | (show _ ≤ (7293034 : Nat); omega)⟩ ⟨rfl, hM2⟩ (fun r478 μ478 hq478 hm478 => ?_) (fun _ _ h9 => h9)
  obtain ⟨rfl, rfl⟩ := hq478
  dsimp only [Option.toList, List.nil_append, List.cons_append]
  rw [h35]
  refine mj_iload (pc' := 483) C dL_law__481 rfl rfl ?_
  refine mj_icmp_eq (tgt := 488) (pc' := 486) C dL_law__483 (by decide) rfl (fun _ => ?_) (fun h9 => absurd rfl h9)
  refine mj_iload (pc' := 490) C dL_law__488 rfl rfl ?_
  refine mj_if_ne (tgt := 505) (pc' := 493) C dL_law__490 (by decide) rfl (fun hz => ?_) (fun hz => ?_)
  · refine mj_goto (pc' := 1582) C dL_law__505 (by decide) ?_
    exact fin _ _ _ _ _ _ hR2 hM2 (sA_s hA (o_quality_s _ _ _)) h62 (by omega) (by omega)
  · have h0 : (o_quality S (xs (5 * c + 1)) (xs (5 * c + 2))).1 = 0 := kA_0 (by rcases o_quality_c S (xs (5 * c + 1)) (xs (5 * c + 2)) with h9 | ⟨h9, -⟩ <;> omega) hz
    refine mj_aload_n (pc' := 494) C dL_law__493 rfl rfl ?_
    refine mj_iconst (pc' := 495) (v := 0) C dL_law__494 rfl rfl ?_
    refine mj_lald (pc' := 496) C dL_law__495 rfl rfl (by decide) (by decide) (Nat.lt_of_lt_of_eq Nat.zero_lt_one h62.symm) (rfl : (0 : Int32) = nI 0) (by decide) ?_
    refine mj_iload (pc' := 498) C dL_law__496 rfl rfl ?_
    refine mj_i2l (pc' := 499) C dL_law__498 rfl ?_
    refine mj_lcmp (pc' := 500) C dL_law__499 rfl ?_
    refine mj_if_eq (tgt := 505) (pc' := 503) C dL_law__500 (by decide) rfl (fun _ => ?_) (fun h9 => absurd (lgz ((((hF2 60 (Or.inr (by omega))).2 0 0).2.2.trans (hG h0)).trans (by rw [hv h0]))) h9)
    refine mj_goto (pc' := 1582) C dL_law__505 (by decide) ?_
    exact fin _ _ _ _ _ _ hR2 hM2 (sA_s hA (o_quality_s _ _ _)) h62 (by omega) (by omega)

set_option maxHeartbeats 2000000 in
set_option maxRecDepth 20000 in
theorem lk_qualityByAll {l : Launch} (hst : l.stackTraces = false) {J : Nat → List (Option jV) → List jV → jM → Nat → Nat → Prop} (C : jCtx l J cL_law_ 7 RL room_1 (some FieldType.boolean) 3 [] (fun _ _ => True) (fun _ _ => False) 0 0) {L9 : Nat} {xs : Nat → Int32} (Sc : jSc J cL_law_ L9 xs) (S : jS) (c : Nat) (μ : jM) (hc : c < 512) (hi : 5 * c + 5 ≤ L9) (hR : xR S μ) (hM : mR S μ) (hA : sA S) (h60 : mN μ 60 = 1) (fin : lFin J c) : J 508 [some (aR 61 0), some (aR 0 0), some (aR 20 0), some (aR 60 0), some (aI (nI (5 * c))), none, none] [] μ (196 + 6 * c) (3380 + 60 * c) := by
  refine mj_aload_n (pc' := 509) C dL_law__508 rfl rfl ?_
  refine mj_aload_n (pc' := 510) C dL_law__509 rfl rfl ?_
  refine mj_iload (pc' := 512) C dL_law__510 rfl rfl ?_
  refine mj_iconst (pc' := 513) (v := 1) C dL_law__512 rfl rfl ?_
  refine mj_iadd (pc' := 514) C dL_law__513 rfl ?_
  refine Sc.ld (pc' := 515) dL_law__514 rfl (nI_add (5 * c) 1) (by omega) ?_
  refine mj_aload_n (pc' := 516) C dL_law__515 rfl rfl ?_
  refine mj_iload (pc' := 518) C dL_law__516 rfl rfl ?_
  refine mj_iconst (pc' := 519) (v := 2) C dL_law__518 rfl rfl ?_
  refine mj_iadd (pc' := 520) C dL_law__519 rfl ?_
  refine Sc.ld (pc' := 521) dL_law__520 rfl (nI_add (5 * c) 2) (by omega) ?_
  refine mj_aload_n (pc' := 522) C dL_law__521 rfl rfl ?_
  refine mj_callW_4 (pc' := 525) C (c_L_qualityByAll hst S (xs (5 * c + 1)) (xs (5 * c + 2))) dL_law__522 rfl km_L_114 ks_yL_qualityByAll kn_L kc_yL_qualityByAll ⟨by decide, by decide, by decide +kernel⟩ ⟨by decide, by decide⟩ (Nat.le_of_ble_eq_true rfl) ⟨by first | decide | (show _ ≤ (601024 : Nat); omega) | (show _ ≤ (7293034 : Nat); omega), by first | decide | (show _ ≤ (601024 : Nat); omega) | (show _ ≤ (7293034 : Nat); omega)⟩ ⟨rfl, hR, hA.1, (Nat.lt_of_lt_of_eq Nat.zero_lt_one h60.symm)⟩ (fun r522 μ522 hq522 hm522 => ?_)
  obtain ⟨rfl, hG, hR1, hF1⟩ := hq522
  have hM1 := hM.keptL hF1
  have h61 : mN μ522 60 = 1 := hF1.2.trans h60
  dsimp only [Option.toList, List.nil_append, List.cons_append]
  refine mj_istore_5 (pc' := 527) C dL_law__525 rfl (by decide) rfl ?_
  refine mj_aload_n (pc' := 528) C dL_law__527 rfl rfl ?_
  refine mj_aload_n (pc' := 529) C dL_law__528 rfl rfl ?_
  refine mj_iload (pc' := 531) C dL_law__529 rfl rfl ?_
  refine mj_iconst (pc' := 532) (v := 1) C dL_law__531 rfl rfl ?_
  refine mj_iadd (pc' := 533) C dL_law__532 rfl ?_
  refine Sc.ld (pc' := 534) dL_law__533 rfl (nI_add (5 * c) 1) (by omega) ?_
  refine mj_aload_n (pc' := 535) C dL_law__534 rfl rfl ?_
  refine mj_iload (pc' := 537) C dL_law__535 rfl rfl ?_
  refine mj_iconst (pc' := 538) (v := 2) C dL_law__537 rfl rfl ?_
  refine mj_iadd (pc' := 539) C dL_law__538 rfl ?_
  refine Sc.ld (pc' := 540) dL_law__539 rfl (nI_add (5 * c) 2) (by omega) ?_
  refine mj_callVN_2 (ci := 6) (pc' := 543) C (c_X6_qualityByAll hst S (xs (5 * c + 1)) (xs (5 * c + 2))) dL_law__540 rfl km_L_116 ki_yX6_qualityByAll kz_yX6_qualityByAll kn_X6 kc_yX6_qualityByAll rfl (by decide) (by decide) ⟨rfl, by decide, by decide, by decide +kernel⟩ ⟨by decide, by decide⟩ (Nat.le_of_ble_eq_true rfl) ⟨by first | decide | (show _ ≤ (601024 : Nat); omega) | (show _ ≤ (7293034 : Nat); omega), by first | decide | (show _ ≤ (601024 : Nat); omega) | (show _ ≤ (7293034 : Nat); omega)⟩ ⟨rfl, hM1, hA.1⟩ (fun r540 μ540 hq540 hm540 => ?_) (fun _ _ h9 => h9)
  obtain ⟨v, rfl, h35, hv, hM2, hF2⟩ := hq540
  have hR2 := hR1.kept (fun kd hk => hF2 kd (Or.inl hk))
  have h62 : mN μ540 60 = 1 := (hF2 60 (Or.inr (by omega))).1.trans h61
  dsimp only [Option.toList, List.nil_append, List.cons_append]
  refine mj_istore_6 (pc' := 545) C dL_law__543 rfl (by decide) rfl ?_
  refine mj_aload_n (pc' := 546) C dL_law__545 rfl rfl ?_
  refine mj_callVN_0 (ci := 6) (pc' := 549) C (c_X6_thrown hst (o_byAll S (xs (5 * c + 1)) (xs (5 * c + 2))).2.2) dL_law__546 rfl km_L_96 ki_yX6_thrown kz_yX6_thrown kn_X6 kc_yX6_thrown rfl (by decide) (by decide) ⟨rfl, by decide, by decide, by decide +kernel⟩ ⟨by decide, by decide⟩ (Nat.le_of_ble_eq_true rfl) ⟨by first | decide | (show _ ≤ (601024 : Nat); omega) | (show _ ≤ (7293034 : Nat); omega), by first | decide | (show _ ≤ (601024 : Nat); omega) | (show _ ≤ (7293034 : Nat); omega)⟩ ⟨rfl, hM2⟩ (fun r546 μ546 hq546 hm546 => ?_) (fun _ _ h9 => h9)
  obtain ⟨rfl, rfl⟩ := hq546
  dsimp only [Option.toList, List.nil_append, List.cons_append]
  rw [h35]
  refine mj_iload (pc' := 551) C dL_law__549 rfl rfl ?_
  refine mj_icmp_eq (tgt := 556) (pc' := 554) C dL_law__551 (by decide) rfl (fun _ => ?_) (fun h9 => absurd rfl h9)
  refine mj_iload (pc' := 558) C dL_law__556 rfl rfl ?_
  refine mj_if_ne (tgt := 573) (pc' := 561) C dL_law__558 (by decide) rfl (fun hz => ?_) (fun hz => ?_)
  · refine mj_goto (pc' := 1582) C dL_law__573 (by decide) ?_
    exact fin _ _ _ _ _ _ hR2 hM2 (sA_s hA (o_byAll_s _ _ _)) h62 (by omega) (by omega)
  · have h0 : (o_byAll S (xs (5 * c + 1)) (xs (5 * c + 2))).1 = 0 := kA_0 (by rcases o_byAll_c S (xs (5 * c + 1)) (xs (5 * c + 2)) with h9 | ⟨h9, -⟩ <;> omega) hz
    refine mj_aload_n (pc' := 562) C dL_law__561 rfl rfl ?_
    refine mj_iconst (pc' := 563) (v := 0) C dL_law__562 rfl rfl ?_
    refine mj_lald (pc' := 564) C dL_law__563 rfl rfl (by decide) (by decide) (Nat.lt_of_lt_of_eq Nat.zero_lt_one h62.symm) (rfl : (0 : Int32) = nI 0) (by decide) ?_
    refine mj_iload (pc' := 566) C dL_law__564 rfl rfl ?_
    refine mj_i2l (pc' := 567) C dL_law__566 rfl ?_
    refine mj_lcmp (pc' := 568) C dL_law__567 rfl ?_
    refine mj_if_eq (tgt := 573) (pc' := 571) C dL_law__568 (by decide) rfl (fun _ => ?_) (fun h9 => absurd (lgz ((((hF2 60 (Or.inr (by omega))).2 0 0).2.2.trans (hG h0)).trans (by rw [hv h0]))) h9)
    refine mj_goto (pc' := 1582) C dL_law__573 (by decide) ?_
    exact fin _ _ _ _ _ _ hR2 hM2 (sA_s hA (o_byAll_s _ _ _)) h62 (by omega) (by omega)

set_option maxHeartbeats 2000000 in
set_option maxRecDepth 20000 in
theorem lk_cost {l : Launch} (hst : l.stackTraces = false) {J : Nat → List (Option jV) → List jV → jM → Nat → Nat → Prop} (C : jCtx l J cL_law_ 7 RL room_1 (some FieldType.boolean) 3 [] (fun _ _ => True) (fun _ _ => False) 0 0) {L9 : Nat} {xs : Nat → Int32} (Sc : jSc J cL_law_ L9 xs) (S : jS) (c : Nat) (μ : jM) (hc : c < 512) (hi : 5 * c + 5 ≤ L9) (hR : xR S μ) (hM : mR S μ) (hA : sA S) (h60 : mN μ 60 = 1) (fin : lFin J c) : J 576 [some (aR 61 0), some (aR 0 0), some (aR 20 0), some (aR 60 0), some (aI (nI (5 * c))), none, none] [] μ (196 + 6 * c) (3380 + 60 * c) := by
  refine mj_aload_n (pc' := 577) C dL_law__576 rfl rfl ?_
  refine mj_aload_n (pc' := 578) C dL_law__577 rfl rfl ?_
  refine mj_iload (pc' := 580) C dL_law__578 rfl rfl ?_
  refine mj_iconst (pc' := 581) (v := 1) C dL_law__580 rfl rfl ?_
  refine mj_iadd (pc' := 582) C dL_law__581 rfl ?_
  refine Sc.ld (pc' := 583) dL_law__582 rfl (nI_add (5 * c) 1) (by omega) ?_
  refine mj_aload_n (pc' := 584) C dL_law__583 rfl rfl ?_
  refine mj_iload (pc' := 586) C dL_law__584 rfl rfl ?_
  refine mj_iconst (pc' := 587) (v := 2) C dL_law__586 rfl rfl ?_
  refine mj_iadd (pc' := 588) C dL_law__587 rfl ?_
  refine Sc.ld (pc' := 589) dL_law__588 rfl (nI_add (5 * c) 2) (by omega) ?_
  refine mj_aload_n (pc' := 590) C dL_law__589 rfl rfl ?_
  refine mj_callW_4 (pc' := 593) C (c_L_cost hst S (xs (5 * c + 1)) (xs (5 * c + 2))) dL_law__590 rfl km_L_117 ks_yL_cost kn_L kc_yL_cost ⟨by decide, by decide, by decide +kernel⟩ ⟨by decide, by decide⟩ (Nat.le_of_ble_eq_true rfl) ⟨by first | decide | (show _ ≤ (601024 : Nat); omega) | (show _ ≤ (7293034 : Nat); omega), by first | decide | (show _ ≤ (601024 : Nat); omega) | (show _ ≤ (7293034 : Nat); omega)⟩ ⟨rfl, hR, hA.1, (Nat.lt_of_lt_of_eq Nat.zero_lt_one h60.symm)⟩ (fun r590 μ590 hq590 hm590 => ?_)
  obtain ⟨rfl, hG, hR1, hF1⟩ := hq590
  have hM1 := hM.keptL hF1
  have h61 : mN μ590 60 = 1 := hF1.2.trans h60
  dsimp only [Option.toList, List.nil_append, List.cons_append]
  refine mj_istore_5 (pc' := 595) C dL_law__593 rfl (by decide) rfl ?_
  refine mj_aload_n (pc' := 596) C dL_law__595 rfl rfl ?_
  refine mj_aload_n (pc' := 597) C dL_law__596 rfl rfl ?_
  refine mj_iload (pc' := 599) C dL_law__597 rfl rfl ?_
  refine mj_iconst (pc' := 600) (v := 1) C dL_law__599 rfl rfl ?_
  refine mj_iadd (pc' := 601) C dL_law__600 rfl ?_
  refine Sc.ld (pc' := 602) dL_law__601 rfl (nI_add (5 * c) 1) (by omega) ?_
  refine mj_aload_n (pc' := 603) C dL_law__602 rfl rfl ?_
  refine mj_iload (pc' := 605) C dL_law__603 rfl rfl ?_
  refine mj_iconst (pc' := 606) (v := 2) C dL_law__605 rfl rfl ?_
  refine mj_iadd (pc' := 607) C dL_law__606 rfl ?_
  refine Sc.ld (pc' := 608) dL_law__607 rfl (nI_add (5 * c) 2) (by omega) ?_
  refine mj_callVN_2 (ci := 6) (pc' := 611) C (c_X6_cost hst S (xs (5 * c + 1)) (xs (5 * c + 2))) dL_law__608 rfl km_L_119 ki_yX6_cost kz_yX6_cost kn_X6 kc_yX6_cost rfl (by decide) (by decide) ⟨rfl, by decide, by decide, by decide +kernel⟩ ⟨by decide, by decide⟩ (Nat.le_of_ble_eq_true rfl) ⟨by first | decide | (show _ ≤ (601024 : Nat); omega) | (show _ ≤ (7293034 : Nat); omega), by first | decide | (show _ ≤ (601024 : Nat); omega) | (show _ ≤ (7293034 : Nat); omega)⟩ ⟨rfl, hM1, hA.1⟩ (fun r608 μ608 hq608 hm608 => ?_) (fun _ _ h9 => h9)
  obtain ⟨v, rfl, h35, hv, hM2, hF2⟩ := hq608
  have hR2 := hR1.kept (fun kd hk => hF2 kd (Or.inl hk))
  have h62 : mN μ608 60 = 1 := (hF2 60 (Or.inr (by omega))).1.trans h61
  dsimp only [Option.toList, List.nil_append, List.cons_append]
  refine mj_istore_6 (pc' := 613) C dL_law__611 rfl (by decide) rfl ?_
  refine mj_aload_n (pc' := 614) C dL_law__613 rfl rfl ?_
  refine mj_callVN_0 (ci := 6) (pc' := 617) C (c_X6_thrown hst (o_cost S (xs (5 * c + 1)) (xs (5 * c + 2))).2.2) dL_law__614 rfl km_L_96 ki_yX6_thrown kz_yX6_thrown kn_X6 kc_yX6_thrown rfl (by decide) (by decide) ⟨rfl, by decide, by decide, by decide +kernel⟩ ⟨by decide, by decide⟩ (Nat.le_of_ble_eq_true rfl) ⟨by first | decide | (show _ ≤ (601024 : Nat); omega) | (show _ ≤ (7293034 : Nat); omega), by first | decide | (show _ ≤ (601024 : Nat); omega) | (show _ ≤ (7293034 : Nat); omega)⟩ ⟨rfl, hM2⟩ (fun r614 μ614 hq614 hm614 => ?_) (fun _ _ h9 => h9)
  obtain ⟨rfl, rfl⟩ := hq614
  dsimp only [Option.toList, List.nil_append, List.cons_append]
  rw [h35]
  refine mj_iload (pc' := 619) C dL_law__617 rfl rfl ?_
  refine mj_icmp_eq (tgt := 624) (pc' := 622) C dL_law__619 (by decide) rfl (fun _ => ?_) (fun h9 => absurd rfl h9)
  refine mj_iload (pc' := 626) C dL_law__624 rfl rfl ?_
  refine mj_if_ne (tgt := 641) (pc' := 629) C dL_law__626 (by decide) rfl (fun hz => ?_) (fun hz => ?_)
  · refine mj_goto (pc' := 1582) C dL_law__641 (by decide) ?_
    exact fin _ _ _ _ _ _ hR2 hM2 (sA_s hA (o_cost_s _ _ _)) h62 (by omega) (by omega)
  · have h0 : (o_cost S (xs (5 * c + 1)) (xs (5 * c + 2))).1 = 0 := kA_0 (by rcases o_cost_c S (xs (5 * c + 1)) (xs (5 * c + 2)) with h9 | ⟨h9, -⟩ <;> omega) hz
    refine mj_aload_n (pc' := 630) C dL_law__629 rfl rfl ?_
    refine mj_iconst (pc' := 631) (v := 0) C dL_law__630 rfl rfl ?_
    refine mj_lald (pc' := 632) C dL_law__631 rfl rfl (by decide) (by decide) (Nat.lt_of_lt_of_eq Nat.zero_lt_one h62.symm) (rfl : (0 : Int32) = nI 0) (by decide) ?_
    refine mj_iload (pc' := 634) C dL_law__632 rfl rfl ?_
    refine mj_i2l (pc' := 635) C dL_law__634 rfl ?_
    refine mj_lcmp (pc' := 636) C dL_law__635 rfl ?_
    refine mj_if_eq (tgt := 641) (pc' := 639) C dL_law__636 (by decide) rfl (fun _ => ?_) (fun h9 => absurd (lgz ((((hF2 60 (Or.inr (by omega))).2 0 0).2.2.trans (hG h0)).trans (by rw [hv h0]))) h9)
    refine mj_goto (pc' := 1582) C dL_law__641 (by decide) ?_
    exact fin _ _ _ _ _ _ hR2 hM2 (sA_s hA (o_cost_s _ _ _)) h62 (by omega) (by omega)

set_option maxHeartbeats 2000000 in
set_option maxRecDepth 20000 in
theorem lk_stepAt {l : Launch} (hst : l.stackTraces = false) {J : Nat → List (Option jV) → List jV → jM → Nat → Nat → Prop} (C : jCtx l J cL_law_ 7 RL room_1 (some FieldType.boolean) 3 [] (fun _ _ => True) (fun _ _ => False) 0 0) {L9 : Nat} {xs : Nat → Int32} (Sc : jSc J cL_law_ L9 xs) (S : jS) (c : Nat) (μ : jM) (hc : c < 512) (hi : 5 * c + 5 ≤ L9) (hR : xR S μ) (hM : mR S μ) (hA : sA S) (h60 : mN μ 60 = 1) (fin : lFin J c) : J 644 [some (aR 61 0), some (aR 0 0), some (aR 20 0), some (aR 60 0), some (aI (nI (5 * c))), none, none] [] μ (196 + 6 * c) (3380 + 60 * c) := by
  refine mj_aload_n (pc' := 645) C dL_law__644 rfl rfl ?_
  refine mj_aload_n (pc' := 646) C dL_law__645 rfl rfl ?_
  refine mj_iload (pc' := 648) C dL_law__646 rfl rfl ?_
  refine mj_iconst (pc' := 649) (v := 1) C dL_law__648 rfl rfl ?_
  refine mj_iadd (pc' := 650) C dL_law__649 rfl ?_
  refine Sc.ld (pc' := 651) dL_law__650 rfl (nI_add (5 * c) 1) (by omega) ?_
  refine mj_aload_n (pc' := 652) C dL_law__651 rfl rfl ?_
  refine mj_iload (pc' := 654) C dL_law__652 rfl rfl ?_
  refine mj_iconst (pc' := 655) (v := 2) C dL_law__654 rfl rfl ?_
  refine mj_iadd (pc' := 656) C dL_law__655 rfl ?_
  refine Sc.ld (pc' := 657) dL_law__656 rfl (nI_add (5 * c) 2) (by omega) ?_
  refine mj_aload_n (pc' := 658) C dL_law__657 rfl rfl ?_
  refine mj_iload (pc' := 660) C dL_law__658 rfl rfl ?_
  refine mj_iconst (pc' := 661) (v := 3) C dL_law__660 rfl rfl ?_
  refine mj_iadd (pc' := 662) C dL_law__661 rfl ?_
  refine Sc.ld (pc' := 663) dL_law__662 rfl (nI_add (5 * c) 3) (by omega) ?_
  refine mj_aload_n (pc' := 664) C dL_law__663 rfl rfl ?_
  refine mj_callW_5 (pc' := 667) C (c_L_stepAt hst S (xs (5 * c + 1)) (xs (5 * c + 2)) (xs (5 * c + 3))) dL_law__664 rfl km_L_120 ks_yL_stepAt kn_L kc_yL_stepAt ⟨by decide, by decide, by decide +kernel⟩ ⟨by decide, by decide⟩ (Nat.le_of_ble_eq_true rfl) ⟨by first | decide | (show _ ≤ (601024 : Nat); omega) | (show _ ≤ (7293034 : Nat); omega), by first | decide | (show _ ≤ (601024 : Nat); omega) | (show _ ≤ (7293034 : Nat); omega)⟩ ⟨rfl, hR, hA.1, (Nat.lt_of_lt_of_eq Nat.zero_lt_one h60.symm)⟩ (fun r664 μ664 hq664 hm664 => ?_)
  obtain ⟨rfl, hG, hR1, hF1⟩ := hq664
  have hM1 := hM.keptL hF1
  have h61 : mN μ664 60 = 1 := hF1.2.trans h60
  dsimp only [Option.toList, List.nil_append, List.cons_append]
  refine mj_istore_5 (pc' := 669) C dL_law__667 rfl (by decide) rfl ?_
  refine mj_aload_n (pc' := 670) C dL_law__669 rfl rfl ?_
  refine mj_aload_n (pc' := 671) C dL_law__670 rfl rfl ?_
  refine mj_iload (pc' := 673) C dL_law__671 rfl rfl ?_
  refine mj_iconst (pc' := 674) (v := 1) C dL_law__673 rfl rfl ?_
  refine mj_iadd (pc' := 675) C dL_law__674 rfl ?_
  refine Sc.ld (pc' := 676) dL_law__675 rfl (nI_add (5 * c) 1) (by omega) ?_
  refine mj_aload_n (pc' := 677) C dL_law__676 rfl rfl ?_
  refine mj_iload (pc' := 679) C dL_law__677 rfl rfl ?_
  refine mj_iconst (pc' := 680) (v := 2) C dL_law__679 rfl rfl ?_
  refine mj_iadd (pc' := 681) C dL_law__680 rfl ?_
  refine Sc.ld (pc' := 682) dL_law__681 rfl (nI_add (5 * c) 2) (by omega) ?_
  refine mj_aload_n (pc' := 683) C dL_law__682 rfl rfl ?_
  refine mj_iload (pc' := 685) C dL_law__683 rfl rfl ?_
  refine mj_iconst (pc' := 686) (v := 3) C dL_law__685 rfl rfl ?_
  refine mj_iadd (pc' := 687) C dL_law__686 rfl ?_
  refine Sc.ld (pc' := 688) dL_law__687 rfl (nI_add (5 * c) 3) (by omega) ?_
  refine mj_callVN_3 (ci := 6) (pc' := 691) C (c_X6_stepAt hst S (xs (5 * c + 1)) (xs (5 * c + 2)) (xs (5 * c + 3))) dL_law__688 rfl km_L_123 ki_yX6_stepAt kz_yX6_stepAt kn_X6 kc_yX6_stepAt rfl (by decide) (by decide) ⟨rfl, by decide, by decide, by decide +kernel⟩ ⟨by decide, by decide⟩ (Nat.le_of_ble_eq_true rfl) ⟨by first | decide | (show _ ≤ (601024 : Nat); omega) | (show _ ≤ (7293034 : Nat); omega), by first | decide | (show _ ≤ (601024 : Nat); omega) | (show _ ≤ (7293034 : Nat); omega)⟩ ⟨rfl, hM1, hA.1⟩ (fun r688 μ688 hq688 hm688 => ?_) (fun _ _ h9 => h9)
  obtain ⟨v, rfl, h35, hv, hM2, hF2⟩ := hq688
  have hR2 := hR1.kept (fun kd hk => hF2 kd (Or.inl hk))
  have h62 : mN μ688 60 = 1 := (hF2 60 (Or.inr (by omega))).1.trans h61
  dsimp only [Option.toList, List.nil_append, List.cons_append]
  refine mj_istore_6 (pc' := 693) C dL_law__691 rfl (by decide) rfl ?_
  refine mj_aload_n (pc' := 694) C dL_law__693 rfl rfl ?_
  refine mj_callVN_0 (ci := 6) (pc' := 697) C (c_X6_thrown hst (o_stepAt S (xs (5 * c + 1)) (xs (5 * c + 2)) (xs (5 * c + 3))).2.2) dL_law__694 rfl km_L_96 ki_yX6_thrown kz_yX6_thrown kn_X6 kc_yX6_thrown rfl (by decide) (by decide) ⟨rfl, by decide, by decide, by decide +kernel⟩ ⟨by decide, by decide⟩ (Nat.le_of_ble_eq_true rfl) ⟨by first | decide | (show _ ≤ (601024 : Nat); omega) | (show _ ≤ (7293034 : Nat); omega), by first | decide | (show _ ≤ (601024 : Nat); omega) | (show _ ≤ (7293034 : Nat); omega)⟩ ⟨rfl, hM2⟩ (fun r694 μ694 hq694 hm694 => ?_) (fun _ _ h9 => h9)
  obtain ⟨rfl, rfl⟩ := hq694
  dsimp only [Option.toList, List.nil_append, List.cons_append]
  rw [h35]
  refine mj_iload (pc' := 699) C dL_law__697 rfl rfl ?_
  refine mj_icmp_eq (tgt := 704) (pc' := 702) C dL_law__699 (by decide) rfl (fun _ => ?_) (fun h9 => absurd rfl h9)
  refine mj_iload (pc' := 706) C dL_law__704 rfl rfl ?_
  refine mj_if_ne (tgt := 721) (pc' := 709) C dL_law__706 (by decide) rfl (fun hz => ?_) (fun hz => ?_)
  · refine mj_goto (pc' := 1582) C dL_law__721 (by decide) ?_
    exact fin _ _ _ _ _ _ hR2 hM2 (sA_s hA (o_stepAt_s _ _ _ _)) h62 (by omega) (by omega)
  · have h0 : (o_stepAt S (xs (5 * c + 1)) (xs (5 * c + 2)) (xs (5 * c + 3))).1 = 0 := kA_0 (by rcases o_stepAt_c S (xs (5 * c + 1)) (xs (5 * c + 2)) (xs (5 * c + 3)) with h9 | ⟨h9, -⟩ <;> omega) hz
    refine mj_aload_n (pc' := 710) C dL_law__709 rfl rfl ?_
    refine mj_iconst (pc' := 711) (v := 0) C dL_law__710 rfl rfl ?_
    refine mj_lald (pc' := 712) C dL_law__711 rfl rfl (by decide) (by decide) (Nat.lt_of_lt_of_eq Nat.zero_lt_one h62.symm) (rfl : (0 : Int32) = nI 0) (by decide) ?_
    refine mj_iload (pc' := 714) C dL_law__712 rfl rfl ?_
    refine mj_i2l (pc' := 715) C dL_law__714 rfl ?_
    refine mj_lcmp (pc' := 716) C dL_law__715 rfl ?_
    refine mj_if_eq (tgt := 721) (pc' := 719) C dL_law__716 (by decide) rfl (fun _ => ?_) (fun h9 => absurd (lgz ((((hF2 60 (Or.inr (by omega))).2 0 0).2.2.trans (hG h0)).trans (by rw [hv h0]))) h9)
    refine mj_goto (pc' := 1582) C dL_law__721 (by decide) ?_
    exact fin _ _ _ _ _ _ hR2 hM2 (sA_s hA (o_stepAt_s _ _ _ _)) h62 (by omega) (by omega)

set_option maxHeartbeats 2000000 in
set_option maxRecDepth 20000 in
theorem lk_file {l : Launch} (hst : l.stackTraces = false) {J : Nat → List (Option jV) → List jV → jM → Nat → Nat → Prop} (C : jCtx l J cL_law_ 7 RL room_1 (some FieldType.boolean) 3 [] (fun _ _ => True) (fun _ _ => False) 0 0) {L9 : Nat} {xs : Nat → Int32} (Sc : jSc J cL_law_ L9 xs) (S : jS) (c : Nat) (μ : jM) (hc : c < 512) (hi : 5 * c + 5 ≤ L9) (hR : xR S μ) (hM : mR S μ) (hA : sA S) (h60 : mN μ 60 = 1) (fin : lFin J c) : J 724 [some (aR 61 0), some (aR 0 0), some (aR 20 0), some (aR 60 0), some (aI (nI (5 * c))), none, none] [] μ (196 + 6 * c) (3380 + 60 * c) := by
  refine mj_aload_n (pc' := 725) C dL_law__724 rfl rfl ?_
  refine mj_aload_n (pc' := 726) C dL_law__725 rfl rfl ?_
  refine mj_iload (pc' := 728) C dL_law__726 rfl rfl ?_
  refine mj_iconst (pc' := 729) (v := 1) C dL_law__728 rfl rfl ?_
  refine mj_iadd (pc' := 730) C dL_law__729 rfl ?_
  refine Sc.ld (pc' := 731) dL_law__730 rfl (nI_add (5 * c) 1) (by omega) ?_
  refine mj_aload_n (pc' := 732) C dL_law__731 rfl rfl ?_
  refine mj_iload (pc' := 734) C dL_law__732 rfl rfl ?_
  refine mj_iconst (pc' := 735) (v := 2) C dL_law__734 rfl rfl ?_
  refine mj_iadd (pc' := 736) C dL_law__735 rfl ?_
  refine Sc.ld (pc' := 737) dL_law__736 rfl (nI_add (5 * c) 2) (by omega) ?_
  refine mj_aload_n (pc' := 738) C dL_law__737 rfl rfl ?_
  refine mj_iload (pc' := 740) C dL_law__738 rfl rfl ?_
  refine mj_iconst (pc' := 741) (v := 3) C dL_law__740 rfl rfl ?_
  refine mj_iadd (pc' := 742) C dL_law__741 rfl ?_
  refine Sc.ld (pc' := 743) dL_law__742 rfl (nI_add (5 * c) 3) (by omega) ?_
  refine mj_aload_n (pc' := 744) C dL_law__743 rfl rfl ?_
  refine mj_callW_5 (pc' := 747) C (c_L_file hst S (xs (5 * c + 1)) (xs (5 * c + 2)) (xs (5 * c + 3))) dL_law__744 rfl km_L_124 ks_yL_file kn_L kc_yL_file ⟨by decide, by decide, by decide +kernel⟩ ⟨by decide, by decide⟩ (Nat.le_of_ble_eq_true rfl) ⟨by first | decide | (show _ ≤ (601024 : Nat); omega) | (show _ ≤ (7293034 : Nat); omega), by first | decide | (show _ ≤ (601024 : Nat); omega) | (show _ ≤ (7293034 : Nat); omega)⟩ ⟨rfl, hR, hA.1, (Nat.lt_of_lt_of_eq Nat.zero_lt_one h60.symm)⟩ (fun r744 μ744 hq744 hm744 => ?_)
  obtain ⟨rfl, hG, hR1, hF1⟩ := hq744
  have hM1 := hM.keptL hF1
  have h61 : mN μ744 60 = 1 := hF1.2.trans h60
  dsimp only [Option.toList, List.nil_append, List.cons_append]
  refine mj_istore_5 (pc' := 749) C dL_law__747 rfl (by decide) rfl ?_
  refine mj_aload_n (pc' := 750) C dL_law__749 rfl rfl ?_
  refine mj_aload_n (pc' := 751) C dL_law__750 rfl rfl ?_
  refine mj_iload (pc' := 753) C dL_law__751 rfl rfl ?_
  refine mj_iconst (pc' := 754) (v := 1) C dL_law__753 rfl rfl ?_
  refine mj_iadd (pc' := 755) C dL_law__754 rfl ?_
  refine Sc.ld (pc' := 756) dL_law__755 rfl (nI_add (5 * c) 1) (by omega) ?_
  refine mj_aload_n (pc' := 757) C dL_law__756 rfl rfl ?_
  refine mj_iload (pc' := 759) C dL_law__757 rfl rfl ?_
  refine mj_iconst (pc' := 760) (v := 2) C dL_law__759 rfl rfl ?_
  refine mj_iadd (pc' := 761) C dL_law__760 rfl ?_
  refine Sc.ld (pc' := 762) dL_law__761 rfl (nI_add (5 * c) 2) (by omega) ?_
  refine mj_aload_n (pc' := 763) C dL_law__762 rfl rfl ?_
  refine mj_iload (pc' := 765) C dL_law__763 rfl rfl ?_
  refine mj_iconst (pc' := 766) (v := 3) C dL_law__765 rfl rfl ?_
  refine mj_iadd (pc' := 767) C dL_law__766 rfl ?_
  refine Sc.ld (pc' := 768) dL_law__767 rfl (nI_add (5 * c) 3) (by omega) ?_
  refine mj_callVN_3 (ci := 6) (pc' := 771) C (c_X6_file hst S (xs (5 * c + 1)) (xs (5 * c + 2)) (xs (5 * c + 3))) dL_law__768 rfl km_L_126 ki_yX6_file kz_yX6_file kn_X6 kc_yX6_file rfl (by decide) (by decide) ⟨rfl, by decide, by decide, by decide +kernel⟩ ⟨by decide, by decide⟩ (Nat.le_of_ble_eq_true rfl) ⟨by first | decide | (show _ ≤ (601024 : Nat); omega) | (show _ ≤ (7293034 : Nat); omega), by first | decide | (show _ ≤ (601024 : Nat); omega) | (show _ ≤ (7293034 : Nat); omega)⟩ ⟨rfl, hM1, hA.1⟩ (fun r768 μ768 hq768 hm768 => ?_) (fun _ _ h9 => h9)
  obtain ⟨v, rfl, h35, hv, hM2, hF2⟩ := hq768
  have hR2 := hR1.kept (fun kd hk => hF2 kd (Or.inl hk))
  have h62 : mN μ768 60 = 1 := (hF2 60 (Or.inr (by omega))).1.trans h61
  dsimp only [Option.toList, List.nil_append, List.cons_append]
  refine mj_istore_6 (pc' := 773) C dL_law__771 rfl (by decide) rfl ?_
  refine mj_aload_n (pc' := 774) C dL_law__773 rfl rfl ?_
  refine mj_callVN_0 (ci := 6) (pc' := 777) C (c_X6_thrown hst (o_file S (xs (5 * c + 1)) (xs (5 * c + 2)) (xs (5 * c + 3))).2.2) dL_law__774 rfl km_L_96 ki_yX6_thrown kz_yX6_thrown kn_X6 kc_yX6_thrown rfl (by decide) (by decide) ⟨rfl, by decide, by decide, by decide +kernel⟩ ⟨by decide, by decide⟩ (Nat.le_of_ble_eq_true rfl) ⟨by first | decide | (show _ ≤ (601024 : Nat); omega) | (show _ ≤ (7293034 : Nat); omega), by first | decide | (show _ ≤ (601024 : Nat); omega) | (show _ ≤ (7293034 : Nat); omega)⟩ ⟨rfl, hM2⟩ (fun r774 μ774 hq774 hm774 => ?_) (fun _ _ h9 => h9)
  obtain ⟨rfl, rfl⟩ := hq774
  dsimp only [Option.toList, List.nil_append, List.cons_append]
  rw [h35]
  refine mj_iload (pc' := 779) C dL_law__777 rfl rfl ?_
  refine mj_icmp_eq (tgt := 784) (pc' := 782) C dL_law__779 (by decide) rfl (fun _ => ?_) (fun h9 => absurd rfl h9)
  refine mj_iload (pc' := 786) C dL_law__784 rfl rfl ?_
  refine mj_if_ne (tgt := 801) (pc' := 789) C dL_law__786 (by decide) rfl (fun hz => ?_) (fun hz => ?_)
  · refine mj_goto (pc' := 1582) C dL_law__801 (by decide) ?_
    exact fin _ _ _ _ _ _ hR2 hM2 (A_file hA _ _ _) h62 (by omega) (by omega)
  · have h0 : (o_file S (xs (5 * c + 1)) (xs (5 * c + 2)) (xs (5 * c + 3))).1 = 0 := kA_0 (by rcases o_file_c S (xs (5 * c + 1)) (xs (5 * c + 2)) (xs (5 * c + 3)) with h9 | ⟨h9, -⟩ | ⟨h9, -⟩ | ⟨h9, -⟩ <;> omega) hz
    refine mj_aload_n (pc' := 790) C dL_law__789 rfl rfl ?_
    refine mj_iconst (pc' := 791) (v := 0) C dL_law__790 rfl rfl ?_
    refine mj_lald (pc' := 792) C dL_law__791 rfl rfl (by decide) (by decide) (Nat.lt_of_lt_of_eq Nat.zero_lt_one h62.symm) (rfl : (0 : Int32) = nI 0) (by decide) ?_
    refine mj_iload (pc' := 794) C dL_law__792 rfl rfl ?_
    refine mj_i2l (pc' := 795) C dL_law__794 rfl ?_
    refine mj_lcmp (pc' := 796) C dL_law__795 rfl ?_
    refine mj_if_eq (tgt := 801) (pc' := 799) C dL_law__796 (by decide) rfl (fun _ => ?_) (fun h9 => absurd (lgz ((((hF2 60 (Or.inr (by omega))).2 0 0).2.2.trans (hG h0)).trans (by rw [hv h0]))) h9)
    refine mj_goto (pc' := 1582) C dL_law__801 (by decide) ?_
    exact fin _ _ _ _ _ _ hR2 hM2 (A_file hA _ _ _) h62 (by omega) (by omega)

set_option maxHeartbeats 2000000 in
set_option maxRecDepth 20000 in
theorem lk_hold {l : Launch} (hst : l.stackTraces = false) {J : Nat → List (Option jV) → List jV → jM → Nat → Nat → Prop} (C : jCtx l J cL_law_ 7 RL room_1 (some FieldType.boolean) 3 [] (fun _ _ => True) (fun _ _ => False) 0 0) {L9 : Nat} {xs : Nat → Int32} (Sc : jSc J cL_law_ L9 xs) (S : jS) (c : Nat) (μ : jM) (hc : c < 512) (hi : 5 * c + 5 ≤ L9) (hR : xR S μ) (hM : mR S μ) (hA : sA S) (h60 : mN μ 60 = 1) (fin : lFin J c) : J 804 [some (aR 61 0), some (aR 0 0), some (aR 20 0), some (aR 60 0), some (aI (nI (5 * c))), none, none] [] μ (196 + 6 * c) (3380 + 60 * c) := by
  obtain ⟨w9, e9⟩ : ∃ w9 : Int32, w9 = b1 (¬ xs (5 * c + 2) = 0) := ⟨_, rfl⟩
  have hv9 : w9 = 0 ∨ w9 = 1 := by
    rw [e9]
    unfold b1
    split
    · exact Or.inr rfl
    · exact Or.inl rfl
  refine mj_aload_n (pc' := 805) C dL_law__804 rfl rfl ?_
  refine mj_aload_n (pc' := 806) C dL_law__805 rfl rfl ?_
  refine mj_iload (pc' := 808) C dL_law__806 rfl rfl ?_
  refine mj_iconst (pc' := 809) (v := 1) C dL_law__808 rfl rfl ?_
  refine mj_iadd (pc' := 810) C dL_law__809 rfl ?_
  refine Sc.ld (pc' := 811) dL_law__810 rfl (nI_add (5 * c) 1) (by omega) ?_
  refine mj_aload_n (pc' := 812) C dL_law__811 rfl rfl ?_
  refine mj_iload (pc' := 814) C dL_law__812 rfl rfl ?_
  refine mj_iconst (pc' := 815) (v := 2) C dL_law__814 rfl rfl ?_
  refine mj_iadd (pc' := 816) C dL_law__815 rfl ?_
  refine Sc.ld (pc' := 817) dL_law__816 rfl (nI_add (5 * c) 2) (by omega) ?_
  refine jn (tgt := 825) (v := aI w9) (st := [aI (xs (5 * c + 1)), aR 0 0]) (fun K817 => ?_) ?_
  · refine mj_if_eq (tgt := 824) (pc' := 820) C dL_law__817 (by decide) rfl (fun h817 => ?_) (fun h817 => ?_)
    · have ej : w9 = 0 := e9.trans (b1_f (fun q => q h817))
      subst ej
      refine mj_iconst (pc' := 825) (v := 0) C dL_law__824 rfl rfl ?_
      exact K817
    · have ej : w9 = 1 := e9.trans (b1_t h817)
      subst ej
      refine mj_iconst (pc' := 821) (v := 1) C dL_law__820 rfl rfl ?_
      refine mj_goto (pc' := 825) C dL_law__821 (by decide) ?_
      exact K817
  refine mj_aload_n (pc' := 826) C dL_law__825 rfl rfl ?_
  refine mj_callW_4 (pc' := 829) C (c_L_hold hst S (xs (5 * c + 1)) w9) dL_law__826 rfl km_L_127 ks_yL_hold kn_L kc_yL_hold ⟨by decide, by decide, by decide +kernel⟩ ⟨by decide, by decide⟩ (Nat.le_of_ble_eq_true rfl) ⟨by first | decide | (show _ ≤ (601024 : Nat); omega) | (show _ ≤ (7293034 : Nat); omega), by first | decide | (show _ ≤ (601024 : Nat); omega) | (show _ ≤ (7293034 : Nat); omega)⟩ ⟨rfl, hR, hA.1, (Nat.lt_of_lt_of_eq Nat.zero_lt_one h60.symm), hv9⟩ (fun r826 μ826 hq826 hm826 => ?_)
  obtain ⟨rfl, hG, hR1, hF1⟩ := hq826
  have hM1 := hM.keptL hF1
  have h61 : mN μ826 60 = 1 := hF1.2.trans h60
  dsimp only [Option.toList, List.nil_append, List.cons_append]
  refine mj_istore_5 (pc' := 831) C dL_law__829 rfl (by decide) rfl ?_
  refine mj_aload_n (pc' := 832) C dL_law__831 rfl rfl ?_
  refine mj_aload_n (pc' := 833) C dL_law__832 rfl rfl ?_
  refine mj_iload (pc' := 835) C dL_law__833 rfl rfl ?_
  refine mj_iconst (pc' := 836) (v := 1) C dL_law__835 rfl rfl ?_
  refine mj_iadd (pc' := 837) C dL_law__836 rfl ?_
  refine Sc.ld (pc' := 838) dL_law__837 rfl (nI_add (5 * c) 1) (by omega) ?_
  refine mj_aload_n (pc' := 839) C dL_law__838 rfl rfl ?_
  refine mj_iload (pc' := 841) C dL_law__839 rfl rfl ?_
  refine mj_iconst (pc' := 842) (v := 2) C dL_law__841 rfl rfl ?_
  refine mj_iadd (pc' := 843) C dL_law__842 rfl ?_
  refine Sc.ld (pc' := 844) dL_law__843 rfl (nI_add (5 * c) 2) (by omega) ?_
  refine jn (tgt := 852) (v := aI w9) (st := [aI (xs (5 * c + 1)), aR 20 0]) (fun K844 => ?_) ?_
  · refine mj_if_eq (tgt := 851) (pc' := 847) C dL_law__844 (by decide) rfl (fun h844 => ?_) (fun h844 => ?_)
    · have ej : w9 = 0 := e9.trans (b1_f (fun q => q h844))
      subst ej
      refine mj_iconst (pc' := 852) (v := 0) C dL_law__851 rfl rfl ?_
      exact K844
    · have ej : w9 = 1 := e9.trans (b1_t h844)
      subst ej
      refine mj_iconst (pc' := 848) (v := 1) C dL_law__847 rfl rfl ?_
      refine mj_goto (pc' := 852) C dL_law__848 (by decide) ?_
      exact K844
  refine mj_callVN_2 (ci := 6) (pc' := 855) C (c_X6_hold hst S (xs (5 * c + 1)) w9) dL_law__852 rfl km_L_130 ki_yX6_hold kz_yX6_hold kn_X6 kc_yX6_hold rfl (by decide) (by decide) ⟨rfl, by decide, by decide, by decide +kernel⟩ ⟨by decide, by decide⟩ (Nat.le_of_ble_eq_true rfl) ⟨by first | decide | (show _ ≤ (601024 : Nat); omega) | (show _ ≤ (7293034 : Nat); omega), by first | decide | (show _ ≤ (601024 : Nat); omega) | (show _ ≤ (7293034 : Nat); omega)⟩ ⟨rfl, hM1, hA.1, hv9⟩ (fun r852 μ852 hq852 hm852 => ?_) (fun _ _ h9 => h9)
  obtain ⟨v, rfl, h35, hv, hM2, hF2⟩ := hq852
  have hR2 := hR1.kept (fun kd hk => hF2 kd (Or.inl hk))
  have h62 : mN μ852 60 = 1 := (hF2 60 (Or.inr (by omega))).1.trans h61
  dsimp only [Option.toList, List.nil_append, List.cons_append]
  refine mj_istore_6 (pc' := 857) C dL_law__855 rfl (by decide) rfl ?_
  refine mj_aload_n (pc' := 858) C dL_law__857 rfl rfl ?_
  refine mj_callVN_0 (ci := 6) (pc' := 861) C (c_X6_thrown hst (o_hold S (xs (5 * c + 1)) w9).2.2) dL_law__858 rfl km_L_96 ki_yX6_thrown kz_yX6_thrown kn_X6 kc_yX6_thrown rfl (by decide) (by decide) ⟨rfl, by decide, by decide, by decide +kernel⟩ ⟨by decide, by decide⟩ (Nat.le_of_ble_eq_true rfl) ⟨by first | decide | (show _ ≤ (601024 : Nat); omega) | (show _ ≤ (7293034 : Nat); omega), by first | decide | (show _ ≤ (601024 : Nat); omega) | (show _ ≤ (7293034 : Nat); omega)⟩ ⟨rfl, hM2⟩ (fun r858 μ858 hq858 hm858 => ?_) (fun _ _ h9 => h9)
  obtain ⟨rfl, rfl⟩ := hq858
  dsimp only [Option.toList, List.nil_append, List.cons_append]
  rw [h35]
  refine mj_iload (pc' := 863) C dL_law__861 rfl rfl ?_
  refine mj_icmp_eq (tgt := 868) (pc' := 866) C dL_law__863 (by decide) rfl (fun _ => ?_) (fun h9 => absurd rfl h9)
  refine mj_iload (pc' := 870) C dL_law__868 rfl rfl ?_
  refine mj_if_ne (tgt := 892) (pc' := 873) C dL_law__870 (by decide) rfl (fun hz => ?_) (fun hz => ?_)
  · refine mj_goto (pc' := 1582) C dL_law__892 (by decide) ?_
    exact fin _ _ _ _ _ _ hR2 hM2 (A_hold hA _ _ hv9) h62 (by omega) (by omega)
  · have h0 : (o_hold S (xs (5 * c + 1)) w9).1 = 0 := kB_0 (by rcases o_hold_c S (xs (5 * c + 1)) w9 with h9 | ⟨h9, -⟩ | ⟨h9, -⟩ <;> omega) hz
    refine mj_aload_n (pc' := 874) C dL_law__873 rfl rfl ?_
    refine mj_iconst (pc' := 875) (v := 0) C dL_law__874 rfl rfl ?_
    refine mj_lald (pc' := 876) C dL_law__875 rfl rfl (by decide) (by decide) (Nat.lt_of_lt_of_eq Nat.zero_lt_one h62.symm) (rfl : (0 : Int32) = nI 0) (by decide) ?_
    refine mj_iload (pc' := 878) C dL_law__876 rfl rfl ?_
    refine mj_if_eq (tgt := 885) (pc' := 881) C dL_law__878 (by decide) rfl (fun hb => ?_) (fun hb => ?_)
    · have hl := lgb0 (((hF2 60 (Or.inr (by omega))).2 0 0).2.2.trans (hG h0)) (hv h0) hb
      refine mj_lconst (pc' := 886) (v := 0) C dL_law__885 rfl rfl ?_
      refine mj_lcmp (pc' := 887) C dL_law__886 rfl ?_
      refine mj_if_eq (tgt := 892) (pc' := 890) C dL_law__887 (by decide) rfl (fun _ => ?_) (fun h9 => absurd hl h9)
      refine mj_goto (pc' := 1582) C dL_law__892 (by decide) ?_
      exact fin _ _ _ _ _ _ hR2 hM2 (A_hold hA _ _ hv9) h62 (by omega) (by omega)
    · have hl := lgb1 (((hF2 60 (Or.inr (by omega))).2 0 0).2.2.trans (hG h0)) (hv h0) (o_hold_b S (xs (5 * c + 1)) w9) hb
      refine mj_lconst (pc' := 882) (v := 1) C dL_law__881 rfl rfl ?_
      refine mj_goto (pc' := 886) C dL_law__882 (by decide) ?_
      refine mj_lcmp (pc' := 887) C dL_law__886 rfl ?_
      refine mj_if_eq (tgt := 892) (pc' := 890) C dL_law__887 (by decide) rfl (fun _ => ?_) (fun h9 => absurd hl h9)
      refine mj_goto (pc' := 1582) C dL_law__892 (by decide) ?_
      exact fin _ _ _ _ _ _ hR2 hM2 (A_hold hA _ _ hv9) h62 (by omega) (by omega)

set_option maxHeartbeats 2000000 in
set_option maxRecDepth 20000 in
theorem lk_read {l : Launch} (hst : l.stackTraces = false) {J : Nat → List (Option jV) → List jV → jM → Nat → Nat → Prop} (C : jCtx l J cL_law_ 7 RL room_1 (some FieldType.boolean) 3 [] (fun _ _ => True) (fun _ _ => False) 0 0) {L9 : Nat} {xs : Nat → Int32} (Sc : jSc J cL_law_ L9 xs) (S : jS) (c : Nat) (μ : jM) (hc : c < 512) (hi : 5 * c + 5 ≤ L9) (hR : xR S μ) (hM : mR S μ) (hA : sA S) (h60 : mN μ 60 = 1) (fin : lFin J c) : J 895 [some (aR 61 0), some (aR 0 0), some (aR 20 0), some (aR 60 0), some (aI (nI (5 * c))), none, none] [] μ (196 + 6 * c) (3380 + 60 * c) := by
  refine mj_aload_n (pc' := 896) C dL_law__895 rfl rfl ?_
  refine mj_aload_n (pc' := 897) C dL_law__896 rfl rfl ?_
  refine mj_iload (pc' := 899) C dL_law__897 rfl rfl ?_
  refine mj_iconst (pc' := 900) (v := 1) C dL_law__899 rfl rfl ?_
  refine mj_iadd (pc' := 901) C dL_law__900 rfl ?_
  refine Sc.ld (pc' := 902) dL_law__901 rfl (nI_add (5 * c) 1) (by omega) ?_
  refine mj_aload_n (pc' := 903) C dL_law__902 rfl rfl ?_
  refine mj_callW_3 (pc' := 906) C (c_L_read hst S (xs (5 * c + 1))) dL_law__903 rfl km_L_131 ks_yL_read kn_L kc_yL_read ⟨by decide, by decide, by decide +kernel⟩ ⟨by decide, by decide⟩ (Nat.le_of_ble_eq_true rfl) ⟨by first | decide | (show _ ≤ (601024 : Nat); omega) | (show _ ≤ (7293034 : Nat); omega), by first | decide | (show _ ≤ (601024 : Nat); omega) | (show _ ≤ (7293034 : Nat); omega)⟩ ⟨rfl, hR, hA.1, (Nat.lt_of_lt_of_eq Nat.zero_lt_one h60.symm)⟩ (fun r903 μ903 hq903 hm903 => ?_)
  obtain ⟨rfl, hG, hR1, hF1⟩ := hq903
  have hM1 := hM.keptL hF1
  have h61 : mN μ903 60 = 1 := hF1.2.trans h60
  dsimp only [Option.toList, List.nil_append, List.cons_append]
  refine mj_istore_5 (pc' := 908) C dL_law__906 rfl (by decide) rfl ?_
  refine mj_aload_n (pc' := 909) C dL_law__908 rfl rfl ?_
  refine mj_aload_n (pc' := 910) C dL_law__909 rfl rfl ?_
  refine mj_iload (pc' := 912) C dL_law__910 rfl rfl ?_
  refine mj_iconst (pc' := 913) (v := 1) C dL_law__912 rfl rfl ?_
  refine mj_iadd (pc' := 914) C dL_law__913 rfl ?_
  refine Sc.ld (pc' := 915) dL_law__914 rfl (nI_add (5 * c) 1) (by omega) ?_
  refine mj_callVN_1 (ci := 6) (pc' := 918) C (c_X6_read hst S (xs (5 * c + 1))) dL_law__915 rfl km_L_133 ki_yX6_read kz_yX6_read kn_X6 kc_yX6_read rfl (by decide) (by decide) ⟨rfl, by decide, by decide, by decide +kernel⟩ ⟨by decide, by decide⟩ (Nat.le_of_ble_eq_true rfl) ⟨by first | decide | (show _ ≤ (601024 : Nat); omega) | (show _ ≤ (7293034 : Nat); omega), by first | decide | (show _ ≤ (601024 : Nat); omega) | (show _ ≤ (7293034 : Nat); omega)⟩ ⟨rfl, hM1, hA.1⟩ (fun r915 μ915 hq915 hm915 => ?_) (fun _ _ h9 => h9)
  obtain ⟨v, rfl, h35, hv, hM2, hF2⟩ := hq915
  have hR2 := hR1.kept (fun kd hk => hF2 kd (Or.inl hk))
  have h62 : mN μ915 60 = 1 := (hF2 60 (Or.inr (by omega))).1.trans h61
  dsimp only [Option.toList, List.nil_append, List.cons_append]
  refine mj_istore_6 (pc' := 920) C dL_law__918 rfl (by decide) rfl ?_
  refine mj_aload_n (pc' := 921) C dL_law__920 rfl rfl ?_
  refine mj_callVN_0 (ci := 6) (pc' := 924) C (c_X6_thrown hst (o_read S (xs (5 * c + 1))).2.2) dL_law__921 rfl km_L_96 ki_yX6_thrown kz_yX6_thrown kn_X6 kc_yX6_thrown rfl (by decide) (by decide) ⟨rfl, by decide, by decide, by decide +kernel⟩ ⟨by decide, by decide⟩ (Nat.le_of_ble_eq_true rfl) ⟨by first | decide | (show _ ≤ (601024 : Nat); omega) | (show _ ≤ (7293034 : Nat); omega), by first | decide | (show _ ≤ (601024 : Nat); omega) | (show _ ≤ (7293034 : Nat); omega)⟩ ⟨rfl, hM2⟩ (fun r921 μ921 hq921 hm921 => ?_) (fun _ _ h9 => h9)
  obtain ⟨rfl, rfl⟩ := hq921
  dsimp only [Option.toList, List.nil_append, List.cons_append]
  rw [h35]
  refine mj_iload (pc' := 926) C dL_law__924 rfl rfl ?_
  refine mj_icmp_eq (tgt := 931) (pc' := 929) C dL_law__926 (by decide) rfl (fun _ => ?_) (fun h9 => absurd rfl h9)
  refine mj_iload (pc' := 933) C dL_law__931 rfl rfl ?_
  refine mj_if_ne (tgt := 948) (pc' := 936) C dL_law__933 (by decide) rfl (fun hz => ?_) (fun hz => ?_)
  · refine mj_goto (pc' := 1582) C dL_law__948 (by decide) ?_
    exact fin _ _ _ _ _ _ hR2 hM2 (A_read hA _) h62 (by omega) (by omega)
  · have h0 : (o_read S (xs (5 * c + 1))).1 = 0 := kB_0 (by rcases o_read_c S (xs (5 * c + 1)) with h9 | ⟨h9, -⟩ | ⟨h9, -⟩ <;> omega) hz
    refine mj_aload_n (pc' := 937) C dL_law__936 rfl rfl ?_
    refine mj_iconst (pc' := 938) (v := 0) C dL_law__937 rfl rfl ?_
    refine mj_lald (pc' := 939) C dL_law__938 rfl rfl (by decide) (by decide) (Nat.lt_of_lt_of_eq Nat.zero_lt_one h62.symm) (rfl : (0 : Int32) = nI 0) (by decide) ?_
    refine mj_iload (pc' := 941) C dL_law__939 rfl rfl ?_
    refine mj_i2l (pc' := 942) C dL_law__941 rfl ?_
    refine mj_lcmp (pc' := 943) C dL_law__942 rfl ?_
    refine mj_if_eq (tgt := 948) (pc' := 946) C dL_law__943 (by decide) rfl (fun _ => ?_) (fun h9 => absurd (lgz ((((hF2 60 (Or.inr (by omega))).2 0 0).2.2.trans (hG h0)).trans (by rw [hv h0]))) h9)
    refine mj_goto (pc' := 1582) C dL_law__948 (by decide) ?_
    exact fin _ _ _ _ _ _ hR2 hM2 (A_read hA _) h62 (by omega) (by omega)

set_option maxHeartbeats 2000000 in
set_option maxRecDepth 20000 in
theorem lk_move {l : Launch} (hst : l.stackTraces = false) {J : Nat → List (Option jV) → List jV → jM → Nat → Nat → Prop} (C : jCtx l J cL_law_ 7 RL room_1 (some FieldType.boolean) 3 [] (fun _ _ => True) (fun _ _ => False) 0 0) {L9 : Nat} {xs : Nat → Int32} (Sc : jSc J cL_law_ L9 xs) (S : jS) (c : Nat) (μ : jM) (hc : c < 512) (hi : 5 * c + 5 ≤ L9) (hR : xR S μ) (hM : mR S μ) (hA : sA S) (h60 : mN μ 60 = 1) (fin : lFin J c) : J 951 [some (aR 61 0), some (aR 0 0), some (aR 20 0), some (aR 60 0), some (aI (nI (5 * c))), none, none] [] μ (196 + 6 * c) (3380 + 60 * c) := by
  refine mj_aload_n (pc' := 952) C dL_law__951 rfl rfl ?_
  refine mj_aload_n (pc' := 953) C dL_law__952 rfl rfl ?_
  refine mj_iload (pc' := 955) C dL_law__953 rfl rfl ?_
  refine mj_iconst (pc' := 956) (v := 1) C dL_law__955 rfl rfl ?_
  refine mj_iadd (pc' := 957) C dL_law__956 rfl ?_
  refine Sc.ld (pc' := 958) dL_law__957 rfl (nI_add (5 * c) 1) (by omega) ?_
  refine mj_aload_n (pc' := 959) C dL_law__958 rfl rfl ?_
  refine mj_iload (pc' := 961) C dL_law__959 rfl rfl ?_
  refine mj_iconst (pc' := 962) (v := 2) C dL_law__961 rfl rfl ?_
  refine mj_iadd (pc' := 963) C dL_law__962 rfl ?_
  refine Sc.ld (pc' := 964) dL_law__963 rfl (nI_add (5 * c) 2) (by omega) ?_
  refine mj_aload_n (pc' := 965) C dL_law__964 rfl rfl ?_
  refine mj_callW_4 (pc' := 968) C (c_L_move hst S (xs (5 * c + 1)) (xs (5 * c + 2))) dL_law__965 rfl km_L_134 ks_yL_move kn_L kc_yL_move ⟨by decide, by decide, by decide +kernel⟩ ⟨by decide, by decide⟩ (Nat.le_of_ble_eq_true rfl) ⟨by first | decide | (show _ ≤ (601024 : Nat); omega) | (show _ ≤ (7293034 : Nat); omega), by first | decide | (show _ ≤ (601024 : Nat); omega) | (show _ ≤ (7293034 : Nat); omega)⟩ ⟨rfl, hR, hA.1, (Nat.lt_of_lt_of_eq Nat.zero_lt_one h60.symm)⟩ (fun r965 μ965 hq965 hm965 => ?_)
  obtain ⟨rfl, hG, hR1, hF1⟩ := hq965
  have hM1 := hM.keptL hF1
  have h61 : mN μ965 60 = 1 := hF1.2.trans h60
  dsimp only [Option.toList, List.nil_append, List.cons_append]
  refine mj_istore_5 (pc' := 970) C dL_law__968 rfl (by decide) rfl ?_
  refine mj_aload_n (pc' := 971) C dL_law__970 rfl rfl ?_
  refine mj_aload_n (pc' := 972) C dL_law__971 rfl rfl ?_
  refine mj_iload (pc' := 974) C dL_law__972 rfl rfl ?_
  refine mj_iconst (pc' := 975) (v := 1) C dL_law__974 rfl rfl ?_
  refine mj_iadd (pc' := 976) C dL_law__975 rfl ?_
  refine Sc.ld (pc' := 977) dL_law__976 rfl (nI_add (5 * c) 1) (by omega) ?_
  refine mj_aload_n (pc' := 978) C dL_law__977 rfl rfl ?_
  refine mj_iload (pc' := 980) C dL_law__978 rfl rfl ?_
  refine mj_iconst (pc' := 981) (v := 2) C dL_law__980 rfl rfl ?_
  refine mj_iadd (pc' := 982) C dL_law__981 rfl ?_
  refine Sc.ld (pc' := 983) dL_law__982 rfl (nI_add (5 * c) 2) (by omega) ?_
  refine mj_callVN_2 (ci := 6) (pc' := 986) C (c_X6_move hst S (xs (5 * c + 1)) (xs (5 * c + 2))) dL_law__983 rfl km_L_136 ki_yX6_move kz_yX6_move kn_X6 kc_yX6_move rfl (by decide) (by decide) ⟨rfl, by decide, by decide, by decide +kernel⟩ ⟨by decide, by decide⟩ (Nat.le_of_ble_eq_true rfl) ⟨by first | decide | (show _ ≤ (601024 : Nat); omega) | (show _ ≤ (7293034 : Nat); omega), by first | decide | (show _ ≤ (601024 : Nat); omega) | (show _ ≤ (7293034 : Nat); omega)⟩ ⟨rfl, hM1, hA.1⟩ (fun r983 μ983 hq983 hm983 => ?_) (fun _ _ h9 => h9)
  obtain ⟨v, rfl, h35, hv, hM2, hF2⟩ := hq983
  have hR2 := hR1.kept (fun kd hk => hF2 kd (Or.inl hk))
  have h62 : mN μ983 60 = 1 := (hF2 60 (Or.inr (by omega))).1.trans h61
  dsimp only [Option.toList, List.nil_append, List.cons_append]
  refine mj_istore_6 (pc' := 988) C dL_law__986 rfl (by decide) rfl ?_
  refine mj_aload_n (pc' := 989) C dL_law__988 rfl rfl ?_
  refine mj_callVN_0 (ci := 6) (pc' := 992) C (c_X6_thrown hst (o_move S (xs (5 * c + 1)) (xs (5 * c + 2))).2.2) dL_law__989 rfl km_L_96 ki_yX6_thrown kz_yX6_thrown kn_X6 kc_yX6_thrown rfl (by decide) (by decide) ⟨rfl, by decide, by decide, by decide +kernel⟩ ⟨by decide, by decide⟩ (Nat.le_of_ble_eq_true rfl) ⟨by first | decide | (show _ ≤ (601024 : Nat); omega) | (show _ ≤ (7293034 : Nat); omega), by first | decide | (show _ ≤ (601024 : Nat); omega) | (show _ ≤ (7293034 : Nat); omega)⟩ ⟨rfl, hM2⟩ (fun r989 μ989 hq989 hm989 => ?_) (fun _ _ h9 => h9)
  obtain ⟨rfl, rfl⟩ := hq989
  dsimp only [Option.toList, List.nil_append, List.cons_append]
  rw [h35]
  refine mj_iload (pc' := 994) C dL_law__992 rfl rfl ?_
  refine mj_icmp_eq (tgt := 999) (pc' := 997) C dL_law__994 (by decide) rfl (fun _ => ?_) (fun h9 => absurd rfl h9)
  refine mj_iload (pc' := 1001) C dL_law__999 rfl rfl ?_
  refine mj_if_ne (tgt := 1016) (pc' := 1004) C dL_law__1001 (by decide) rfl (fun hz => ?_) (fun hz => ?_)
  · refine mj_goto (pc' := 1582) C dL_law__1016 (by decide) ?_
    exact fin _ _ _ _ _ _ hR2 hM2 (A_move hA _ _) h62 (by omega) (by omega)
  · have h0 : (o_move S (xs (5 * c + 1)) (xs (5 * c + 2))).1 = 0 := kA_0 (by rcases o_move_c S (xs (5 * c + 1)) (xs (5 * c + 2)) with h9 | ⟨h9, -⟩ | ⟨h9, -⟩ | ⟨h9, -⟩ <;> omega) hz
    refine mj_aload_n (pc' := 1005) C dL_law__1004 rfl rfl ?_
    refine mj_iconst (pc' := 1006) (v := 0) C dL_law__1005 rfl rfl ?_
    refine mj_lald (pc' := 1007) C dL_law__1006 rfl rfl (by decide) (by decide) (Nat.lt_of_lt_of_eq Nat.zero_lt_one h62.symm) (rfl : (0 : Int32) = nI 0) (by decide) ?_
    refine mj_iload (pc' := 1009) C dL_law__1007 rfl rfl ?_
    refine mj_i2l (pc' := 1010) C dL_law__1009 rfl ?_
    refine mj_lcmp (pc' := 1011) C dL_law__1010 rfl ?_
    refine mj_if_eq (tgt := 1016) (pc' := 1014) C dL_law__1011 (by decide) rfl (fun _ => ?_) (fun h9 => absurd (lgz ((((hF2 60 (Or.inr (by omega))).2 0 0).2.2.trans (hG h0)).trans (by rw [hv h0]))) h9)
    refine mj_goto (pc' := 1582) C dL_law__1016 (by decide) ?_
    exact fin _ _ _ _ _ _ hR2 hM2 (A_move hA _ _) h62 (by omega) (by omega)

set_option maxHeartbeats 2000000 in
set_option maxRecDepth 20000 in
theorem lk_moveAhead {l : Launch} (hst : l.stackTraces = false) {J : Nat → List (Option jV) → List jV → jM → Nat → Nat → Prop} (C : jCtx l J cL_law_ 7 RL room_1 (some FieldType.boolean) 3 [] (fun _ _ => True) (fun _ _ => False) 0 0) {L9 : Nat} {xs : Nat → Int32} (Sc : jSc J cL_law_ L9 xs) (S : jS) (c : Nat) (μ : jM) (hc : c < 512) (hi : 5 * c + 5 ≤ L9) (hR : xR S μ) (hM : mR S μ) (hA : sA S) (h60 : mN μ 60 = 1) (fin : lFin J c) : J 1019 [some (aR 61 0), some (aR 0 0), some (aR 20 0), some (aR 60 0), some (aI (nI (5 * c))), none, none] [] μ (196 + 6 * c) (3380 + 60 * c) := by
  refine mj_aload_n (pc' := 1020) C dL_law__1019 rfl rfl ?_
  refine mj_callVN_0 (ci := 5) (pc' := 1023) C (c_X5_moveAhead hst S) dL_law__1020 rfl km_L_137 ki_yX5_moveAhead kz_yX5_moveAhead kn_X5 kc_yX5_moveAhead rfl (by decide) (by decide) ⟨rfl, by decide, by decide, by decide +kernel⟩ ⟨by decide, by decide⟩ (Nat.le_of_ble_eq_true rfl) ⟨by first | decide | (show _ ≤ (601024 : Nat); omega) | (show _ ≤ (7293034 : Nat); omega), by first | decide | (show _ ≤ (601024 : Nat); omega) | (show _ ≤ (7293034 : Nat); omega)⟩ ⟨rfl, hR, hA.1, hA.2.1⟩ (fun r1020 μ1020 hq1020 hm1020 => ?_) (fun _ _ h9 => h9)
  obtain ⟨rfl, hR1, hF1⟩ := hq1020
  have hM1 := hM.kept hF1
  have h61 : mN μ1020 60 = 1 := (hF1 60 (by omega)).1.trans h60
  dsimp only [Option.toList, List.nil_append, List.cons_append]
  refine mj_aload_n (pc' := 1024) C dL_law__1023 rfl rfl ?_
  refine mj_callVN_0 (ci := 6) (pc' := 1027) C (c_X6_moveAhead hst S) dL_law__1024 rfl km_L_140 ki_yX6_moveAhead kz_yX6_moveAhead kn_X6 kc_yX6_moveAhead rfl (by decide) (by decide) ⟨rfl, by decide, by decide, by decide +kernel⟩ ⟨by decide, by decide⟩ (Nat.le_of_ble_eq_true rfl) ⟨by first | decide | (show _ ≤ (601024 : Nat); omega) | (show _ ≤ (7293034 : Nat); omega), by first | decide | (show _ ≤ (601024 : Nat); omega) | (show _ ≤ (7293034 : Nat); omega)⟩ ⟨rfl, hM1, hA.1⟩ (fun r1024 μ1024 hq1024 hm1024 => ?_) (fun _ _ h9 => h9)
  obtain ⟨rfl, h35, hM2, hF2⟩ := hq1024
  have hR2 := hR1.kept (fun kd hk => hF2 kd (Or.inl hk))
  have h62 : mN μ1024 60 = 1 := (hF2 60 (Or.inr (by omega))).1.trans h61
  dsimp only [Option.toList, List.nil_append, List.cons_append]
  refine mj_icmp_eq (tgt := 1582) (pc' := 1030) C dL_law__1027 (by decide) rfl (fun _ => ?_) (fun h9 => absurd rfl h9)
  exact fin _ _ _ _ _ _ hR2 hM2 (A_moveAhead hA) h62 (by omega) (by omega)

set_option maxHeartbeats 2000000 in
set_option maxRecDepth 20000 in
theorem lk_haven {l : Launch} (hst : l.stackTraces = false) {J : Nat → List (Option jV) → List jV → jM → Nat → Nat → Prop} (C : jCtx l J cL_law_ 7 RL room_1 (some FieldType.boolean) 3 [] (fun _ _ => True) (fun _ _ => False) 0 0) {L9 : Nat} {xs : Nat → Int32} (Sc : jSc J cL_law_ L9 xs) (S : jS) (c : Nat) (μ : jM) (hc : c < 512) (hi : 5 * c + 5 ≤ L9) (hR : xR S μ) (hM : mR S μ) (hA : sA S) (h60 : mN μ 60 = 1) (fin : lFin J c) : J 1032 [some (aR 61 0), some (aR 0 0), some (aR 20 0), some (aR 60 0), some (aI (nI (5 * c))), none, none] [] μ (196 + 6 * c) (3380 + 60 * c) := by
  refine mj_aload_n (pc' := 1033) C dL_law__1032 rfl rfl ?_
  refine mj_aload_n (pc' := 1034) C dL_law__1033 rfl rfl ?_
  refine mj_iload (pc' := 1036) C dL_law__1034 rfl rfl ?_
  refine mj_iconst (pc' := 1037) (v := 1) C dL_law__1036 rfl rfl ?_
  refine mj_iadd (pc' := 1038) C dL_law__1037 rfl ?_
  refine Sc.ld (pc' := 1039) dL_law__1038 rfl (nI_add (5 * c) 1) (by omega) ?_
  refine mj_aload_n (pc' := 1040) C dL_law__1039 rfl rfl ?_
  refine mj_callW_3 (pc' := 1043) C (c_L_haven hst S (xs (5 * c + 1))) dL_law__1040 rfl km_L_141 ks_yL_haven kn_L kc_yL_haven ⟨by decide, by decide, by decide +kernel⟩ ⟨by decide, by decide⟩ (Nat.le_of_ble_eq_true rfl) ⟨by first | decide | (show _ ≤ (601024 : Nat); omega) | (show _ ≤ (7293034 : Nat); omega), by first | decide | (show _ ≤ (601024 : Nat); omega) | (show _ ≤ (7293034 : Nat); omega)⟩ ⟨rfl, hR, hA.1, (Nat.lt_of_lt_of_eq Nat.zero_lt_one h60.symm)⟩ (fun r1040 μ1040 hq1040 hm1040 => ?_)
  obtain ⟨rfl, hG, hR1, hF1⟩ := hq1040
  have hM1 := hM.keptL hF1
  have h61 : mN μ1040 60 = 1 := hF1.2.trans h60
  dsimp only [Option.toList, List.nil_append, List.cons_append]
  refine mj_istore_5 (pc' := 1045) C dL_law__1043 rfl (by decide) rfl ?_
  refine mj_aload_n (pc' := 1046) C dL_law__1045 rfl rfl ?_
  refine mj_aload_n (pc' := 1047) C dL_law__1046 rfl rfl ?_
  refine mj_iload (pc' := 1049) C dL_law__1047 rfl rfl ?_
  refine mj_iconst (pc' := 1050) (v := 1) C dL_law__1049 rfl rfl ?_
  refine mj_iadd (pc' := 1051) C dL_law__1050 rfl ?_
  refine Sc.ld (pc' := 1052) dL_law__1051 rfl (nI_add (5 * c) 1) (by omega) ?_
  refine mj_callVN_1 (ci := 6) (pc' := 1055) C (c_X6_haven hst S (xs (5 * c + 1))) dL_law__1052 rfl km_L_143 ki_yX6_haven kz_yX6_haven kn_X6 kc_yX6_haven rfl (by decide) (by decide) ⟨rfl, by decide, by decide, by decide +kernel⟩ ⟨by decide, by decide⟩ (Nat.le_of_ble_eq_true rfl) ⟨by first | decide | (show _ ≤ (601024 : Nat); omega) | (show _ ≤ (7293034 : Nat); omega), by first | decide | (show _ ≤ (601024 : Nat); omega) | (show _ ≤ (7293034 : Nat); omega)⟩ ⟨rfl, hM1, hA.1⟩ (fun r1052 μ1052 hq1052 hm1052 => ?_) (fun _ _ h9 => h9)
  obtain ⟨v, rfl, h35, hv, hM2, hF2⟩ := hq1052
  have hR2 := hR1.kept (fun kd hk => hF2 kd (Or.inl hk))
  have h62 : mN μ1052 60 = 1 := (hF2 60 (Or.inr (by omega))).1.trans h61
  dsimp only [Option.toList, List.nil_append, List.cons_append]
  refine mj_istore_6 (pc' := 1057) C dL_law__1055 rfl (by decide) rfl ?_
  refine mj_aload_n (pc' := 1058) C dL_law__1057 rfl rfl ?_
  refine mj_callVN_0 (ci := 6) (pc' := 1061) C (c_X6_thrown hst (o_haven S (xs (5 * c + 1))).2.2) dL_law__1058 rfl km_L_96 ki_yX6_thrown kz_yX6_thrown kn_X6 kc_yX6_thrown rfl (by decide) (by decide) ⟨rfl, by decide, by decide, by decide +kernel⟩ ⟨by decide, by decide⟩ (Nat.le_of_ble_eq_true rfl) ⟨by first | decide | (show _ ≤ (601024 : Nat); omega) | (show _ ≤ (7293034 : Nat); omega), by first | decide | (show _ ≤ (601024 : Nat); omega) | (show _ ≤ (7293034 : Nat); omega)⟩ ⟨rfl, hM2⟩ (fun r1058 μ1058 hq1058 hm1058 => ?_) (fun _ _ h9 => h9)
  obtain ⟨rfl, rfl⟩ := hq1058
  dsimp only [Option.toList, List.nil_append, List.cons_append]
  rw [h35]
  refine mj_iload (pc' := 1063) C dL_law__1061 rfl rfl ?_
  refine mj_icmp_eq (tgt := 1068) (pc' := 1066) C dL_law__1063 (by decide) rfl (fun _ => ?_) (fun h9 => absurd rfl h9)
  refine mj_iload (pc' := 1070) C dL_law__1068 rfl rfl ?_
  refine mj_if_ne (tgt := 1085) (pc' := 1073) C dL_law__1070 (by decide) rfl (fun hz => ?_) (fun hz => ?_)
  · refine mj_goto (pc' := 1582) C dL_law__1085 (by decide) ?_
    exact fin _ _ _ _ _ _ hR2 hM2 (sA_s hA (o_haven_s _ _)) h62 (by omega) (by omega)
  · have h0 : (o_haven S (xs (5 * c + 1))).1 = 0 := kA_0 (by rcases o_haven_c S (xs (5 * c + 1)) with h9 | ⟨h9, -⟩ <;> omega) hz
    refine mj_aload_n (pc' := 1074) C dL_law__1073 rfl rfl ?_
    refine mj_iconst (pc' := 1075) (v := 0) C dL_law__1074 rfl rfl ?_
    refine mj_lald (pc' := 1076) C dL_law__1075 rfl rfl (by decide) (by decide) (Nat.lt_of_lt_of_eq Nat.zero_lt_one h62.symm) (rfl : (0 : Int32) = nI 0) (by decide) ?_
    refine mj_iload (pc' := 1078) C dL_law__1076 rfl rfl ?_
    refine mj_i2l (pc' := 1079) C dL_law__1078 rfl ?_
    refine mj_lcmp (pc' := 1080) C dL_law__1079 rfl ?_
    refine mj_if_eq (tgt := 1085) (pc' := 1083) C dL_law__1080 (by decide) rfl (fun _ => ?_) (fun h9 => absurd (lgz ((((hF2 60 (Or.inr (by omega))).2 0 0).2.2.trans (hG h0)).trans (by rw [hv h0]))) h9)
    refine mj_goto (pc' := 1582) C dL_law__1085 (by decide) ?_
    exact fin _ _ _ _ _ _ hR2 hM2 (sA_s hA (o_haven_s _ _)) h62 (by omega) (by omega)

set_option maxHeartbeats 2000000 in
set_option maxRecDepth 20000 in
theorem lk_isSafe {l : Launch} (hst : l.stackTraces = false) {J : Nat → List (Option jV) → List jV → jM → Nat → Nat → Prop} (C : jCtx l J cL_law_ 7 RL room_1 (some FieldType.boolean) 3 [] (fun _ _ => True) (fun _ _ => False) 0 0) {L9 : Nat} {xs : Nat → Int32} (Sc : jSc J cL_law_ L9 xs) (S : jS) (c : Nat) (μ : jM) (hc : c < 512) (hi : 5 * c + 5 ≤ L9) (hR : xR S μ) (hM : mR S μ) (hA : sA S) (h60 : mN μ 60 = 1) (fin : lFin J c) : J 1088 [some (aR 61 0), some (aR 0 0), some (aR 20 0), some (aR 60 0), some (aI (nI (5 * c))), none, none] [] μ (196 + 6 * c) (3380 + 60 * c) := by
  refine mj_aload_n (pc' := 1089) C dL_law__1088 rfl rfl ?_
  refine mj_aload_n (pc' := 1090) C dL_law__1089 rfl rfl ?_
  refine mj_iload (pc' := 1092) C dL_law__1090 rfl rfl ?_
  refine mj_iconst (pc' := 1093) (v := 1) C dL_law__1092 rfl rfl ?_
  refine mj_iadd (pc' := 1094) C dL_law__1093 rfl ?_
  refine Sc.ld (pc' := 1095) dL_law__1094 rfl (nI_add (5 * c) 1) (by omega) ?_
  refine mj_aload_n (pc' := 1096) C dL_law__1095 rfl rfl ?_
  refine mj_callW_3 (pc' := 1099) C (c_L_isSafe hst S (xs (5 * c + 1))) dL_law__1096 rfl km_L_144 ks_yL_isSafe kn_L kc_yL_isSafe ⟨by decide, by decide, by decide +kernel⟩ ⟨by decide, by decide⟩ (Nat.le_of_ble_eq_true rfl) ⟨by first | decide | (show _ ≤ (601024 : Nat); omega) | (show _ ≤ (7293034 : Nat); omega), by first | decide | (show _ ≤ (601024 : Nat); omega) | (show _ ≤ (7293034 : Nat); omega)⟩ ⟨rfl, hR, hA.1, (Nat.lt_of_lt_of_eq Nat.zero_lt_one h60.symm)⟩ (fun r1096 μ1096 hq1096 hm1096 => ?_)
  obtain ⟨rfl, hG, hR1, hF1⟩ := hq1096
  have hM1 := hM.keptL hF1
  have h61 : mN μ1096 60 = 1 := hF1.2.trans h60
  dsimp only [Option.toList, List.nil_append, List.cons_append]
  refine mj_istore_5 (pc' := 1101) C dL_law__1099 rfl (by decide) rfl ?_
  refine mj_aload_n (pc' := 1102) C dL_law__1101 rfl rfl ?_
  refine mj_aload_n (pc' := 1103) C dL_law__1102 rfl rfl ?_
  refine mj_iload (pc' := 1105) C dL_law__1103 rfl rfl ?_
  refine mj_iconst (pc' := 1106) (v := 1) C dL_law__1105 rfl rfl ?_
  refine mj_iadd (pc' := 1107) C dL_law__1106 rfl ?_
  refine Sc.ld (pc' := 1108) dL_law__1107 rfl (nI_add (5 * c) 1) (by omega) ?_
  refine mj_callVN_1 (ci := 6) (pc' := 1111) C (c_X6_isSafe hst S (xs (5 * c + 1))) dL_law__1108 rfl km_L_146 ki_yX6_isSafe kz_yX6_isSafe kn_X6 kc_yX6_isSafe rfl (by decide) (by decide) ⟨rfl, by decide, by decide, by decide +kernel⟩ ⟨by decide, by decide⟩ (Nat.le_of_ble_eq_true rfl) ⟨by first | decide | (show _ ≤ (601024 : Nat); omega) | (show _ ≤ (7293034 : Nat); omega), by first | decide | (show _ ≤ (601024 : Nat); omega) | (show _ ≤ (7293034 : Nat); omega)⟩ ⟨rfl, hM1, hA.1⟩ (fun r1108 μ1108 hq1108 hm1108 => ?_) (fun _ _ h9 => h9)
  obtain ⟨v, rfl, h35, hv, hM2, hF2⟩ := hq1108
  have hR2 := hR1.kept (fun kd hk => hF2 kd (Or.inl hk))
  have h62 : mN μ1108 60 = 1 := (hF2 60 (Or.inr (by omega))).1.trans h61
  dsimp only [Option.toList, List.nil_append, List.cons_append]
  refine mj_istore_6 (pc' := 1113) C dL_law__1111 rfl (by decide) rfl ?_
  refine mj_aload_n (pc' := 1114) C dL_law__1113 rfl rfl ?_
  refine mj_callVN_0 (ci := 6) (pc' := 1117) C (c_X6_thrown hst (o_isSafe S (xs (5 * c + 1))).2.2) dL_law__1114 rfl km_L_96 ki_yX6_thrown kz_yX6_thrown kn_X6 kc_yX6_thrown rfl (by decide) (by decide) ⟨rfl, by decide, by decide, by decide +kernel⟩ ⟨by decide, by decide⟩ (Nat.le_of_ble_eq_true rfl) ⟨by first | decide | (show _ ≤ (601024 : Nat); omega) | (show _ ≤ (7293034 : Nat); omega), by first | decide | (show _ ≤ (601024 : Nat); omega) | (show _ ≤ (7293034 : Nat); omega)⟩ ⟨rfl, hM2⟩ (fun r1114 μ1114 hq1114 hm1114 => ?_) (fun _ _ h9 => h9)
  obtain ⟨rfl, rfl⟩ := hq1114
  dsimp only [Option.toList, List.nil_append, List.cons_append]
  rw [h35]
  refine mj_iload (pc' := 1119) C dL_law__1117 rfl rfl ?_
  refine mj_icmp_eq (tgt := 1124) (pc' := 1122) C dL_law__1119 (by decide) rfl (fun _ => ?_) (fun h9 => absurd rfl h9)
  refine mj_iload (pc' := 1126) C dL_law__1124 rfl rfl ?_
  refine mj_if_ne (tgt := 1148) (pc' := 1129) C dL_law__1126 (by decide) rfl (fun hz => ?_) (fun hz => ?_)
  · refine mj_goto (pc' := 1582) C dL_law__1148 (by decide) ?_
    exact fin _ _ _ _ _ _ hR2 hM2 (sA_s hA (o_isSafe_s _ _)) h62 (by omega) (by omega)
  · have h0 : (o_isSafe S (xs (5 * c + 1))).1 = 0 := kA_0 (by rcases o_isSafe_c S (xs (5 * c + 1)) with h9 | ⟨h9, -⟩ <;> omega) hz
    refine mj_aload_n (pc' := 1130) C dL_law__1129 rfl rfl ?_
    refine mj_iconst (pc' := 1131) (v := 0) C dL_law__1130 rfl rfl ?_
    refine mj_lald (pc' := 1132) C dL_law__1131 rfl rfl (by decide) (by decide) (Nat.lt_of_lt_of_eq Nat.zero_lt_one h62.symm) (rfl : (0 : Int32) = nI 0) (by decide) ?_
    refine mj_iload (pc' := 1134) C dL_law__1132 rfl rfl ?_
    refine mj_if_eq (tgt := 1141) (pc' := 1137) C dL_law__1134 (by decide) rfl (fun hb => ?_) (fun hb => ?_)
    · have hl := lgb0 (((hF2 60 (Or.inr (by omega))).2 0 0).2.2.trans (hG h0)) (hv h0) hb
      refine mj_lconst (pc' := 1142) (v := 0) C dL_law__1141 rfl rfl ?_
      refine mj_lcmp (pc' := 1143) C dL_law__1142 rfl ?_
      refine mj_if_eq (tgt := 1148) (pc' := 1146) C dL_law__1143 (by decide) rfl (fun _ => ?_) (fun h9 => absurd hl h9)
      refine mj_goto (pc' := 1582) C dL_law__1148 (by decide) ?_
      exact fin _ _ _ _ _ _ hR2 hM2 (sA_s hA (o_isSafe_s _ _)) h62 (by omega) (by omega)
    · have hl := lgb1 (((hF2 60 (Or.inr (by omega))).2 0 0).2.2.trans (hG h0)) (hv h0) (o_isSafe_b S (xs (5 * c + 1))) hb
      refine mj_lconst (pc' := 1138) (v := 1) C dL_law__1137 rfl rfl ?_
      refine mj_goto (pc' := 1142) C dL_law__1138 (by decide) ?_
      refine mj_lcmp (pc' := 1143) C dL_law__1142 rfl ?_
      refine mj_if_eq (tgt := 1148) (pc' := 1146) C dL_law__1143 (by decide) rfl (fun _ => ?_) (fun h9 => absurd hl h9)
      refine mj_goto (pc' := 1582) C dL_law__1148 (by decide) ?_
      exact fin _ _ _ _ _ _ hR2 hM2 (sA_s hA (o_isSafe_s _ _)) h62 (by omega) (by omega)

set_option maxHeartbeats 2000000 in
set_option maxRecDepth 20000 in
theorem lk_stateOf {l : Launch} (hst : l.stackTraces = false) {J : Nat → List (Option jV) → List jV → jM → Nat → Nat → Prop} (C : jCtx l J cL_law_ 7 RL room_1 (some FieldType.boolean) 3 [] (fun _ _ => True) (fun _ _ => False) 0 0) {L9 : Nat} {xs : Nat → Int32} (Sc : jSc J cL_law_ L9 xs) (S : jS) (c : Nat) (μ : jM) (hc : c < 512) (hi : 5 * c + 5 ≤ L9) (hR : xR S μ) (hM : mR S μ) (hA : sA S) (h60 : mN μ 60 = 1) (fin : lFin J c) : J 1151 [some (aR 61 0), some (aR 0 0), some (aR 20 0), some (aR 60 0), some (aI (nI (5 * c))), none, none] [] μ (196 + 6 * c) (3380 + 60 * c) := by
  refine mj_aload_n (pc' := 1152) C dL_law__1151 rfl rfl ?_
  refine mj_aload_n (pc' := 1153) C dL_law__1152 rfl rfl ?_
  refine mj_iload (pc' := 1155) C dL_law__1153 rfl rfl ?_
  refine mj_iconst (pc' := 1156) (v := 1) C dL_law__1155 rfl rfl ?_
  refine mj_iadd (pc' := 1157) C dL_law__1156 rfl ?_
  refine Sc.ld (pc' := 1158) dL_law__1157 rfl (nI_add (5 * c) 1) (by omega) ?_
  refine mj_aload_n (pc' := 1159) C dL_law__1158 rfl rfl ?_
  refine mj_callW_3 (pc' := 1162) C (c_L_stateOf hst S (xs (5 * c + 1))) dL_law__1159 rfl km_L_147 ks_yL_stateOf kn_L kc_yL_stateOf ⟨by decide, by decide, by decide +kernel⟩ ⟨by decide, by decide⟩ (Nat.le_of_ble_eq_true rfl) ⟨by first | decide | (show _ ≤ (601024 : Nat); omega) | (show _ ≤ (7293034 : Nat); omega), by first | decide | (show _ ≤ (601024 : Nat); omega) | (show _ ≤ (7293034 : Nat); omega)⟩ ⟨rfl, hR, hA.1, (Nat.lt_of_lt_of_eq Nat.zero_lt_one h60.symm)⟩ (fun r1159 μ1159 hq1159 hm1159 => ?_)
  obtain ⟨rfl, hG, hR1, hF1⟩ := hq1159
  have hM1 := hM.keptL hF1
  have h61 : mN μ1159 60 = 1 := hF1.2.trans h60
  dsimp only [Option.toList, List.nil_append, List.cons_append]
  refine mj_istore_5 (pc' := 1164) C dL_law__1162 rfl (by decide) rfl ?_
  refine mj_aload_n (pc' := 1165) C dL_law__1164 rfl rfl ?_
  refine mj_aload_n (pc' := 1166) C dL_law__1165 rfl rfl ?_
  refine mj_iload (pc' := 1168) C dL_law__1166 rfl rfl ?_
  refine mj_iconst (pc' := 1169) (v := 1) C dL_law__1168 rfl rfl ?_
  refine mj_iadd (pc' := 1170) C dL_law__1169 rfl ?_
  refine Sc.ld (pc' := 1171) dL_law__1170 rfl (nI_add (5 * c) 1) (by omega) ?_
  refine mj_callVN_1 (ci := 6) (pc' := 1174) C (c_X6_stateOf hst S (xs (5 * c + 1))) dL_law__1171 rfl km_L_149 ki_yX6_stateOf kz_yX6_stateOf kn_X6 kc_yX6_stateOf rfl (by decide) (by decide) ⟨rfl, by decide, by decide, by decide +kernel⟩ ⟨by decide, by decide⟩ (Nat.le_of_ble_eq_true rfl) ⟨by first | decide | (show _ ≤ (601024 : Nat); omega) | (show _ ≤ (7293034 : Nat); omega), by first | decide | (show _ ≤ (601024 : Nat); omega) | (show _ ≤ (7293034 : Nat); omega)⟩ ⟨rfl, hM1, hA.1⟩ (fun r1171 μ1171 hq1171 hm1171 => ?_) (fun _ _ h9 => h9)
  obtain ⟨v, rfl, h35, hv, hM2, hF2⟩ := hq1171
  have hR2 := hR1.kept (fun kd hk => hF2 kd (Or.inl hk))
  have h62 : mN μ1171 60 = 1 := (hF2 60 (Or.inr (by omega))).1.trans h61
  dsimp only [Option.toList, List.nil_append, List.cons_append]
  refine mj_istore_6 (pc' := 1176) C dL_law__1174 rfl (by decide) rfl ?_
  refine mj_aload_n (pc' := 1177) C dL_law__1176 rfl rfl ?_
  refine mj_callVN_0 (ci := 6) (pc' := 1180) C (c_X6_thrown hst (o_get S 15 (xs (5 * c + 1))).2.2) dL_law__1177 rfl km_L_96 ki_yX6_thrown kz_yX6_thrown kn_X6 kc_yX6_thrown rfl (by decide) (by decide) ⟨rfl, by decide, by decide, by decide +kernel⟩ ⟨by decide, by decide⟩ (Nat.le_of_ble_eq_true rfl) ⟨by first | decide | (show _ ≤ (601024 : Nat); omega) | (show _ ≤ (7293034 : Nat); omega), by first | decide | (show _ ≤ (601024 : Nat); omega) | (show _ ≤ (7293034 : Nat); omega)⟩ ⟨rfl, hM2⟩ (fun r1177 μ1177 hq1177 hm1177 => ?_) (fun _ _ h9 => h9)
  obtain ⟨rfl, rfl⟩ := hq1177
  dsimp only [Option.toList, List.nil_append, List.cons_append]
  rw [h35]
  refine mj_iload (pc' := 1182) C dL_law__1180 rfl rfl ?_
  refine mj_icmp_eq (tgt := 1187) (pc' := 1185) C dL_law__1182 (by decide) rfl (fun _ => ?_) (fun h9 => absurd rfl h9)
  refine mj_iload (pc' := 1189) C dL_law__1187 rfl rfl ?_
  refine mj_if_ne (tgt := 1204) (pc' := 1192) C dL_law__1189 (by decide) rfl (fun hz => ?_) (fun hz => ?_)
  · refine mj_goto (pc' := 1582) C dL_law__1204 (by decide) ?_
    exact fin _ _ _ _ _ _ hR2 hM2 (sA_s hA (o_get_s _ _ _)) h62 (by omega) (by omega)
  · have h0 : (o_get S 15 (xs (5 * c + 1))).1 = 0 := kA_0 (by rcases o_get_c S 15 (xs (5 * c + 1)) with h9 | ⟨h9, -⟩ <;> omega) hz
    refine mj_aload_n (pc' := 1193) C dL_law__1192 rfl rfl ?_
    refine mj_iconst (pc' := 1194) (v := 0) C dL_law__1193 rfl rfl ?_
    refine mj_lald (pc' := 1195) C dL_law__1194 rfl rfl (by decide) (by decide) (Nat.lt_of_lt_of_eq Nat.zero_lt_one h62.symm) (rfl : (0 : Int32) = nI 0) (by decide) ?_
    refine mj_iload (pc' := 1197) C dL_law__1195 rfl rfl ?_
    refine mj_i2l (pc' := 1198) C dL_law__1197 rfl ?_
    refine mj_lcmp (pc' := 1199) C dL_law__1198 rfl ?_
    refine mj_if_eq (tgt := 1204) (pc' := 1202) C dL_law__1199 (by decide) rfl (fun _ => ?_) (fun h9 => absurd (lgz ((((hF2 60 (Or.inr (by omega))).2 0 0).2.2.trans (hG h0)).trans (by rw [hv h0]))) h9)
    refine mj_goto (pc' := 1582) C dL_law__1204 (by decide) ?_
    exact fin _ _ _ _ _ _ hR2 hM2 (sA_s hA (o_get_s _ _ _)) h62 (by omega) (by omega)

set_option maxHeartbeats 2000000 in
set_option maxRecDepth 20000 in
theorem lk_formatOf {l : Launch} (hst : l.stackTraces = false) {J : Nat → List (Option jV) → List jV → jM → Nat → Nat → Prop} (C : jCtx l J cL_law_ 7 RL room_1 (some FieldType.boolean) 3 [] (fun _ _ => True) (fun _ _ => False) 0 0) {L9 : Nat} {xs : Nat → Int32} (Sc : jSc J cL_law_ L9 xs) (S : jS) (c : Nat) (μ : jM) (hc : c < 512) (hi : 5 * c + 5 ≤ L9) (hR : xR S μ) (hM : mR S μ) (hA : sA S) (h60 : mN μ 60 = 1) (fin : lFin J c) : J 1207 [some (aR 61 0), some (aR 0 0), some (aR 20 0), some (aR 60 0), some (aI (nI (5 * c))), none, none] [] μ (196 + 6 * c) (3380 + 60 * c) := by
  refine mj_aload_n (pc' := 1208) C dL_law__1207 rfl rfl ?_
  refine mj_aload_n (pc' := 1209) C dL_law__1208 rfl rfl ?_
  refine mj_iload (pc' := 1211) C dL_law__1209 rfl rfl ?_
  refine mj_iconst (pc' := 1212) (v := 1) C dL_law__1211 rfl rfl ?_
  refine mj_iadd (pc' := 1213) C dL_law__1212 rfl ?_
  refine Sc.ld (pc' := 1214) dL_law__1213 rfl (nI_add (5 * c) 1) (by omega) ?_
  refine mj_aload_n (pc' := 1215) C dL_law__1214 rfl rfl ?_
  refine mj_callW_3 (pc' := 1218) C (c_L_formatOf hst S (xs (5 * c + 1))) dL_law__1215 rfl km_L_150 ks_yL_formatOf kn_L kc_yL_formatOf ⟨by decide, by decide, by decide +kernel⟩ ⟨by decide, by decide⟩ (Nat.le_of_ble_eq_true rfl) ⟨by first | decide | (show _ ≤ (601024 : Nat); omega) | (show _ ≤ (7293034 : Nat); omega), by first | decide | (show _ ≤ (601024 : Nat); omega) | (show _ ≤ (7293034 : Nat); omega)⟩ ⟨rfl, hR, hA.1, (Nat.lt_of_lt_of_eq Nat.zero_lt_one h60.symm)⟩ (fun r1215 μ1215 hq1215 hm1215 => ?_)
  obtain ⟨rfl, hG, hR1, hF1⟩ := hq1215
  have hM1 := hM.keptL hF1
  have h61 : mN μ1215 60 = 1 := hF1.2.trans h60
  dsimp only [Option.toList, List.nil_append, List.cons_append]
  refine mj_istore_5 (pc' := 1220) C dL_law__1218 rfl (by decide) rfl ?_
  refine mj_aload_n (pc' := 1221) C dL_law__1220 rfl rfl ?_
  refine mj_aload_n (pc' := 1222) C dL_law__1221 rfl rfl ?_
  refine mj_iload (pc' := 1224) C dL_law__1222 rfl rfl ?_
  refine mj_iconst (pc' := 1225) (v := 1) C dL_law__1224 rfl rfl ?_
  refine mj_iadd (pc' := 1226) C dL_law__1225 rfl ?_
  refine Sc.ld (pc' := 1227) dL_law__1226 rfl (nI_add (5 * c) 1) (by omega) ?_
  refine mj_callVN_1 (ci := 6) (pc' := 1230) C (c_X6_formatOf hst S (xs (5 * c + 1))) dL_law__1227 rfl km_L_152 ki_yX6_formatOf kz_yX6_formatOf kn_X6 kc_yX6_formatOf rfl (by decide) (by decide) ⟨rfl, by decide, by decide, by decide +kernel⟩ ⟨by decide, by decide⟩ (Nat.le_of_ble_eq_true rfl) ⟨by first | decide | (show _ ≤ (601024 : Nat); omega) | (show _ ≤ (7293034 : Nat); omega), by first | decide | (show _ ≤ (601024 : Nat); omega) | (show _ ≤ (7293034 : Nat); omega)⟩ ⟨rfl, hM1, hA.1⟩ (fun r1227 μ1227 hq1227 hm1227 => ?_) (fun _ _ h9 => h9)
  obtain ⟨v, rfl, h35, hv, hM2, hF2⟩ := hq1227
  have hR2 := hR1.kept (fun kd hk => hF2 kd (Or.inl hk))
  have h62 : mN μ1227 60 = 1 := (hF2 60 (Or.inr (by omega))).1.trans h61
  dsimp only [Option.toList, List.nil_append, List.cons_append]
  refine mj_istore_6 (pc' := 1232) C dL_law__1230 rfl (by decide) rfl ?_
  refine mj_aload_n (pc' := 1233) C dL_law__1232 rfl rfl ?_
  refine mj_callVN_0 (ci := 6) (pc' := 1236) C (c_X6_thrown hst (o_get S 9 (xs (5 * c + 1))).2.2) dL_law__1233 rfl km_L_96 ki_yX6_thrown kz_yX6_thrown kn_X6 kc_yX6_thrown rfl (by decide) (by decide) ⟨rfl, by decide, by decide, by decide +kernel⟩ ⟨by decide, by decide⟩ (Nat.le_of_ble_eq_true rfl) ⟨by first | decide | (show _ ≤ (601024 : Nat); omega) | (show _ ≤ (7293034 : Nat); omega), by first | decide | (show _ ≤ (601024 : Nat); omega) | (show _ ≤ (7293034 : Nat); omega)⟩ ⟨rfl, hM2⟩ (fun r1233 μ1233 hq1233 hm1233 => ?_) (fun _ _ h9 => h9)
  obtain ⟨rfl, rfl⟩ := hq1233
  dsimp only [Option.toList, List.nil_append, List.cons_append]
  rw [h35]
  refine mj_iload (pc' := 1238) C dL_law__1236 rfl rfl ?_
  refine mj_icmp_eq (tgt := 1243) (pc' := 1241) C dL_law__1238 (by decide) rfl (fun _ => ?_) (fun h9 => absurd rfl h9)
  refine mj_iload (pc' := 1245) C dL_law__1243 rfl rfl ?_
  refine mj_if_ne (tgt := 1260) (pc' := 1248) C dL_law__1245 (by decide) rfl (fun hz => ?_) (fun hz => ?_)
  · refine mj_goto (pc' := 1582) C dL_law__1260 (by decide) ?_
    exact fin _ _ _ _ _ _ hR2 hM2 (sA_s hA (o_get_s _ _ _)) h62 (by omega) (by omega)
  · have h0 : (o_get S 9 (xs (5 * c + 1))).1 = 0 := kA_0 (by rcases o_get_c S 9 (xs (5 * c + 1)) with h9 | ⟨h9, -⟩ <;> omega) hz
    refine mj_aload_n (pc' := 1249) C dL_law__1248 rfl rfl ?_
    refine mj_iconst (pc' := 1250) (v := 0) C dL_law__1249 rfl rfl ?_
    refine mj_lald (pc' := 1251) C dL_law__1250 rfl rfl (by decide) (by decide) (Nat.lt_of_lt_of_eq Nat.zero_lt_one h62.symm) (rfl : (0 : Int32) = nI 0) (by decide) ?_
    refine mj_iload (pc' := 1253) C dL_law__1251 rfl rfl ?_
    refine mj_i2l (pc' := 1254) C dL_law__1253 rfl ?_
    refine mj_lcmp (pc' := 1255) C dL_law__1254 rfl ?_
    refine mj_if_eq (tgt := 1260) (pc' := 1258) C dL_law__1255 (by decide) rfl (fun _ => ?_) (fun h9 => absurd (lgz ((((hF2 60 (Or.inr (by omega))).2 0 0).2.2.trans (hG h0)).trans (by rw [hv h0]))) h9)
    refine mj_goto (pc' := 1582) C dL_law__1260 (by decide) ?_
    exact fin _ _ _ _ _ _ hR2 hM2 (sA_s hA (o_get_s _ _ _)) h62 (by omega) (by omega)

set_option maxHeartbeats 2000000 in
set_option maxRecDepth 20000 in
theorem lk_qualityOf {l : Launch} (hst : l.stackTraces = false) {J : Nat → List (Option jV) → List jV → jM → Nat → Nat → Prop} (C : jCtx l J cL_law_ 7 RL room_1 (some FieldType.boolean) 3 [] (fun _ _ => True) (fun _ _ => False) 0 0) {L9 : Nat} {xs : Nat → Int32} (Sc : jSc J cL_law_ L9 xs) (S : jS) (c : Nat) (μ : jM) (hc : c < 512) (hi : 5 * c + 5 ≤ L9) (hR : xR S μ) (hM : mR S μ) (hA : sA S) (h60 : mN μ 60 = 1) (fin : lFin J c) : J 1263 [some (aR 61 0), some (aR 0 0), some (aR 20 0), some (aR 60 0), some (aI (nI (5 * c))), none, none] [] μ (196 + 6 * c) (3380 + 60 * c) := by
  refine mj_aload_n (pc' := 1264) C dL_law__1263 rfl rfl ?_
  refine mj_aload_n (pc' := 1265) C dL_law__1264 rfl rfl ?_
  refine mj_iload (pc' := 1267) C dL_law__1265 rfl rfl ?_
  refine mj_iconst (pc' := 1268) (v := 1) C dL_law__1267 rfl rfl ?_
  refine mj_iadd (pc' := 1269) C dL_law__1268 rfl ?_
  refine Sc.ld (pc' := 1270) dL_law__1269 rfl (nI_add (5 * c) 1) (by omega) ?_
  refine mj_aload_n (pc' := 1271) C dL_law__1270 rfl rfl ?_
  refine mj_callW_3 (pc' := 1274) C (c_L_qualityOf hst S (xs (5 * c + 1))) dL_law__1271 rfl km_L_153 ks_yL_qualityOf kn_L kc_yL_qualityOf ⟨by decide, by decide, by decide +kernel⟩ ⟨by decide, by decide⟩ (Nat.le_of_ble_eq_true rfl) ⟨by first | decide | (show _ ≤ (601024 : Nat); omega) | (show _ ≤ (7293034 : Nat); omega), by first | decide | (show _ ≤ (601024 : Nat); omega) | (show _ ≤ (7293034 : Nat); omega)⟩ ⟨rfl, hR, hA.1, (Nat.lt_of_lt_of_eq Nat.zero_lt_one h60.symm)⟩ (fun r1271 μ1271 hq1271 hm1271 => ?_)
  obtain ⟨rfl, hG, hR1, hF1⟩ := hq1271
  have hM1 := hM.keptL hF1
  have h61 : mN μ1271 60 = 1 := hF1.2.trans h60
  dsimp only [Option.toList, List.nil_append, List.cons_append]
  refine mj_istore_5 (pc' := 1276) C dL_law__1274 rfl (by decide) rfl ?_
  refine mj_aload_n (pc' := 1277) C dL_law__1276 rfl rfl ?_
  refine mj_aload_n (pc' := 1278) C dL_law__1277 rfl rfl ?_
  refine mj_iload (pc' := 1280) C dL_law__1278 rfl rfl ?_
  refine mj_iconst (pc' := 1281) (v := 1) C dL_law__1280 rfl rfl ?_
  refine mj_iadd (pc' := 1282) C dL_law__1281 rfl ?_
  refine Sc.ld (pc' := 1283) dL_law__1282 rfl (nI_add (5 * c) 1) (by omega) ?_
  refine mj_callVN_1 (ci := 6) (pc' := 1286) C (c_X6_qualityOf hst S (xs (5 * c + 1))) dL_law__1283 rfl km_L_155 ki_yX6_qualityOf kz_yX6_qualityOf kn_X6 kc_yX6_qualityOf rfl (by decide) (by decide) ⟨rfl, by decide, by decide, by decide +kernel⟩ ⟨by decide, by decide⟩ (Nat.le_of_ble_eq_true rfl) ⟨by first | decide | (show _ ≤ (601024 : Nat); omega) | (show _ ≤ (7293034 : Nat); omega), by first | decide | (show _ ≤ (601024 : Nat); omega) | (show _ ≤ (7293034 : Nat); omega)⟩ ⟨rfl, hM1, hA.1⟩ (fun r1283 μ1283 hq1283 hm1283 => ?_) (fun _ _ h9 => h9)
  obtain ⟨v, rfl, h35, hv, hM2, hF2⟩ := hq1283
  have hR2 := hR1.kept (fun kd hk => hF2 kd (Or.inl hk))
  have h62 : mN μ1283 60 = 1 := (hF2 60 (Or.inr (by omega))).1.trans h61
  dsimp only [Option.toList, List.nil_append, List.cons_append]
  refine mj_istore_6 (pc' := 1288) C dL_law__1286 rfl (by decide) rfl ?_
  refine mj_aload_n (pc' := 1289) C dL_law__1288 rfl rfl ?_
  refine mj_callVN_0 (ci := 6) (pc' := 1292) C (c_X6_thrown hst (o_get S 12 (xs (5 * c + 1))).2.2) dL_law__1289 rfl km_L_96 ki_yX6_thrown kz_yX6_thrown kn_X6 kc_yX6_thrown rfl (by decide) (by decide) ⟨rfl, by decide, by decide, by decide +kernel⟩ ⟨by decide, by decide⟩ (Nat.le_of_ble_eq_true rfl) ⟨by first | decide | (show _ ≤ (601024 : Nat); omega) | (show _ ≤ (7293034 : Nat); omega), by first | decide | (show _ ≤ (601024 : Nat); omega) | (show _ ≤ (7293034 : Nat); omega)⟩ ⟨rfl, hM2⟩ (fun r1289 μ1289 hq1289 hm1289 => ?_) (fun _ _ h9 => h9)
  obtain ⟨rfl, rfl⟩ := hq1289
  dsimp only [Option.toList, List.nil_append, List.cons_append]
  rw [h35]
  refine mj_iload (pc' := 1294) C dL_law__1292 rfl rfl ?_
  refine mj_icmp_eq (tgt := 1299) (pc' := 1297) C dL_law__1294 (by decide) rfl (fun _ => ?_) (fun h9 => absurd rfl h9)
  refine mj_iload (pc' := 1301) C dL_law__1299 rfl rfl ?_
  refine mj_if_ne (tgt := 1316) (pc' := 1304) C dL_law__1301 (by decide) rfl (fun hz => ?_) (fun hz => ?_)
  · refine mj_goto (pc' := 1582) C dL_law__1316 (by decide) ?_
    exact fin _ _ _ _ _ _ hR2 hM2 (sA_s hA (o_get_s _ _ _)) h62 (by omega) (by omega)
  · have h0 : (o_get S 12 (xs (5 * c + 1))).1 = 0 := kA_0 (by rcases o_get_c S 12 (xs (5 * c + 1)) with h9 | ⟨h9, -⟩ <;> omega) hz
    refine mj_aload_n (pc' := 1305) C dL_law__1304 rfl rfl ?_
    refine mj_iconst (pc' := 1306) (v := 0) C dL_law__1305 rfl rfl ?_
    refine mj_lald (pc' := 1307) C dL_law__1306 rfl rfl (by decide) (by decide) (Nat.lt_of_lt_of_eq Nat.zero_lt_one h62.symm) (rfl : (0 : Int32) = nI 0) (by decide) ?_
    refine mj_iload (pc' := 1309) C dL_law__1307 rfl rfl ?_
    refine mj_i2l (pc' := 1310) C dL_law__1309 rfl ?_
    refine mj_lcmp (pc' := 1311) C dL_law__1310 rfl ?_
    refine mj_if_eq (tgt := 1316) (pc' := 1314) C dL_law__1311 (by decide) rfl (fun _ => ?_) (fun h9 => absurd (lgz ((((hF2 60 (Or.inr (by omega))).2 0 0).2.2.trans (hG h0)).trans (by rw [hv h0]))) h9)
    refine mj_goto (pc' := 1582) C dL_law__1316 (by decide) ?_
    exact fin _ _ _ _ _ _ hR2 hM2 (sA_s hA (o_get_s _ _ _)) h62 (by omega) (by omega)

set_option maxHeartbeats 2000000 in
set_option maxRecDepth 20000 in
theorem lk_endOf {l : Launch} (hst : l.stackTraces = false) {J : Nat → List (Option jV) → List jV → jM → Nat → Nat → Prop} (C : jCtx l J cL_law_ 7 RL room_1 (some FieldType.boolean) 3 [] (fun _ _ => True) (fun _ _ => False) 0 0) {L9 : Nat} {xs : Nat → Int32} (Sc : jSc J cL_law_ L9 xs) (S : jS) (c : Nat) (μ : jM) (hc : c < 512) (hi : 5 * c + 5 ≤ L9) (hR : xR S μ) (hM : mR S μ) (hA : sA S) (h60 : mN μ 60 = 1) (fin : lFin J c) : J 1319 [some (aR 61 0), some (aR 0 0), some (aR 20 0), some (aR 60 0), some (aI (nI (5 * c))), none, none] [] μ (196 + 6 * c) (3380 + 60 * c) := by
  refine mj_aload_n (pc' := 1320) C dL_law__1319 rfl rfl ?_
  refine mj_aload_n (pc' := 1321) C dL_law__1320 rfl rfl ?_
  refine mj_iload (pc' := 1323) C dL_law__1321 rfl rfl ?_
  refine mj_iconst (pc' := 1324) (v := 1) C dL_law__1323 rfl rfl ?_
  refine mj_iadd (pc' := 1325) C dL_law__1324 rfl ?_
  refine Sc.ld (pc' := 1326) dL_law__1325 rfl (nI_add (5 * c) 1) (by omega) ?_
  refine mj_aload_n (pc' := 1327) C dL_law__1326 rfl rfl ?_
  refine mj_callW_3 (pc' := 1330) C (c_L_endOf hst S (xs (5 * c + 1))) dL_law__1327 rfl km_L_156 ks_yL_endOf kn_L kc_yL_endOf ⟨by decide, by decide, by decide +kernel⟩ ⟨by decide, by decide⟩ (Nat.le_of_ble_eq_true rfl) ⟨by first | decide | (show _ ≤ (601024 : Nat); omega) | (show _ ≤ (7293034 : Nat); omega), by first | decide | (show _ ≤ (601024 : Nat); omega) | (show _ ≤ (7293034 : Nat); omega)⟩ ⟨rfl, hR, hA.1, (Nat.lt_of_lt_of_eq Nat.zero_lt_one h60.symm)⟩ (fun r1327 μ1327 hq1327 hm1327 => ?_)
  obtain ⟨rfl, hG, hR1, hF1⟩ := hq1327
  have hM1 := hM.keptL hF1
  have h61 : mN μ1327 60 = 1 := hF1.2.trans h60
  dsimp only [Option.toList, List.nil_append, List.cons_append]
  refine mj_istore_5 (pc' := 1332) C dL_law__1330 rfl (by decide) rfl ?_
  refine mj_aload_n (pc' := 1333) C dL_law__1332 rfl rfl ?_
  refine mj_aload_n (pc' := 1334) C dL_law__1333 rfl rfl ?_
  refine mj_iload (pc' := 1336) C dL_law__1334 rfl rfl ?_
  refine mj_iconst (pc' := 1337) (v := 1) C dL_law__1336 rfl rfl ?_
  refine mj_iadd (pc' := 1338) C dL_law__1337 rfl ?_
  refine Sc.ld (pc' := 1339) dL_law__1338 rfl (nI_add (5 * c) 1) (by omega) ?_
  refine mj_callVN_1 (ci := 6) (pc' := 1342) C (c_X6_endOf hst S (xs (5 * c + 1))) dL_law__1339 rfl km_L_158 ki_yX6_endOf kz_yX6_endOf kn_X6 kc_yX6_endOf rfl (by decide) (by decide) ⟨rfl, by decide, by decide, by decide +kernel⟩ ⟨by decide, by decide⟩ (Nat.le_of_ble_eq_true rfl) ⟨by first | decide | (show _ ≤ (601024 : Nat); omega) | (show _ ≤ (7293034 : Nat); omega), by first | decide | (show _ ≤ (601024 : Nat); omega) | (show _ ≤ (7293034 : Nat); omega)⟩ ⟨rfl, hM1, hA.1⟩ (fun r1339 μ1339 hq1339 hm1339 => ?_) (fun _ _ h9 => h9)
  obtain ⟨v, rfl, h35, hv, hM2, hF2⟩ := hq1339
  have hR2 := hR1.kept (fun kd hk => hF2 kd (Or.inl hk))
  have h62 : mN μ1339 60 = 1 := (hF2 60 (Or.inr (by omega))).1.trans h61
  dsimp only [Option.toList, List.nil_append, List.cons_append]
  refine mj_istore_6 (pc' := 1344) C dL_law__1342 rfl (by decide) rfl ?_
  refine mj_aload_n (pc' := 1345) C dL_law__1344 rfl rfl ?_
  refine mj_callVN_0 (ci := 6) (pc' := 1348) C (c_X6_thrown hst (o_get S 13 (xs (5 * c + 1))).2.2) dL_law__1345 rfl km_L_96 ki_yX6_thrown kz_yX6_thrown kn_X6 kc_yX6_thrown rfl (by decide) (by decide) ⟨rfl, by decide, by decide, by decide +kernel⟩ ⟨by decide, by decide⟩ (Nat.le_of_ble_eq_true rfl) ⟨by first | decide | (show _ ≤ (601024 : Nat); omega) | (show _ ≤ (7293034 : Nat); omega), by first | decide | (show _ ≤ (601024 : Nat); omega) | (show _ ≤ (7293034 : Nat); omega)⟩ ⟨rfl, hM2⟩ (fun r1345 μ1345 hq1345 hm1345 => ?_) (fun _ _ h9 => h9)
  obtain ⟨rfl, rfl⟩ := hq1345
  dsimp only [Option.toList, List.nil_append, List.cons_append]
  rw [h35]
  refine mj_iload (pc' := 1350) C dL_law__1348 rfl rfl ?_
  refine mj_icmp_eq (tgt := 1355) (pc' := 1353) C dL_law__1350 (by decide) rfl (fun _ => ?_) (fun h9 => absurd rfl h9)
  refine mj_iload (pc' := 1357) C dL_law__1355 rfl rfl ?_
  refine mj_if_ne (tgt := 1372) (pc' := 1360) C dL_law__1357 (by decide) rfl (fun hz => ?_) (fun hz => ?_)
  · refine mj_goto (pc' := 1582) C dL_law__1372 (by decide) ?_
    exact fin _ _ _ _ _ _ hR2 hM2 (sA_s hA (o_get_s _ _ _)) h62 (by omega) (by omega)
  · have h0 : (o_get S 13 (xs (5 * c + 1))).1 = 0 := kA_0 (by rcases o_get_c S 13 (xs (5 * c + 1)) with h9 | ⟨h9, -⟩ <;> omega) hz
    refine mj_aload_n (pc' := 1361) C dL_law__1360 rfl rfl ?_
    refine mj_iconst (pc' := 1362) (v := 0) C dL_law__1361 rfl rfl ?_
    refine mj_lald (pc' := 1363) C dL_law__1362 rfl rfl (by decide) (by decide) (Nat.lt_of_lt_of_eq Nat.zero_lt_one h62.symm) (rfl : (0 : Int32) = nI 0) (by decide) ?_
    refine mj_iload (pc' := 1365) C dL_law__1363 rfl rfl ?_
    refine mj_i2l (pc' := 1366) C dL_law__1365 rfl ?_
    refine mj_lcmp (pc' := 1367) C dL_law__1366 rfl ?_
    refine mj_if_eq (tgt := 1372) (pc' := 1370) C dL_law__1367 (by decide) rfl (fun _ => ?_) (fun h9 => absurd (lgz ((((hF2 60 (Or.inr (by omega))).2 0 0).2.2.trans (hG h0)).trans (by rw [hv h0]))) h9)
    refine mj_goto (pc' := 1582) C dL_law__1372 (by decide) ?_
    exact fin _ _ _ _ _ _ hR2 hM2 (sA_s hA (o_get_s _ _ _)) h62 (by omega) (by omega)

set_option maxHeartbeats 2000000 in
set_option maxRecDepth 20000 in
theorem lk_setBudget {l : Launch} (hst : l.stackTraces = false) {J : Nat → List (Option jV) → List jV → jM → Nat → Nat → Prop} (C : jCtx l J cL_law_ 7 RL room_1 (some FieldType.boolean) 3 [] (fun _ _ => True) (fun _ _ => False) 0 0) {L9 : Nat} {xs : Nat → Int32} (Sc : jSc J cL_law_ L9 xs) (S : jS) (c : Nat) (μ : jM) (hc : c < 512) (hi : 5 * c + 5 ≤ L9) (hR : xR S μ) (hM : mR S μ) (hA : sA S) (h60 : mN μ 60 = 1) (fin : lFin J c) : J 1375 [some (aR 61 0), some (aR 0 0), some (aR 20 0), some (aR 60 0), some (aI (nI (5 * c))), none, none] [] μ (196 + 6 * c) (3380 + 60 * c) := by
  refine mj_aload_n (pc' := 1376) C dL_law__1375 rfl rfl ?_
  refine mj_aload_n (pc' := 1377) C dL_law__1376 rfl rfl ?_
  refine mj_iload (pc' := 1379) C dL_law__1377 rfl rfl ?_
  refine mj_iconst (pc' := 1380) (v := 1) C dL_law__1379 rfl rfl ?_
  refine mj_iadd (pc' := 1381) C dL_law__1380 rfl ?_
  refine Sc.ld (pc' := 1382) dL_law__1381 rfl (nI_add (5 * c) 1) (by omega) ?_
  refine mj_aload_n (pc' := 1383) C dL_law__1382 rfl rfl ?_
  refine mj_callW_3 (pc' := 1386) C (c_L_setBudget hst S (xs (5 * c + 1))) dL_law__1383 rfl km_L_159 ks_yL_setBudget kn_L kc_yL_setBudget ⟨by decide, by decide, by decide +kernel⟩ ⟨by decide, by decide⟩ (Nat.le_of_ble_eq_true rfl) ⟨by first | decide | (show _ ≤ (601024 : Nat); omega) | (show _ ≤ (7293034 : Nat); omega), by first | decide | (show _ ≤ (601024 : Nat); omega) | (show _ ≤ (7293034 : Nat); omega)⟩ ⟨rfl, hR, hA.1, (Nat.lt_of_lt_of_eq Nat.zero_lt_one h60.symm)⟩ (fun r1383 μ1383 hq1383 hm1383 => ?_)
  obtain ⟨rfl, hG, hR1, hF1⟩ := hq1383
  have hM1 := hM.keptL hF1
  have h61 : mN μ1383 60 = 1 := hF1.2.trans h60
  dsimp only [Option.toList, List.nil_append, List.cons_append]
  refine mj_istore_5 (pc' := 1388) C dL_law__1386 rfl (by decide) rfl ?_
  refine mj_aload_n (pc' := 1389) C dL_law__1388 rfl rfl ?_
  refine mj_aload_n (pc' := 1390) C dL_law__1389 rfl rfl ?_
  refine mj_iload (pc' := 1392) C dL_law__1390 rfl rfl ?_
  refine mj_iconst (pc' := 1393) (v := 1) C dL_law__1392 rfl rfl ?_
  refine mj_iadd (pc' := 1394) C dL_law__1393 rfl ?_
  refine Sc.ld (pc' := 1395) dL_law__1394 rfl (nI_add (5 * c) 1) (by omega) ?_
  refine mj_callVN_1 (ci := 6) (pc' := 1398) C (c_X6_setBudget hst S (xs (5 * c + 1))) dL_law__1395 rfl km_L_161 ki_yX6_setBudget kz_yX6_setBudget kn_X6 kc_yX6_setBudget rfl (by decide) (by decide) ⟨rfl, by decide, by decide, by decide +kernel⟩ ⟨by decide, by decide⟩ (Nat.le_of_ble_eq_true rfl) ⟨by first | decide | (show _ ≤ (601024 : Nat); omega) | (show _ ≤ (7293034 : Nat); omega), by first | decide | (show _ ≤ (601024 : Nat); omega) | (show _ ≤ (7293034 : Nat); omega)⟩ ⟨rfl, hM1, hA.1⟩ (fun r1395 μ1395 hq1395 hm1395 => ?_) (fun _ _ h9 => h9)
  obtain ⟨v, rfl, h35, hv, hM2, hF2⟩ := hq1395
  have hR2 := hR1.kept (fun kd hk => hF2 kd (Or.inl hk))
  have h62 : mN μ1395 60 = 1 := (hF2 60 (Or.inr (by omega))).1.trans h61
  dsimp only [Option.toList, List.nil_append, List.cons_append]
  refine mj_istore_6 (pc' := 1400) C dL_law__1398 rfl (by decide) rfl ?_
  refine mj_aload_n (pc' := 1401) C dL_law__1400 rfl rfl ?_
  refine mj_callVN_0 (ci := 6) (pc' := 1404) C (c_X6_thrown hst (o_setBudget S (xs (5 * c + 1))).2.2) dL_law__1401 rfl km_L_96 ki_yX6_thrown kz_yX6_thrown kn_X6 kc_yX6_thrown rfl (by decide) (by decide) ⟨rfl, by decide, by decide, by decide +kernel⟩ ⟨by decide, by decide⟩ (Nat.le_of_ble_eq_true rfl) ⟨by first | decide | (show _ ≤ (601024 : Nat); omega) | (show _ ≤ (7293034 : Nat); omega), by first | decide | (show _ ≤ (601024 : Nat); omega) | (show _ ≤ (7293034 : Nat); omega)⟩ ⟨rfl, hM2⟩ (fun r1401 μ1401 hq1401 hm1401 => ?_) (fun _ _ h9 => h9)
  obtain ⟨rfl, rfl⟩ := hq1401
  dsimp only [Option.toList, List.nil_append, List.cons_append]
  rw [h35]
  refine mj_iload (pc' := 1406) C dL_law__1404 rfl rfl ?_
  refine mj_icmp_eq (tgt := 1411) (pc' := 1409) C dL_law__1406 (by decide) rfl (fun _ => ?_) (fun h9 => absurd rfl h9)
  refine mj_iload (pc' := 1413) C dL_law__1411 rfl rfl ?_
  refine mj_if_ne (tgt := 1428) (pc' := 1416) C dL_law__1413 (by decide) rfl (fun hz => ?_) (fun hz => ?_)
  · refine mj_goto (pc' := 1582) C dL_law__1428 (by decide) ?_
    exact fin _ _ _ _ _ _ hR2 hM2 (A_setBudget hA _) h62 (by omega) (by omega)
  · have h0 : (o_setBudget S (xs (5 * c + 1))).1 = 0 := kC_0 (by rcases o_setBudget_c S (xs (5 * c + 1)) with h9 | ⟨h9, -⟩ <;> omega) hz
    refine mj_aload_n (pc' := 1417) C dL_law__1416 rfl rfl ?_
    refine mj_iconst (pc' := 1418) (v := 0) C dL_law__1417 rfl rfl ?_
    refine mj_lald (pc' := 1419) C dL_law__1418 rfl rfl (by decide) (by decide) (Nat.lt_of_lt_of_eq Nat.zero_lt_one h62.symm) (rfl : (0 : Int32) = nI 0) (by decide) ?_
    refine mj_iload (pc' := 1421) C dL_law__1419 rfl rfl ?_
    refine mj_i2l (pc' := 1422) C dL_law__1421 rfl ?_
    refine mj_lcmp (pc' := 1423) C dL_law__1422 rfl ?_
    refine mj_if_eq (tgt := 1428) (pc' := 1426) C dL_law__1423 (by decide) rfl (fun _ => ?_) (fun h9 => absurd (lgz ((((hF2 60 (Or.inr (by omega))).2 0 0).2.2.trans (hG h0)).trans (by rw [hv h0]))) h9)
    refine mj_goto (pc' := 1582) C dL_law__1428 (by decide) ?_
    exact fin _ _ _ _ _ _ hR2 hM2 (A_setBudget hA _) h62 (by omega) (by omega)

set_option maxHeartbeats 2000000 in
set_option maxRecDepth 20000 in
theorem lk_left {l : Launch} (hst : l.stackTraces = false) {J : Nat → List (Option jV) → List jV → jM → Nat → Nat → Prop} (C : jCtx l J cL_law_ 7 RL room_1 (some FieldType.boolean) 3 [] (fun _ _ => True) (fun _ _ => False) 0 0) {L9 : Nat} {xs : Nat → Int32} (Sc : jSc J cL_law_ L9 xs) (S : jS) (c : Nat) (μ : jM) (hc : c < 512) (hi : 5 * c + 5 ≤ L9) (hR : xR S μ) (hM : mR S μ) (hA : sA S) (h60 : mN μ 60 = 1) (fin : lFin J c) : J 1431 [some (aR 61 0), some (aR 0 0), some (aR 20 0), some (aR 60 0), some (aI (nI (5 * c))), none, none] [] μ (196 + 6 * c) (3380 + 60 * c) := by
  refine mj_aload_n (pc' := 1432) C dL_law__1431 rfl rfl ?_
  refine mj_callVN_0 (ci := 5) (pc' := 1435) C (c_X5_left hst S) dL_law__1432 rfl km_L_162 ki_yX5_left kz_yX5_left kn_X5 kc_yX5_left rfl (by decide) (by decide) ⟨rfl, by decide, by decide, by decide +kernel⟩ ⟨by decide, by decide⟩ (Nat.le_of_ble_eq_true rfl) ⟨by first | decide | (show _ ≤ (601024 : Nat); omega) | (show _ ≤ (7293034 : Nat); omega), by first | decide | (show _ ≤ (601024 : Nat); omega) | (show _ ≤ (7293034 : Nat); omega)⟩ ⟨rfl, hR, hA.1⟩ (fun r1432 μ1432 hq1432 hm1432 => ?_) (fun _ _ h9 => h9)
  obtain ⟨rfl, rfl⟩ := hq1432
  have hR1 := hR
  have hM1 := hM
  have h61 := h60
  dsimp only [Option.toList, List.nil_append, List.cons_append]
  refine mj_aload_n (pc' := 1436) C dL_law__1435 rfl rfl ?_
  refine mj_callVN_0 (ci := 6) (pc' := 1439) C (c_X6_left hst S) dL_law__1436 rfl km_L_165 ki_yX6_left kz_yX6_left kn_X6 kc_yX6_left rfl (by decide) (by decide) ⟨rfl, by decide, by decide, by decide +kernel⟩ ⟨by decide, by decide⟩ (Nat.le_of_ble_eq_true rfl) ⟨by first | decide | (show _ ≤ (601024 : Nat); omega) | (show _ ≤ (7293034 : Nat); omega), by first | decide | (show _ ≤ (601024 : Nat); omega) | (show _ ≤ (7293034 : Nat); omega)⟩ ⟨rfl, hM1, hA.1⟩ (fun r1436 μ1436 hq1436 hm1436 => ?_) (fun _ _ h9 => h9)
  obtain ⟨rfl, h35, hM2, hF2⟩ := hq1436
  have hR2 := hR1.kept (fun kd hk => hF2 kd (Or.inl hk))
  have h62 : mN μ1436 60 = 1 := (hF2 60 (Or.inr (by omega))).1.trans h61
  dsimp only [Option.toList, List.nil_append, List.cons_append]
  refine mj_icmp_eq (tgt := 1582) (pc' := 1442) C dL_law__1439 (by decide) rfl (fun _ => ?_) (fun h9 => absurd rfl h9)
  exact fin _ _ _ _ _ _ hR2 hM2 hA h62 (by omega) (by omega)

set_option maxHeartbeats 2000000 in
set_option maxRecDepth 20000 in
theorem lk_begin {l : Launch} (hst : l.stackTraces = false) {J : Nat → List (Option jV) → List jV → jM → Nat → Nat → Prop} (C : jCtx l J cL_law_ 7 RL room_1 (some FieldType.boolean) 3 [] (fun _ _ => True) (fun _ _ => False) 0 0) {L9 : Nat} {xs : Nat → Int32} (Sc : jSc J cL_law_ L9 xs) (S : jS) (c : Nat) (μ : jM) (hc : c < 512) (hi : 5 * c + 5 ≤ L9) (hR : xR S μ) (hM : mR S μ) (hA : sA S) (h60 : mN μ 60 = 1) (fin : lFin J c) : J 1444 [some (aR 61 0), some (aR 0 0), some (aR 20 0), some (aR 60 0), some (aI (nI (5 * c))), none, none] [] μ (196 + 6 * c) (3380 + 60 * c) := by
  refine mj_aload_n (pc' := 1445) C dL_law__1444 rfl rfl ?_
  refine mj_aload_n (pc' := 1446) C dL_law__1445 rfl rfl ?_
  refine mj_callW_2 (pc' := 1449) C (c_L_begin hst S) dL_law__1446 rfl km_L_166 ks_yL_begin kn_L kc_yL_begin ⟨by decide, by decide, by decide +kernel⟩ ⟨by decide, by decide⟩ (Nat.le_of_ble_eq_true rfl) ⟨by first | decide | (show _ ≤ (601024 : Nat); omega) | (show _ ≤ (7293034 : Nat); omega), by first | decide | (show _ ≤ (601024 : Nat); omega) | (show _ ≤ (7293034 : Nat); omega)⟩ ⟨rfl, hR, hA.1, (Nat.lt_of_lt_of_eq Nat.zero_lt_one h60.symm)⟩ (fun r1446 μ1446 hq1446 hm1446 => ?_)
  obtain ⟨rfl, hG, hR1, hF1⟩ := hq1446
  have hM1 := hM.keptL hF1
  have h61 : mN μ1446 60 = 1 := hF1.2.trans h60
  dsimp only [Option.toList, List.nil_append, List.cons_append]
  refine mj_istore_5 (pc' := 1451) C dL_law__1449 rfl (by decide) rfl ?_
  refine mj_aload_n (pc' := 1452) C dL_law__1451 rfl rfl ?_
  refine mj_callVN_0 (ci := 6) (pc' := 1455) C (c_X6_begin hst S) dL_law__1452 rfl km_L_169 ki_yX6_begin kz_yX6_begin kn_X6 kc_yX6_begin rfl (by decide) (by decide) ⟨rfl, by decide, by decide, by decide +kernel⟩ ⟨by decide, by decide⟩ (Nat.le_of_ble_eq_true rfl) ⟨by first | decide | (show _ ≤ (601024 : Nat); omega) | (show _ ≤ (7293034 : Nat); omega), by first | decide | (show _ ≤ (601024 : Nat); omega) | (show _ ≤ (7293034 : Nat); omega)⟩ ⟨rfl, hM1, hA.1⟩ (fun r1452 μ1452 hq1452 hm1452 => ?_) (fun _ _ h9 => h9)
  obtain ⟨v, rfl, h35, hv, hM2, hF2⟩ := hq1452
  have hR2 := hR1.kept (fun kd hk => hF2 kd (Or.inl hk))
  have h62 : mN μ1452 60 = 1 := (hF2 60 (Or.inr (by omega))).1.trans h61
  dsimp only [Option.toList, List.nil_append, List.cons_append]
  refine mj_istore_6 (pc' := 1457) C dL_law__1455 rfl (by decide) rfl ?_
  refine mj_aload_n (pc' := 1458) C dL_law__1457 rfl rfl ?_
  refine mj_callVN_0 (ci := 6) (pc' := 1461) C (c_X6_thrown hst (o_begin S).2.2) dL_law__1458 rfl km_L_96 ki_yX6_thrown kz_yX6_thrown kn_X6 kc_yX6_thrown rfl (by decide) (by decide) ⟨rfl, by decide, by decide, by decide +kernel⟩ ⟨by decide, by decide⟩ (Nat.le_of_ble_eq_true rfl) ⟨by first | decide | (show _ ≤ (601024 : Nat); omega) | (show _ ≤ (7293034 : Nat); omega), by first | decide | (show _ ≤ (601024 : Nat); omega) | (show _ ≤ (7293034 : Nat); omega)⟩ ⟨rfl, hM2⟩ (fun r1458 μ1458 hq1458 hm1458 => ?_) (fun _ _ h9 => h9)
  obtain ⟨rfl, rfl⟩ := hq1458
  dsimp only [Option.toList, List.nil_append, List.cons_append]
  rw [h35]
  refine mj_iload (pc' := 1463) C dL_law__1461 rfl rfl ?_
  refine mj_icmp_eq (tgt := 1468) (pc' := 1466) C dL_law__1463 (by decide) rfl (fun _ => ?_) (fun h9 => absurd rfl h9)
  refine mj_iload (pc' := 1470) C dL_law__1468 rfl rfl ?_
  refine mj_if_ne (tgt := 1485) (pc' := 1473) C dL_law__1470 (by decide) rfl (fun hz => ?_) (fun hz => ?_)
  · refine mj_goto (pc' := 1582) C dL_law__1485 (by decide) ?_
    exact fin _ _ _ _ _ _ hR2 hM2 (A_begin hA) h62 (by omega) (by omega)
  · have h0 : (o_begin S).1 = 0 := kD_0 (by rcases o_begin_c S with h9 | ⟨h9, -⟩ <;> omega) hz
    refine mj_aload_n (pc' := 1474) C dL_law__1473 rfl rfl ?_
    refine mj_iconst (pc' := 1475) (v := 0) C dL_law__1474 rfl rfl ?_
    refine mj_lald (pc' := 1476) C dL_law__1475 rfl rfl (by decide) (by decide) (Nat.lt_of_lt_of_eq Nat.zero_lt_one h62.symm) (rfl : (0 : Int32) = nI 0) (by decide) ?_
    refine mj_iload (pc' := 1478) C dL_law__1476 rfl rfl ?_
    refine mj_i2l (pc' := 1479) C dL_law__1478 rfl ?_
    refine mj_lcmp (pc' := 1480) C dL_law__1479 rfl ?_
    refine mj_if_eq (tgt := 1485) (pc' := 1483) C dL_law__1480 (by decide) rfl (fun _ => ?_) (fun h9 => absurd (lgz ((((hF2 60 (Or.inr (by omega))).2 0 0).2.2.trans (hG h0)).trans (by rw [hv h0]))) h9)
    refine mj_goto (pc' := 1582) C dL_law__1485 (by decide) ?_
    exact fin _ _ _ _ _ _ hR2 hM2 (A_begin hA) h62 (by omega) (by omega)

set_option maxHeartbeats 2000000 in
set_option maxRecDepth 20000 in
theorem lk_year {l : Launch} (hst : l.stackTraces = false) {J : Nat → List (Option jV) → List jV → jM → Nat → Nat → Prop} (C : jCtx l J cL_law_ 7 RL room_1 (some FieldType.boolean) 3 [] (fun _ _ => True) (fun _ _ => False) 0 0) {L9 : Nat} {xs : Nat → Int32} (Sc : jSc J cL_law_ L9 xs) (S : jS) (c : Nat) (μ : jM) (hc : c < 512) (hi : 5 * c + 5 ≤ L9) (hR : xR S μ) (hM : mR S μ) (hA : sA S) (h60 : mN μ 60 = 1) (fin : lFin J c) : J 1488 [some (aR 61 0), some (aR 0 0), some (aR 20 0), some (aR 60 0), some (aI (nI (5 * c))), none, none] [] μ (196 + 6 * c) (3380 + 60 * c) := by
  refine mj_aload_n (pc' := 1489) C dL_law__1488 rfl rfl ?_
  refine mj_callVN_0 (ci := 5) (pc' := 1492) C (c_X5_year hst S) dL_law__1489 rfl km_L_170 ki_yX5_year kz_yX5_year kn_X5 kc_yX5_year rfl (by decide) (by decide) ⟨rfl, by decide, by decide, by decide +kernel⟩ ⟨by decide, by decide⟩ (Nat.le_of_ble_eq_true rfl) ⟨by first | decide | (show _ ≤ (601024 : Nat); omega) | (show _ ≤ (7293034 : Nat); omega), by first | decide | (show _ ≤ (601024 : Nat); omega) | (show _ ≤ (7293034 : Nat); omega)⟩ ⟨rfl, hR, hA.1⟩ (fun r1489 μ1489 hq1489 hm1489 => ?_) (fun _ _ h9 => h9)
  obtain ⟨rfl, rfl⟩ := hq1489
  have hR1 := hR
  have hM1 := hM
  have h61 := h60
  dsimp only [Option.toList, List.nil_append, List.cons_append]
  refine mj_aload_n (pc' := 1493) C dL_law__1492 rfl rfl ?_
  refine mj_callVN_0 (ci := 6) (pc' := 1496) C (c_X6_year hst S) dL_law__1493 rfl km_L_173 ki_yX6_year kz_yX6_year kn_X6 kc_yX6_year rfl (by decide) (by decide) ⟨rfl, by decide, by decide, by decide +kernel⟩ ⟨by decide, by decide⟩ (Nat.le_of_ble_eq_true rfl) ⟨by first | decide | (show _ ≤ (601024 : Nat); omega) | (show _ ≤ (7293034 : Nat); omega), by first | decide | (show _ ≤ (601024 : Nat); omega) | (show _ ≤ (7293034 : Nat); omega)⟩ ⟨rfl, hM1, hA.1⟩ (fun r1493 μ1493 hq1493 hm1493 => ?_) (fun _ _ h9 => h9)
  obtain ⟨rfl, h35, hM2, hF2⟩ := hq1493
  have hR2 := hR1.kept (fun kd hk => hF2 kd (Or.inl hk))
  have h62 : mN μ1493 60 = 1 := (hF2 60 (Or.inr (by omega))).1.trans h61
  dsimp only [Option.toList, List.nil_append, List.cons_append]
  refine mj_icmp_eq (tgt := 1582) (pc' := 1499) C dL_law__1496 (by decide) rfl (fun _ => ?_) (fun h9 => absurd rfl h9)
  exact fin _ _ _ _ _ _ hR2 hM2 hA h62 (by omega) (by omega)

set_option maxHeartbeats 2000000 in
set_option maxRecDepth 20000 in
theorem lk_overdue {l : Launch} (hst : l.stackTraces = false) {J : Nat → List (Option jV) → List jV → jM → Nat → Nat → Prop} (C : jCtx l J cL_law_ 7 RL room_1 (some FieldType.boolean) 3 [] (fun _ _ => True) (fun _ _ => False) 0 0) {L9 : Nat} {xs : Nat → Int32} (Sc : jSc J cL_law_ L9 xs) (S : jS) (c : Nat) (μ : jM) (hc : c < 512) (hi : 5 * c + 5 ≤ L9) (hR : xR S μ) (hM : mR S μ) (hA : sA S) (h60 : mN μ 60 = 1) (fin : lFin J c) : J 1501 [some (aR 61 0), some (aR 0 0), some (aR 20 0), some (aR 60 0), some (aI (nI (5 * c))), none, none] [] μ (196 + 6 * c) (3380 + 60 * c) := by
  refine mj_aload_n (pc' := 1502) C dL_law__1501 rfl rfl ?_
  refine mj_callVN_0 (ci := 5) (pc' := 1505) C (c_X5_overdue hst S) dL_law__1502 rfl km_L_174 ki_yX5_overdue kz_yX5_overdue kn_X5 kc_yX5_overdue rfl (by decide) (by decide) ⟨rfl, by decide, by decide, by decide +kernel⟩ ⟨by decide, by decide⟩ (Nat.le_of_ble_eq_true rfl) ⟨by first | decide | (show _ ≤ (601024 : Nat); omega) | (show _ ≤ (7293034 : Nat); omega), by first | decide | (show _ ≤ (601024 : Nat); omega) | (show _ ≤ (7293034 : Nat); omega)⟩ ⟨rfl, hR, hA.1⟩ (fun r1502 μ1502 hq1502 hm1502 => ?_) (fun _ _ h9 => h9)
  obtain ⟨rfl, rfl⟩ := hq1502
  have hR1 := hR
  have hM1 := hM
  have h61 := h60
  dsimp only [Option.toList, List.nil_append, List.cons_append]
  refine mj_aload_n (pc' := 1506) C dL_law__1505 rfl rfl ?_
  refine mj_callVN_0 (ci := 6) (pc' := 1509) C (c_X6_overdue hst S) dL_law__1506 rfl km_L_177 ki_yX6_overdue kz_yX6_overdue kn_X6 kc_yX6_overdue rfl (by decide) (by decide) ⟨rfl, by decide, by decide, by decide +kernel⟩ ⟨by decide, by decide⟩ (Nat.le_of_ble_eq_true rfl) ⟨by first | decide | (show _ ≤ (601024 : Nat); omega) | (show _ ≤ (7293034 : Nat); omega), by first | decide | (show _ ≤ (601024 : Nat); omega) | (show _ ≤ (7293034 : Nat); omega)⟩ ⟨rfl, hM1, hA.1⟩ (fun r1506 μ1506 hq1506 hm1506 => ?_) (fun _ _ h9 => h9)
  obtain ⟨rfl, h35, hM2, hF2⟩ := hq1506
  have hR2 := hR1.kept (fun kd hk => hF2 kd (Or.inl hk))
  have h62 : mN μ1506 60 = 1 := (hF2 60 (Or.inr (by omega))).1.trans h61
  dsimp only [Option.toList, List.nil_append, List.cons_append]
  refine mj_icmp_eq (tgt := 1582) (pc' := 1512) C dL_law__1509 (by decide) rfl (fun _ => ?_) (fun h9 => absurd rfl h9)
  exact fin _ _ _ _ _ _ hR2 hM2 hA h62 (by omega) (by omega)

set_option maxHeartbeats 2000000 in
set_option maxRecDepth 20000 in
theorem lk_promise {l : Launch} (hst : l.stackTraces = false) {J : Nat → List (Option jV) → List jV → jM → Nat → Nat → Prop} (C : jCtx l J cL_law_ 7 RL room_1 (some FieldType.boolean) 3 [] (fun _ _ => True) (fun _ _ => False) 0 0) {L9 : Nat} {xs : Nat → Int32} (Sc : jSc J cL_law_ L9 xs) (S : jS) (c : Nat) (μ : jM) (hc : c < 512) (hi : 5 * c + 5 ≤ L9) (hR : xR S μ) (hM : mR S μ) (hA : sA S) (h60 : mN μ 60 = 1) (fin : lFin J c) : J 1514 [some (aR 61 0), some (aR 0 0), some (aR 20 0), some (aR 60 0), some (aI (nI (5 * c))), none, none] [] μ (196 + 6 * c) (3380 + 60 * c) := by
  refine mj_aload_n (pc' := 1515) C dL_law__1514 rfl rfl ?_
  refine mj_aload_n (pc' := 1516) C dL_law__1515 rfl rfl ?_
  refine mj_iload (pc' := 1518) C dL_law__1516 rfl rfl ?_
  refine mj_iconst (pc' := 1519) (v := 1) C dL_law__1518 rfl rfl ?_
  refine mj_iadd (pc' := 1520) C dL_law__1519 rfl ?_
  refine Sc.ld (pc' := 1521) dL_law__1520 rfl (nI_add (5 * c) 1) (by omega) ?_
  refine mj_aload_n (pc' := 1522) C dL_law__1521 rfl rfl ?_
  refine mj_iload (pc' := 1524) C dL_law__1522 rfl rfl ?_
  refine mj_iconst (pc' := 1525) (v := 2) C dL_law__1524 rfl rfl ?_
  refine mj_iadd (pc' := 1526) C dL_law__1525 rfl ?_
  refine Sc.ld (pc' := 1527) dL_law__1526 rfl (nI_add (5 * c) 2) (by omega) ?_
  refine mj_aload_n (pc' := 1528) C dL_law__1527 rfl rfl ?_
  refine mj_callW_4 (pc' := 1531) C (c_L_promise hst S (xs (5 * c + 1)) (xs (5 * c + 2))) dL_law__1528 rfl km_L_178 ks_yL_promise kn_L kc_yL_promise ⟨by decide, by decide, by decide +kernel⟩ ⟨by decide, by decide⟩ (Nat.le_of_ble_eq_true rfl) ⟨by first | decide | (show _ ≤ (601024 : Nat); omega) | (show _ ≤ (7293034 : Nat); omega), by first | decide | (show _ ≤ (601024 : Nat); omega) | (show _ ≤ (7293034 : Nat); omega)⟩ ⟨rfl, hR, hA.1, (Nat.lt_of_lt_of_eq Nat.zero_lt_one h60.symm)⟩ (fun r1528 μ1528 hq1528 hm1528 => ?_)
  obtain ⟨rfl, hG, hR1, hF1⟩ := hq1528
  have hM1 := hM.keptL hF1
  have h61 : mN μ1528 60 = 1 := hF1.2.trans h60
  dsimp only [Option.toList, List.nil_append, List.cons_append]
  refine mj_istore_5 (pc' := 1533) C dL_law__1531 rfl (by decide) rfl ?_
  refine mj_aload_n (pc' := 1534) C dL_law__1533 rfl rfl ?_
  refine mj_aload_n (pc' := 1535) C dL_law__1534 rfl rfl ?_
  refine mj_iload (pc' := 1537) C dL_law__1535 rfl rfl ?_
  refine mj_iconst (pc' := 1538) (v := 1) C dL_law__1537 rfl rfl ?_
  refine mj_iadd (pc' := 1539) C dL_law__1538 rfl ?_
  refine Sc.ld (pc' := 1540) dL_law__1539 rfl (nI_add (5 * c) 1) (by omega) ?_
  refine mj_aload_n (pc' := 1541) C dL_law__1540 rfl rfl ?_
  refine mj_iload (pc' := 1543) C dL_law__1541 rfl rfl ?_
  refine mj_iconst (pc' := 1544) (v := 2) C dL_law__1543 rfl rfl ?_
  refine mj_iadd (pc' := 1545) C dL_law__1544 rfl ?_
  refine Sc.ld (pc' := 1546) dL_law__1545 rfl (nI_add (5 * c) 2) (by omega) ?_
  refine mj_callVN_2 (ci := 6) (pc' := 1549) C (c_X6_promise hst S (xs (5 * c + 1)) (xs (5 * c + 2))) dL_law__1546 rfl km_L_180 ki_yX6_promise kz_yX6_promise kn_X6 kc_yX6_promise rfl (by decide) (by decide) ⟨rfl, by decide, by decide, by decide +kernel⟩ ⟨by decide, by decide⟩ (Nat.le_of_ble_eq_true rfl) ⟨by first | decide | (show _ ≤ (601024 : Nat); omega) | (show _ ≤ (7293034 : Nat); omega), by first | decide | (show _ ≤ (601024 : Nat); omega) | (show _ ≤ (7293034 : Nat); omega)⟩ ⟨rfl, hM1, hA.1⟩ (fun r1546 μ1546 hq1546 hm1546 => ?_) (fun _ _ h9 => h9)
  obtain ⟨v, rfl, h35, hv, hM2, hF2⟩ := hq1546
  have hR2 := hR1.kept (fun kd hk => hF2 kd (Or.inl hk))
  have h62 : mN μ1546 60 = 1 := (hF2 60 (Or.inr (by omega))).1.trans h61
  dsimp only [Option.toList, List.nil_append, List.cons_append]
  refine mj_istore_6 (pc' := 1551) C dL_law__1549 rfl (by decide) rfl ?_
  refine mj_aload_n (pc' := 1552) C dL_law__1551 rfl rfl ?_
  refine mj_callVN_0 (ci := 6) (pc' := 1555) C (c_X6_thrown hst (o_promise S (xs (5 * c + 1)) (xs (5 * c + 2))).2.2) dL_law__1552 rfl km_L_96 ki_yX6_thrown kz_yX6_thrown kn_X6 kc_yX6_thrown rfl (by decide) (by decide) ⟨rfl, by decide, by decide, by decide +kernel⟩ ⟨by decide, by decide⟩ (Nat.le_of_ble_eq_true rfl) ⟨by first | decide | (show _ ≤ (601024 : Nat); omega) | (show _ ≤ (7293034 : Nat); omega), by first | decide | (show _ ≤ (601024 : Nat); omega) | (show _ ≤ (7293034 : Nat); omega)⟩ ⟨rfl, hM2⟩ (fun r1552 μ1552 hq1552 hm1552 => ?_) (fun _ _ h9 => h9)
  obtain ⟨rfl, rfl⟩ := hq1552
  dsimp only [Option.toList, List.nil_append, List.cons_append]
  rw [h35]
  refine mj_iload (pc' := 1557) C dL_law__1555 rfl rfl ?_
  refine mj_icmp_eq (tgt := 1562) (pc' := 1560) C dL_law__1557 (by decide) rfl (fun _ => ?_) (fun h9 => absurd rfl h9)
  refine mj_iload (pc' := 1564) C dL_law__1562 rfl rfl ?_
  refine mj_if_ne (tgt := 1579) (pc' := 1567) C dL_law__1564 (by decide) rfl (fun hz => ?_) (fun hz => ?_)
  · refine mj_goto (pc' := 1582) C dL_law__1579 (by decide) ?_
    exact fin _ _ _ _ _ _ hR2 hM2 (sA_s hA (o_promise_s _ _ _)) h62 (by omega) (by omega)
  · have h0 : (o_promise S (xs (5 * c + 1)) (xs (5 * c + 2))).1 = 0 := kA_0 (by rcases o_promise_c S (xs (5 * c + 1)) (xs (5 * c + 2)) with h9 | ⟨h9, -⟩ <;> omega) hz
    refine mj_aload_n (pc' := 1568) C dL_law__1567 rfl rfl ?_
    refine mj_iconst (pc' := 1569) (v := 0) C dL_law__1568 rfl rfl ?_
    refine mj_lald (pc' := 1570) C dL_law__1569 rfl rfl (by decide) (by decide) (Nat.lt_of_lt_of_eq Nat.zero_lt_one h62.symm) (rfl : (0 : Int32) = nI 0) (by decide) ?_
    refine mj_iload (pc' := 1572) C dL_law__1570 rfl rfl ?_
    refine mj_i2l (pc' := 1573) C dL_law__1572 rfl ?_
    refine mj_lcmp (pc' := 1574) C dL_law__1573 rfl ?_
    refine mj_if_eq (tgt := 1579) (pc' := 1577) C dL_law__1574 (by decide) rfl (fun _ => ?_) (fun h9 => absurd (lgz ((((hF2 60 (Or.inr (by omega))).2 0 0).2.2.trans (hG h0)).trans (by rw [hv h0]))) h9)
    refine mj_goto (pc' := 1582) C dL_law__1579 (by decide) ?_
    exact fin _ _ _ _ _ _ hR2 hM2 (sA_s hA (o_promise_s _ _ _)) h62 (by omega) (by omega)
