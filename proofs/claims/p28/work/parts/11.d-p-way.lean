/-! THE LAW FOLLOWS THE BEST WAY -/
theorem shr_bit (m : Int32) {t : Nat} (ht : t < 10) (h : m &&& (1 <<< (nI t &&& 31)) = 0) : ¬ (m >>> (nI t &&& 31)) &&& 1 = 1 := by
  intro q
  have h1 : ((m >>> (nI t &&& 31)) &&& 1).toBitVec.getLsbD 0 = true := by rw [q]; decide
  have h2 : (m &&& (1 <<< (nI t &&& 31))).toBitVec.getLsbD t = false := by rw [h]; exact BitVec.getLsbD_zero
  rw [Int32.toBitVec_and, BitVec.getLsbD_and] at h1 h2
  rcases (show t = 0 ∨ t = 1 ∨ t = 2 ∨ t = 3 ∨ t = 4 ∨ t = 5 ∨ t = 6 ∨ t = 7 ∨ t = 8 ∨ t = 9 by omega) with rfl | rfl | rfl | rfl | rfl | rfl | rfl | rfl | rfl | rfl
  · have e : (nI 0 &&& 31) = 0 := by decide
    rw [e] at h1 h2
    have e2 : ((1 : Int32) <<< (0 : Int32)).toBitVec.getLsbD 0 = true := by decide
    rw [e2, Bool.and_true] at h2
    have e3 : (m >>> (0 : Int32)).toBitVec.getLsbD 0 = m.toBitVec.getLsbD 0 := by
      rw [Int32.toBitVec_shiftRight, show ((0 : Int32).toBitVec.smod 32) = 0#32 from by decide, BitVec.sshiftRight_eq', BitVec.getLsbD_sshiftRight]
      simp
    rw [e3, h2] at h1
    cases h1
  · have e : (nI 1 &&& 31) = 1 := by decide
    rw [e] at h1 h2
    have e2 : ((1 : Int32) <<< (1 : Int32)).toBitVec.getLsbD 1 = true := by decide
    rw [e2, Bool.and_true] at h2
    have e3 : (m >>> (1 : Int32)).toBitVec.getLsbD 0 = m.toBitVec.getLsbD 1 := by
      rw [Int32.toBitVec_shiftRight, show ((1 : Int32).toBitVec.smod 32) = 1#32 from by decide, BitVec.sshiftRight_eq', BitVec.getLsbD_sshiftRight]
      simp
    rw [e3, h2] at h1
    cases h1
  · have e : (nI 2 &&& 31) = 2 := by decide
    rw [e] at h1 h2
    have e2 : ((1 : Int32) <<< (2 : Int32)).toBitVec.getLsbD 2 = true := by decide
    rw [e2, Bool.and_true] at h2
    have e3 : (m >>> (2 : Int32)).toBitVec.getLsbD 0 = m.toBitVec.getLsbD 2 := by
      rw [Int32.toBitVec_shiftRight, show ((2 : Int32).toBitVec.smod 32) = 2#32 from by decide, BitVec.sshiftRight_eq', BitVec.getLsbD_sshiftRight]
      simp
    rw [e3, h2] at h1
    cases h1
  · have e : (nI 3 &&& 31) = 3 := by decide
    rw [e] at h1 h2
    have e2 : ((1 : Int32) <<< (3 : Int32)).toBitVec.getLsbD 3 = true := by decide
    rw [e2, Bool.and_true] at h2
    have e3 : (m >>> (3 : Int32)).toBitVec.getLsbD 0 = m.toBitVec.getLsbD 3 := by
      rw [Int32.toBitVec_shiftRight, show ((3 : Int32).toBitVec.smod 32) = 3#32 from by decide, BitVec.sshiftRight_eq', BitVec.getLsbD_sshiftRight]
      simp
    rw [e3, h2] at h1
    cases h1
  · have e : (nI 4 &&& 31) = 4 := by decide
    rw [e] at h1 h2
    have e2 : ((1 : Int32) <<< (4 : Int32)).toBitVec.getLsbD 4 = true := by decide
    rw [e2, Bool.and_true] at h2
    have e3 : (m >>> (4 : Int32)).toBitVec.getLsbD 0 = m.toBitVec.getLsbD 4 := by
      rw [Int32.toBitVec_shiftRight, show ((4 : Int32).toBitVec.smod 32) = 4#32 from by decide, BitVec.sshiftRight_eq', BitVec.getLsbD_sshiftRight]
      simp
    rw [e3, h2] at h1
    cases h1
  · have e : (nI 5 &&& 31) = 5 := by decide
    rw [e] at h1 h2
    have e2 : ((1 : Int32) <<< (5 : Int32)).toBitVec.getLsbD 5 = true := by decide
    rw [e2, Bool.and_true] at h2
    have e3 : (m >>> (5 : Int32)).toBitVec.getLsbD 0 = m.toBitVec.getLsbD 5 := by
      rw [Int32.toBitVec_shiftRight, show ((5 : Int32).toBitVec.smod 32) = 5#32 from by decide, BitVec.sshiftRight_eq', BitVec.getLsbD_sshiftRight]
      simp
    rw [e3, h2] at h1
    cases h1
  · have e : (nI 6 &&& 31) = 6 := by decide
    rw [e] at h1 h2
    have e2 : ((1 : Int32) <<< (6 : Int32)).toBitVec.getLsbD 6 = true := by decide
    rw [e2, Bool.and_true] at h2
    have e3 : (m >>> (6 : Int32)).toBitVec.getLsbD 0 = m.toBitVec.getLsbD 6 := by
      rw [Int32.toBitVec_shiftRight, show ((6 : Int32).toBitVec.smod 32) = 6#32 from by decide, BitVec.sshiftRight_eq', BitVec.getLsbD_sshiftRight]
      simp
    rw [e3, h2] at h1
    cases h1
  · have e : (nI 7 &&& 31) = 7 := by decide
    rw [e] at h1 h2
    have e2 : ((1 : Int32) <<< (7 : Int32)).toBitVec.getLsbD 7 = true := by decide
    rw [e2, Bool.and_true] at h2
    have e3 : (m >>> (7 : Int32)).toBitVec.getLsbD 0 = m.toBitVec.getLsbD 7 := by
      rw [Int32.toBitVec_shiftRight, show ((7 : Int32).toBitVec.smod 32) = 7#32 from by decide, BitVec.sshiftRight_eq', BitVec.getLsbD_sshiftRight]
      simp
    rw [e3, h2] at h1
    cases h1
  · have e : (nI 8 &&& 31) = 8 := by decide
    rw [e] at h1 h2
    have e2 : ((1 : Int32) <<< (8 : Int32)).toBitVec.getLsbD 8 = true := by decide
    rw [e2, Bool.and_true] at h2
    have e3 : (m >>> (8 : Int32)).toBitVec.getLsbD 0 = m.toBitVec.getLsbD 8 := by
      rw [Int32.toBitVec_shiftRight, show ((8 : Int32).toBitVec.smod 32) = 8#32 from by decide, BitVec.sshiftRight_eq', BitVec.getLsbD_sshiftRight]
      simp
    rw [e3, h2] at h1
    cases h1
  · have e : (nI 9 &&& 31) = 9 := by decide
    rw [e] at h1 h2
    have e2 : ((1 : Int32) <<< (9 : Int32)).toBitVec.getLsbD 9 = true := by decide
    rw [e2, Bool.and_true] at h2
    have e3 : (m >>> (9 : Int32)).toBitVec.getLsbD 0 = m.toBitVec.getLsbD 9 := by
      rw [Int32.toBitVec_shiftRight, show ((9 : Int32).toBitVec.smod 32) = 9#32 from by decide, BitVec.sshiftRight_eq', BitVec.getLsbD_sshiftRight]
      simp
    rw [e3, h2] at h1
    cases h1
theorem sp_of {w : List Nat} {p : Nat} (h : p < w.length) : ∃ c, w.getD p 0 = c ∧ w.take (p + 1) = w.take p ++ [c] ∧ w.drop p = c :: w.drop (p + 1) := by
  refine ⟨w[p], ?_, ?_, ?_⟩
  · simp [h]
  · rw [List.take_add_one, List.getElem?_eq_getElem h]
    rfl
  · exact List.drop_eq_getElem_cons h

set_option maxHeartbeats 2000000 in
set_option maxRecDepth 20000 in
theorem isW_54 {l : Launch} (hst : l.stackTraces = false) {J : Nat → List (Option jV) → List jV → jM → Nat → Nat → Prop} {μ0 : jM} (S : jS) (a b : Nat) (C : jCtx l J cL_isWay 15 RL { frames := 18, cells := 40, slots := 240, locals := 580 } (some FieldType.boolean) 0 [] (fun r μ' => r = some (aI 1) ∧ xR S μ' ∧ xF μ0 μ') (fun _ _ => False) 40 240) (hW : sW S) (ha : a < 10) (hb9 : b < 10) {w : List Nat} (hB : best S a b = some (ent S w)) (hv : vl S a b w) {μ : jM} (hR : xR S μ) (hP : pR S μ) (hF : xF μ0 μ) : J 54 [some (aR 0 0), some (aI (nI a)), some (aI (nI b)), some (aR 22 0), some (aR 23 0), some (aR 24 0), some (aR 25 0), some (aI (nI (sn S 1))), some (aI (nI (qN S w 1000))), none, none, none, none, none, none] [] μ 4 24 := by
  have hbw : bw (best S a b) = w := by rw [hB]; rfl
  have hl9 : (bw (best S a b)).length ≤ 9 := by rw [hbw]; exact hv.2
  have hl := hv.2
  refine mj_iload_n (pc' := 55) C dL_isWay_54 rfl rfl ?_
  refine mj_istore_9 (pc' := 57) C dL_isWay_55 rfl (by decide) rfl ?_
  refine mj_iconst (pc' := 58) (v := 1) C dL_isWay_57 rfl rfl ?_
  refine mj_iload_n (pc' := 59) C dL_isWay_58 rfl rfl ?_
  refine mj_ishl (pc' := 60) C dL_isWay_59 rfl ?_
  refine mj_istore_10 (pc' := 62) C dL_isWay_60 rfl (by decide) rfl ?_
  refine mj_sipush (pc' := 65) (v := 1000) C dL_isWay_62 rfl rfl ?_
  refine mj_istore_11 (pc' := 67) C dL_isWay_65 rfl (by decide) rfl ?_
  refine mj_iconst (pc' := 68) (v := 0) C dL_isWay_67 rfl rfl ?_
  refine mj_istore_12 (pc' := 70) C dL_isWay_68 rfl (by decide) rfl ?_
  refine mj_iconst (pc' := 71) (v := 0) C dL_isWay_70 rfl rfl ?_
  refine mj_istore_13 (pc' := 73) C dL_isWay_71 rfl (by decide) rfl ?_
  refine mj_aload_n (pc' := 74) C dL_isWay_73 rfl rfl ?_
  refine mj_iload_n (pc' := 75) C dL_isWay_74 rfl rfl ?_
  refine mj_iload_n (pc' := 76) C dL_isWay_75 rfl rfl ?_
  refine mj_iconst (pc' := 77) (v := 0) C dL_isWay_76 rfl rfl ?_
  refine mj_callVN_3 (ci := 5) (pc' := 80) C (c_X5_stepAt hst S (nI a) (nI b) (nI 0)) dL_isWay_77 rfl km_L_22 ki_yX5_stepAt kz_yX5_stepAt kn_X5 kc_yX5_stepAt rfl (by decide) (by decide) ⟨rfl, by decide, by decide, by decide +kernel⟩ ⟨by decide, by decide⟩ (Nat.le_of_ble_eq_true rfl) ⟨by first | decide | (show _ ≤ (40 : Nat); omega) | (show _ ≤ (240 : Nat); omega), by first | decide | (show _ ≤ (40 : Nat); omega) | (show _ ≤ (240 : Nat); omega)⟩ ⟨rfl, hR, hW⟩ (fun r77 μ77 hq77 hm77 => ?_) (fun _ _ h9 => jno_of (oe_step ha hb9 (by omega) hl9) h9)
  obtain ⟨rfl, hR77, hF77⟩ := jret_of (oe_step ha hb9 (by omega) hl9) hq77
  dsimp only [Option.toList, List.nil_append, List.cons_append]
  have hR := hR77
  have hF := hF.tr hF77
  have hP := hP.kept hF77
  rw [hbw]
  refine mj_istore_14 (pc' := 82) C dL_isWay_80 rfl (by decide) rfl ?_
  have loop : ∀ (d : Nat) (p x : Nat) (msk : Int32) (μ1 : jM), p + d = w.length → okw S a [a] (w.take p) x → okw S x (vs S [a] (w.take p)) (w.drop p) b → hb msk (vs S [a] (w.take p)) → xR S μ1 → pR S μ1 → xF μ0 μ1 → J 82 [some (aR 0 0), some (aI (nI a)), some (aI (nI b)), some (aR 22 0), some (aR 23 0), some (aR 24 0), some (aR 25 0), some (aI (nI (sn S 1))), some (aI (nI (qN S w 1000))), some (aI (nI x)), some (aI msk), some (aI (nI (qN S (w.take p) 1000))), some (aI (nI (cN S (w.take p) 0))), some (aI (nI p)), some (aI (if p < w.length then nI (w.getD p 0) else -1))] [] μ1 (7 + 3 * p) (42 + 18 * p) := by
    intro d
    induction d with
    | zero =>
      intro p x msk μ1 hd h1 h2 hm hR hP hF
      obtain rfl : p = w.length := by omega
      rw [if_neg (Nat.lt_irrefl _)]
      rw [List.drop_length] at h2
      obtain rfl : x = b := h2
      rw [List.take_length]
      refine mj_iload (pc' := 84) C dL_isWay_82 rfl rfl ?_
      refine mj_iconst (pc' := 85) (v := (-1)) C dL_isWay_84 rfl rfl ?_
      refine mj_icmp_eq (tgt := 201) (pc' := 88) C dL_isWay_85 (by decide) rfl (fun _ => ?_) (fun h9 => absurd rfl h9)
      refine mj_iload (pc' := 203) C dL_isWay_201 rfl rfl ?_
      refine mj_iload_n (pc' := 204) C dL_isWay_203 rfl rfl ?_
      refine mj_icmp_ne (tgt := 229) (pc' := 207) C dL_isWay_204 (by decide) rfl (fun h9 => absurd rfl h9) (fun _ => ?_)
      refine mj_iload (pc' := 209) C dL_isWay_207 rfl rfl ?_
      refine mj_iload (pc' := 211) C dL_isWay_209 rfl rfl ?_
      refine mj_icmp_ne (tgt := 229) (pc' := 214) C dL_isWay_211 (by decide) rfl (fun h9 => absurd rfl h9) (fun _ => ?_)
      refine mj_iload (pc' := 216) C dL_isWay_214 rfl rfl ?_
      refine mj_aload_n (pc' := 217) C dL_isWay_216 rfl rfl ?_
      refine mj_iload_n (pc' := 218) C dL_isWay_217 rfl rfl ?_
      refine mj_iload_n (pc' := 219) C dL_isWay_218 rfl rfl ?_
      refine mj_callVN_2 (ci := 5) (pc' := 222) C (c_X5_cost hst S (nI a) (nI x)) dL_isWay_219 rfl km_L_19 ki_yX5_cost kz_yX5_cost kn_X5 kc_yX5_cost rfl (by decide) (by decide) ⟨rfl, by decide, by decide, by decide +kernel⟩ ⟨by decide, by decide⟩ (Nat.le_of_ble_eq_true rfl) ⟨by first | decide | (show _ ≤ (40 : Nat); omega) | (show _ ≤ (240 : Nat); omega), by first | decide | (show _ ≤ (40 : Nat); omega) | (show _ ≤ (240 : Nat); omega)⟩ ⟨rfl, hR, hW⟩ (fun r219 μ219 hq219 hm219 => ?_) (fun _ _ h9 => jno_of (oe_cost ha hb9) h9)
      obtain ⟨rfl, hR219, hF219⟩ := jret_of (oe_cost ha hb9) hq219
      dsimp only [Option.toList, List.nil_append, List.cons_append]
      have hR := hR219
      have hF := hF.tr hF219
      have hP := hP.kept hF219
      refine mj_icmp_ne (tgt := 229) (pc' := 225) C dL_isWay_222 (by decide) rfl (fun h9 => absurd (by rw [hB]; rfl) h9) (fun _ => ?_)
      refine mj_iconst (pc' := 226) (v := 1) C dL_isWay_225 rfl rfl ?_
      refine mj_goto (pc' := 230) C dL_isWay_226 (by decide) ?_
      refine mj_zret C (by decide) dL_isWay_230 (by decide) (by first | decide | (show _ ≤ (40 : Nat); omega) | (show _ ≤ (240 : Nat); omega)) (by first | decide | (show _ ≤ (40 : Nat); omega) | (show _ ≤ (240 : Nat); omega)) ?_
      exact ⟨rfl, hR, hF⟩
    | succ d ih =>
      intro p x msk μ1 hd h1 h2 hm hR hP hF
      have hlt : p < w.length := by omega
      obtain ⟨c, ec, et, ed⟩ := sp_of hlt
      rw [if_pos hlt, ec]
      rw [ed] at h2
      obtain ⟨hc, ⟨o1, o2, o3⟩, h3⟩ := h2
      obtain ⟨-, ⟨t, ht, et2⟩, ⟨lo, hlo, elo⟩, -⟩ := hW.2.1 c hc
      have etO : tO S c = t := by unfold tO; rw [et2]; exact ix_nI (by omega)
      have hw30 := hW.1.2
      have epf : pf S 3 c = sf S 3 c := if_neg (fun q => q.2 o1)
      refine mj_iload (pc' := 84) C dL_isWay_82 rfl rfl ?_
      refine mj_iconst (pc' := 85) (v := (-1)) C dL_isWay_84 rfl rfl ?_
      refine mj_icmp_eq (tgt := 201) (pc' := 88) C dL_isWay_85 (by decide) rfl (fun h9 => absurd h9 (nI_m1 (by omega))) (fun _ => ?_)
      refine mj_iload (pc' := 90) C dL_isWay_88 rfl rfl ?_
      refine mj_bipush (pc' := 92) (v := 8) C dL_isWay_90 rfl rfl ?_
      refine mj_icmp_gt (tgt := 139) (pc' := 95) C dL_isWay_92 (by decide) rfl (fun h9 => absurd h9 (nI_nlt (b := p) (a := 8) (by omega) (by decide))) (fun _ => ?_)
      refine mj_iload (pc' := 97) C dL_isWay_95 rfl rfl ?_
      refine mj_if_lt (tgt := 139) (pc' := 100) C dL_isWay_97 (by decide) rfl (fun h9 => absurd h9 (nI_pos (by omega))) (fun _ => ?_)
      refine mj_iload (pc' := 102) C dL_isWay_100 rfl rfl ?_
      refine mj_iload (pc' := 104) C dL_isWay_102 rfl rfl ?_
      refine mj_icmp_ge (tgt := 139) (pc' := 107) C dL_isWay_104 (by decide) rfl (fun h9 => absurd h9 (nI_ge hc (by omega))) (fun _ => ?_)
      refine mj_aload (pc' := 109) C dL_isWay_107 rfl rfl ?_
      refine mj_iload (pc' := 111) C dL_isWay_109 rfl rfl ?_
      refine mj_ialdV (pc' := 112) C dL_isWay_111 rfl rfl (by decide) (by decide) (hP.B.l 3 (by decide) rfl) rfl (by omega) (hP.los (by first | assumption | omega)) ?_
      refine mj_iconst (pc' := 113) (v := (-1)) C dL_isWay_112 rfl rfl ?_
      refine mj_icmp_eq (tgt := 139) (pc' := 116) C dL_isWay_113 (by decide) rfl (fun h9 => absurd h9 (show ¬ pf S 3 c = -1 by rw [epf, elo]; exact nI_m1 (by omega))) (fun _ => ?_)
      refine mj_aload_n (pc' := 117) C dL_isWay_116 rfl rfl ?_
      refine mj_iload (pc' := 119) C dL_isWay_117 rfl rfl ?_
      refine mj_ialdV (pc' := 120) C dL_isWay_119 rfl rfl (by decide) (by decide) (hP.B.l 1 (by decide) rfl) rfl (by omega) (hP.frm (by first | assumption | omega)) ?_
      refine mj_iload (pc' := 122) C dL_isWay_120 rfl rfl ?_
      refine mj_icmp_ne (tgt := 139) (pc' := 125) C dL_isWay_122 (by decide) rfl (fun h9 => absurd o2 h9) (fun _ => ?_)
      refine mj_iload (pc' := 127) C dL_isWay_125 rfl rfl ?_
      refine mj_aload (pc' := 129) C dL_isWay_127 rfl rfl ?_
      refine mj_iload (pc' := 131) C dL_isWay_129 rfl rfl ?_
      refine mj_ialdV (pc' := 132) C dL_isWay_131 rfl rfl (by decide) (by decide) (hP.B.l 2 (by decide) rfl) rfl (by omega) (hP.tow (by first | assumption | omega)) ?_
      refine mj_ishr (pc' := 133) C dL_isWay_132 rfl ?_
      refine mj_iconst (pc' := 134) (v := 1) C dL_isWay_133 rfl rfl ?_
      refine mj_iand (pc' := 135) C dL_isWay_134 rfl ?_
      refine mj_iconst (pc' := 136) (v := 1) C dL_isWay_135 rfl rfl ?_
      refine mj_icmp_ne (tgt := 141) (pc' := 139) C dL_isWay_136 (by decide) rfl (fun _ => ?_) (fun h9 => absurd h9 (show ¬ _ = _ by rw [et2]; exact shr_bit msk ht ((hm t ht).mpr (etO ▸ o3))))
      refine mj_aload (pc' := 143) C dL_isWay_141 rfl rfl ?_
      refine mj_iload (pc' := 145) C dL_isWay_143 rfl rfl ?_
      refine mj_ialdV (pc' := 146) C dL_isWay_145 rfl rfl (by decide) (by decide) (hP.B.l 2 (by decide) rfl) rfl (by omega) (hP.tow (by first | assumption | omega)) ?_
      refine mj_istore_9 (pc' := 148) C dL_isWay_146 rfl (by decide) rfl ?_
      refine mj_iload (pc' := 150) C dL_isWay_148 rfl rfl ?_
      refine mj_iconst (pc' := 151) (v := 1) C dL_isWay_150 rfl rfl ?_
      refine mj_iload (pc' := 153) C dL_isWay_151 rfl rfl ?_
      refine mj_ishl (pc' := 154) C dL_isWay_153 rfl ?_
      refine mj_ior (pc' := 155) C dL_isWay_154 rfl ?_
      refine mj_istore_10 (pc' := 157) C dL_isWay_155 rfl (by decide) rfl ?_
      refine mj_iload (pc' := 159) C dL_isWay_157 rfl rfl ?_
      refine mj_sipush (pc' := 162) (v := 1000) C dL_isWay_159 rfl rfl ?_
      refine mj_aload (pc' := 164) C dL_isWay_162 rfl rfl ?_
      refine mj_iload (pc' := 166) C dL_isWay_164 rfl rfl ?_
      refine mj_ialdV (pc' := 167) C dL_isWay_166 rfl rfl (by decide) (by decide) (hP.B.l 3 (by decide) rfl) rfl (by omega) (hP.los (by first | assumption | omega)) ?_
      refine mj_isub (pc' := 168) C dL_isWay_167 rfl ?_
      refine mj_imul (pc' := 169) C dL_isWay_168 rfl ?_
      refine mj_sipush (pc' := 172) (v := 1000) C dL_isWay_169 rfl rfl ?_
      refine mj_idiv (pc' := 173) C dL_isWay_172 rfl (by decide) ?_
      refine mj_istore_11 (pc' := 175) C dL_isWay_173 rfl (by decide) rfl ?_
      refine mj_iload (pc' := 177) C dL_isWay_175 rfl rfl ?_
      refine mj_aload (pc' := 179) C dL_isWay_177 rfl rfl ?_
      refine mj_iload (pc' := 181) C dL_isWay_179 rfl rfl ?_
      refine mj_ialdV (pc' := 182) C dL_isWay_181 rfl rfl (by decide) (by decide) (hP.B.l 4 (by decide) rfl) rfl (by omega) (hP.cst (by first | assumption | omega)) ?_
      refine mj_iadd (pc' := 183) C dL_isWay_182 rfl ?_
      refine mj_istore_12 (pc' := 185) C dL_isWay_183 rfl (by decide) rfl ?_
      refine mj_iinc_13 (pc' := 188) (w := 1) C dL_isWay_185 rfl rfl (by decide) rfl ?_
      rw [nI_1]
      refine mj_aload_n (pc' := 189) C dL_isWay_188 rfl rfl ?_
      refine mj_iload_n (pc' := 190) C dL_isWay_189 rfl rfl ?_
      refine mj_iload_n (pc' := 191) C dL_isWay_190 rfl rfl ?_
      refine mj_iload (pc' := 193) C dL_isWay_191 rfl rfl ?_
      refine mj_callVN_3 (ci := 5) (pc' := 196) C (c_X5_stepAt hst S (nI a) (nI b) (nI (p + 1))) dL_isWay_193 rfl km_L_22 ki_yX5_stepAt kz_yX5_stepAt kn_X5 kc_yX5_stepAt rfl (by decide) (by decide) ⟨rfl, by decide, by decide, by decide +kernel⟩ ⟨by decide, by decide⟩ (Nat.le_of_ble_eq_true rfl) ⟨by first | decide | (show _ ≤ (40 : Nat); omega) | (show _ ≤ (240 : Nat); omega), by first | decide | (show _ ≤ (40 : Nat); omega) | (show _ ≤ (240 : Nat); omega)⟩ ⟨rfl, hR, hW⟩ (fun r193 μ193 hq193 hm193 => ?_) (fun _ _ h9 => jno_of (oe_step ha hb9 (by omega) hl9) h9)
      obtain ⟨rfl, hR193, hF193⟩ := jret_of (oe_step ha hb9 (by omega) hl9) hq193
      dsimp only [Option.toList, List.nil_append, List.cons_append]
      have hR := hR193
      have hF := hF.tr hF193
      have hP := hP.kept hF193
      rw [hbw]
      refine mj_istore_14 (pc' := 198) C dL_isWay_196 rfl (by decide) rfl ?_
      refine mj_goto (pc' := 82) C dL_isWay_198 (by decide) ?_
      have eq1 : nI (qN S (w.take p) 1000) * (1000 - pf S 3 c) / 1000 = nI (qN S (w.take (p + 1)) 1000) := by rw [epf, et]; exact (nx_q hW hc).1
      have eq2 : nI (cN S (w.take p) 0) + sf S 4 c = nI (cN S (w.take (p + 1)) 0) := by rw [et]; exact (nx_q hW hc).2
      rw [eq1, eq2, et2]
      refine jkn (k' := 7 + 3 * (p + 1)) (n' := 42 + 18 * (p + 1)) (by omega) (by omega) ?_
      exact ih (p + 1) t _ _ (by omega) (by rw [et, ← etO]; exact okw_snoc h1 hc ⟨o1, o2, o3⟩) (by rw [et, vs_snoc, etO]; rw [etO] at h3; exact h3) (by rw [et, vs_snoc, etO]; exact hb_c hm ht) hR hP hF
  exact loop w.length 0 a _ _ (Nat.zero_add _) rfl hv.1 (hb_1 ha) hR hP hF

set_option maxHeartbeats 2000000 in
set_option maxRecDepth 20000 in
theorem c_L_isWay {l : Launch} (hst : l.stackTraces = false) (S : jS) (a b : Nat) : jMet l yL_isWay cL_isWay 15 (some FieldType.boolean) 18 580 40 240 (fun avs μ => avs = [aR 0 0, aI (nI a), aI (nI b), aR 22 0, aR 23 0, aR 24 0, aR 25 0, aI (nI (sn S 1))] ∧ xR S μ ∧ sW S ∧ pR S μ ∧ a < 10 ∧ b < 10) (fun avs μ r μ' => r = some (aI 1) ∧ xR S μ' ∧ xF μ μ') (fun avs μ E μ' => False) := by
  refine jMet_of hst (by decide) ?_
  intro avs μ J C hav hpre
  obtain ⟨rfl, hR, hW, hP, ha, hb9⟩ := hpre
  refine ⟨Nat.le_of_ble_eq_true rfl, ?_⟩
  show J 0 [some (aR 0 0), some (aI (nI a)), some (aI (nI b)), some (aR 22 0), some (aR 23 0), some (aR 24 0), some (aR 25 0), some (aI (nI (sn S 1))), none, none, none, none, none, none, none] [] μ 0 0
  have hF : xF μ μ := xF.rf
  refine mj_aload_n (pc' := 1) C dL_isWay_0 rfl rfl ?_
  refine mj_iload_n (pc' := 2) C dL_isWay_1 rfl rfl ?_
  refine mj_iload_n (pc' := 3) C dL_isWay_2 rfl rfl ?_
  refine mj_callVN_2 (ci := 5) (pc' := 6) C (c_X5_quality hst S (nI a) (nI b)) dL_isWay_3 rfl km_L_10 ki_yX5_quality kz_yX5_quality kn_X5 kc_yX5_quality rfl (by decide) (by decide) ⟨rfl, by decide, by decide, by decide +kernel⟩ ⟨by decide, by decide⟩ (Nat.le_of_ble_eq_true rfl) ⟨by first | decide | (show _ ≤ (40 : Nat); omega) | (show _ ≤ (240 : Nat); omega), by first | decide | (show _ ≤ (40 : Nat); omega) | (show _ ≤ (240 : Nat); omega)⟩ ⟨rfl, hR, hW⟩ (fun r3 μ3 hq3 hm3 => ?_) (fun _ _ h9 => jno_of (oe_quality ha hb9) h9)
  obtain ⟨rfl, hR3, hF3⟩ := jret_of (oe_quality ha hb9) hq3
  dsimp only [Option.toList, List.nil_append, List.cons_append]
  have hR := hR3
  have hF := hF.tr hF3
  have hP := hP.kept hF3
  refine mj_istore_8 (pc' := 8) C dL_isWay_6 rfl (by decide) rfl ?_
  refine mj_iload (pc' := 10) C dL_isWay_8 rfl rfl ?_
  refine mj_aload_n (pc' := 11) C dL_isWay_10 rfl rfl ?_
  refine mj_iload_n (pc' := 12) C dL_isWay_11 rfl rfl ?_
  refine mj_iload_n (pc' := 13) C dL_isWay_12 rfl rfl ?_
  refine mj_callVN_2 (ci := 5) (pc' := 16) C (c_X5_qualityByAll hst S (nI a) (nI b)) dL_isWay_13 rfl km_L_16 ki_yX5_qualityByAll kz_yX5_qualityByAll kn_X5 kc_yX5_qualityByAll rfl (by decide) (by decide) ⟨rfl, by decide, by decide, by decide +kernel⟩ ⟨by decide, by decide⟩ (Nat.le_of_ble_eq_true rfl) ⟨by first | decide | (show _ ≤ (40 : Nat); omega) | (show _ ≤ (240 : Nat); omega), by first | decide | (show _ ≤ (40 : Nat); omega) | (show _ ≤ (240 : Nat); omega)⟩ ⟨rfl, hR, hW⟩ (fun r13 μ13 hq13 hm13 => ?_) (fun _ _ h9 => jno_of (oe_byAll hW ha hb9) h9)
  obtain ⟨rfl, hR13, hF13⟩ := jret_of (oe_byAll hW ha hb9) hq13
  dsimp only [Option.toList, List.nil_append, List.cons_append]
  have hR := hR13
  have hF := hF.tr hF13
  have hP := hP.kept hF13
  refine mj_icmp_eq (tgt := 21) (pc' := 19) C dL_isWay_16 (by decide) rfl (fun _ => ?_) (fun h9 => absurd rfl h9)
  refine mj_iload (pc' := 23) C dL_isWay_21 rfl rfl ?_
  refine mj_iconst (pc' := 24) (v := (-1)) C dL_isWay_23 rfl rfl ?_
  refine mj_icmp_ne (tgt := 54) (pc' := 27) C dL_isWay_24 (by decide) rfl (fun h24 => ?_) (fun h24 => ?_)
  · rcases best_w (a := a) (b := b) hW with hB | ⟨w, hB, hv⟩
    · exact absurd (by rw [hB]; rfl) h24
    · rw [show bq (best S a b) = nI (qN S w 1000) by rw [hB]; rfl]
      exact isW_54 hst S a b C hW ha hb9 hB hv hR hP hF
  · have hB : best S a b = none := by
      rcases best_w (a := a) (b := b) hW with hB | ⟨w, hB, hv⟩
      · exact hB
      · rw [hB] at h24
        exact absurd h24 (nI_m1 (Nat.lt_of_le_of_lt (qN_le S w 1000) (by decide)))
    refine mj_aload_n (pc' := 28) C dL_isWay_27 rfl rfl ?_
    refine mj_iload_n (pc' := 29) C dL_isWay_28 rfl rfl ?_
    refine mj_iload_n (pc' := 30) C dL_isWay_29 rfl rfl ?_
    refine mj_callVN_2 (ci := 5) (pc' := 33) C (c_X5_cost hst S (nI a) (nI b)) dL_isWay_30 rfl km_L_19 ki_yX5_cost kz_yX5_cost kn_X5 kc_yX5_cost rfl (by decide) (by decide) ⟨rfl, by decide, by decide, by decide +kernel⟩ ⟨by decide, by decide⟩ (Nat.le_of_ble_eq_true rfl) ⟨by first | decide | (show _ ≤ (40 : Nat); omega) | (show _ ≤ (240 : Nat); omega), by first | decide | (show _ ≤ (40 : Nat); omega) | (show _ ≤ (240 : Nat); omega)⟩ ⟨rfl, hR, hW⟩ (fun r30 μ30 hq30 hm30 => ?_) (fun _ _ h9 => jno_of (oe_cost ha hb9) h9)
    obtain ⟨rfl, hR30, hF30⟩ := jret_of (oe_cost ha hb9) hq30
    dsimp only [Option.toList, List.nil_append, List.cons_append]
    have hR := hR30
    have hF := hF.tr hF30
    have hP := hP.kept hF30
    refine mj_iconst (pc' := 34) (v := (-1)) C dL_isWay_33 rfl rfl ?_
    refine mj_icmp_ne (tgt := 52) (pc' := 37) C dL_isWay_34 (by decide) rfl (fun h9 => absurd (by rw [hB]; rfl) h9) (fun _ => ?_)
    refine mj_aload_n (pc' := 38) C dL_isWay_37 rfl rfl ?_
    refine mj_iload_n (pc' := 39) C dL_isWay_38 rfl rfl ?_
    refine mj_iload_n (pc' := 40) C dL_isWay_39 rfl rfl ?_
    refine mj_iconst (pc' := 41) (v := 0) C dL_isWay_40 rfl rfl ?_
    refine mj_callVN_3 (ci := 5) (pc' := 44) C (c_X5_stepAt hst S (nI a) (nI b) (nI 0)) dL_isWay_41 rfl km_L_22 ki_yX5_stepAt kz_yX5_stepAt kn_X5 kc_yX5_stepAt rfl (by decide) (by decide) ⟨rfl, by decide, by decide, by decide +kernel⟩ ⟨by decide, by decide⟩ (Nat.le_of_ble_eq_true rfl) ⟨by first | decide | (show _ ≤ (40 : Nat); omega) | (show _ ≤ (240 : Nat); omega), by first | decide | (show _ ≤ (40 : Nat); omega) | (show _ ≤ (240 : Nat); omega)⟩ ⟨rfl, hR, hW⟩ (fun r41 μ41 hq41 hm41 => ?_) (fun _ _ h9 => jno_of (oe_step ha hb9 (by omega) (by rw [hB]; exact Nat.zero_le 9)) h9)
    obtain ⟨rfl, hR41, hF41⟩ := jret_of (oe_step ha hb9 (by omega) (by rw [hB]; exact Nat.zero_le 9)) hq41
    dsimp only [Option.toList, List.nil_append, List.cons_append]
    have hR := hR41
    have hF := hF.tr hF41
    have hP := hP.kept hF41
    refine mj_iconst (pc' := 45) (v := (-1)) C dL_isWay_44 rfl rfl ?_
    refine mj_icmp_ne (tgt := 52) (pc' := 48) C dL_isWay_45 (by decide) rfl (fun h9 => absurd (by rw [hB]; rfl) h9) (fun _ => ?_)
    refine mj_iconst (pc' := 49) (v := 1) C dL_isWay_48 rfl rfl ?_
    refine mj_goto (pc' := 53) C dL_isWay_49 (by decide) ?_
    refine mj_zret C (by decide) dL_isWay_53 (by decide) (by first | decide | (show _ ≤ (40 : Nat); omega) | (show _ ≤ (240 : Nat); omega)) (by first | decide | (show _ ≤ (40 : Nat); omega) | (show _ ≤ (240 : Nat); omega)) ?_
    exact ⟨rfl, hR, hF⟩
