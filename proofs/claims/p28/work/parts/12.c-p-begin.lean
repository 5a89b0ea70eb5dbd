/-! THE LAW: A YEAR BEGINS -/
set_option maxHeartbeats 2000000 in
set_option maxRecDepth 20000 in
theorem pk_1055 {l : Launch} (hst : l.stackTraces = false) {J : Nat → List (Option jV) → List jV → jM → Nat → Nat → Prop} (C : jCtx l J cL_law 36 RL room_1 (some FieldType.boolean) 3 [] (fun _ _ => True) (fun _ _ => False) 0 0) (Sc : jSc J cL_law) (S : jS) (c : Nat) (v26 v27 : Int32) (wh f fl : Nat) (μ : jM) (hc : c < 40) (hwh : wh < 13) (hf : f < 10) (hfl : 0 < sn S 0 → fl < sn S 0) (hR : xR S μ) (hP : pR S μ) (hH : pH S μ) (hA : sA S) (hI : pI c S) (fin : pFin J c v27) : J 1055 [some (aR 61 0), some (aR 0 0), some (aR 22 0), some (aR 23 0), some (aR 24 0), some (aR 25 0), some (aR 21 0), some (aR 27 0), some (aR 28 0), some (aR 29 0), some (aR 30 0), some (aR 31 0), some (aR 32 0), some (aR 33 0), some (aR 34 0), some (aR 35 0), some (aR 36 0), some (aR 37 0), some (aR 38 0), some (aR 39 0), some (aI (nI (sn S 1))), some (aI (nI (sn S 0))), some (aI (sf S 17 2)), some (aI (sf S 17 0)), some (aI (sf S 17 1)), some (aI (nI c)), some (aI v26), some (aI v27), some (aI (nI wh)), some (aI (nI f)), some (aI (nI fl)), some (aI (b1 (canR S f))), none, none, none, none] [] μ (400 + 1000 * c) (5000 + 10000 * c) := by
  have hW := hA.1
  have hW1 := hW.1.2
  have hN := hI.1
  refine mj_iload (pc' := 1057) C dL_law_1055 rfl rfl ?_
  refine mj_bipush (pc' := 1059) (v := 11) C dL_law_1057 rfl rfl ?_
  refine mj_icmp_ne (tgt := 1222) (pc' := 1062) C dL_law_1059 (by decide) rfl (fun h1059 => ?_) (fun h1059 => ?_)
  · exact pk_1222 hst C Sc S c v26 v27 wh f fl μ hc hwh hf hfl hR hP hH hA hI fin
  · refine mj_aload_n (pc' := 1063) C dL_law_1062 rfl rfl ?_
    obtain ⟨y, hy, ey⟩ := hI.2.2.2
    have eo := oe_begin (S := S) (y := y) (by omega) ey
    refine mj_callVN_0 (ci := 5) (pc' := 1066) C (c_X5_begin hst S) dL_law_1063 rfl km_L_80 ki_yX5_begin kz_yX5_begin kn_X5 kc_yX5_begin rfl (by decide) (by decide) ⟨rfl, by decide, by decide, by decide +kernel⟩ ⟨by decide, by decide⟩ (Nat.le_of_ble_eq_true rfl) ⟨by first | decide | (show _ ≤ (600104 : Nat); omega) | (show _ ≤ (7301314 : Nat); omega), by first | decide | (show _ ≤ (600104 : Nat); omega) | (show _ ≤ (7301314 : Nat); omega)⟩ ⟨rfl, hR, hW⟩ (fun r1063 μ1063 hq1063 hm1063 => ?_) (fun _ _ h9 => jno_of (eo) h9)
    obtain ⟨rfl, hR1063, hF1063⟩ := jret_of (eo) hq1063
    dsimp only [Option.toList, List.nil_append, List.cons_append]
    have hR := hR1063
    have hP := hP.kept hF1063
    have hP0 : pR (nys (bg S) 0).2 _ := hP.other (S' := bg S) rfl rfl (fun a i h1 _ _ => bg_f (by omega)) (fun i _ => by rw [bg_f (by decide)]; exact Int32.le_refl _)
    have hA9 := A_begin hA
    rw [eo] at hA9
    dsimp only at hA9
    refine mj_istore_32 (pc' := 1068) C dL_law_1066 rfl (by decide) rfl ?_
    refine mj_iinc_22 (pc' := 1071) (w := 1) C dL_law_1068 rfl rfl (by decide) rfl ?_
    refine mj_iload (pc' := 1073) C dL_law_1071 rfl rfl ?_
    refine mj_istore_24 (pc' := 1075) C dL_law_1073 rfl (by decide) rfl ?_
    refine mj_iconst (pc' := 1076) (v := 0) C dL_law_1075 rfl rfl ?_
    refine mj_istore_33 (pc' := 1078) C dL_law_1076 rfl (by decide) rfl ?_
    have loop : ∀ (d : Nat) (t : Nat) (μ1 : jM) (x34 x35 : Option jV), t + d = sn S 0 → xR (nys (bg S) (sn S 0)).2 μ1 → pR (nys (bg S) t).2 μ1 → J 1078 [some (aR 61 0), some (aR 0 0), some (aR 22 0), some (aR 23 0), some (aR 24 0), some (aR 25 0), some (aR 21 0), some (aR 27 0), some (aR 28 0), some (aR 29 0), some (aR 30 0), some (aR 31 0), some (aR 32 0), some (aR 33 0), some (aR 34 0), some (aR 35 0), some (aR 36 0), some (aR 37 0), some (aR 38 0), some (aR 39 0), some (aI (nI (sn S 1))), some (aI (nI (sn S 0))), some (aI (sf S 17 2 + 1)), some (aI (sf S 17 0)), some (aI (sf S 17 0)), some (aI (nI c)), some (aI v26), some (aI v27), some (aI (nI wh)), some (aI (nI f)), some (aI (nI fl)), some (aI (b1 (canR S f))), some (aI (nI (nys (bg S) (sn S 0)).1 - nI (nys (bg S) t).1)), some (aI (nI t)), x34, x35] [] μ1 (410 + 1000 * c) (5100 + 10000 * c) := by
      intro d
      induction d with
      | zero =>
        intro t μ1 x34 x35 hd hR hP
        obtain rfl : t = sn S 0 := by omega
        refine mj_iload (pc' := 1080) C dL_law_1078 rfl rfl ?_
        refine mj_iload (pc' := 1082) C dL_law_1080 rfl rfl ?_
        refine mj_icmp_ge (tgt := 1212) (pc' := 1085) C dL_law_1082 (by decide) rfl (fun _ => ?_) (fun h9 => absurd (Int32.le_refl _) h9)
        refine mj_iload (pc' := 1214) C dL_law_1212 rfl rfl ?_
        refine mj_if_eq (tgt := 1219) (pc' := 1217) C dL_law_1214 (by decide) rfl (fun _ => ?_) (fun h9 => absurd (Int32.sub_self _) h9)
        refine mj_goto (pc' := 1337) C dL_law_1219 (by decide) ?_
        have hI9 : pI (c + 1) (nys (bg S) (sn S 0)).2 := ⟨by rw [nys_n]; exact hN, by rw [nys_f _ (by decide), (bg_17 S).2.1]; exact hI.2.2.1, by rw [nys_f _ (by decide), (bg_17 S).1]; exact hI.2.2.1, y + 1, by omega, by rw [nys_f _ (by decide), (bg_17 S).2.2, ey, nI_1]⟩
        exact fin.use Sc (nys (bg S) (sn S 0)).2 (by rw [nys_n]; rfl) (by rw [nys_n]; rfl) (by rw [nys_f _ (by decide)]; rfl) (by rw [nys_f _ (by decide)]; rfl) (by rw [nys_f _ (by decide)]; rfl) hR hP hA9 hI9 (by omega) (by omega)
      | succ d ih =>
        intro t μ1 x34 x35 hd hR hP
        have hlt : t < sn S 0 := by omega
        have ef : ∀ a x, a ≠ 15 → a ≠ 17 → sf (nys (bg S) t).2 a x = sf S a x := fun a x h1 h2 => (nys_f _ h1 x t).trans (bg_f h2)
        have e15 : sf (nys (bg S) t).2 15 t = sf S 15 t := ((nys_15 _ t t).trans (if_neg (Nat.lt_irrefl t))).trans (bg_f (by decide))
        have m0 : sn (nys (bg S) t).2 0 = sn S 0 := nys_n _ 0 t
        have hlm : t < sn (nys (bg S) t).2 0 := by rw [m0]; exact hlt
        obtain ⟨hg, eg⟩ := fF_of hW hlt
        refine mj_iload (pc' := 1080) C dL_law_1078 rfl rfl ?_
        refine mj_iload (pc' := 1082) C dL_law_1080 rfl rfl ?_
        refine mj_icmp_ge (tgt := 1212) (pc' := 1085) C dL_law_1082 (by decide) rfl (fun h9 => absurd h9 (nI_ge hlt (by omega))) (fun _ => ?_)
        refine mj_aload (pc' := 1087) C dL_law_1085 rfl rfl ?_
        refine mj_iload (pc' := 1089) C dL_law_1087 rfl rfl ?_
        refine mj_ialdV (pc' := 1090) C dL_law_1089 rfl rfl (by decide) (by decide) (hP.B.l 15 (by decide) rfl) rfl (by omega) ((hP.sta hlm).trans e15) ?_
        refine jn (tgt := 1116) (v := aI (b1 (gone1 S t))) (st := []) (fun K1090 => ?_) ?_
        · refine mj_if_ne (tgt := 1115) (pc' := 1093) C dL_law_1090 (by decide) rfl (fun h1090 => ?_) (fun h1090 => ?_)
          · have ej : b1 (gone1 S t) = 0 := b1_f (fun q => h1090 q.1)
            refine mj_iconst (pc' := 1116) (v := 0) C dL_law_1115 rfl rfl ?_
            rw [ej] at K1090
            exact K1090
          · refine mj_iload (pc' := 1095) C dL_law_1093 rfl rfl ?_
            refine mj_aload (pc' := 1097) C dL_law_1095 rfl rfl ?_
            refine mj_iload (pc' := 1099) C dL_law_1097 rfl rfl ?_
            refine mj_ialdV (pc' := 1100) C dL_law_1099 rfl rfl (by decide) (by decide) (hP.B.l 13 (by decide) rfl) rfl (by omega) ((hP.enn hlm).trans (ef 13 t (by decide) (by decide))) ?_
            refine mj_icmp_le (tgt := 1115) (pc' := 1103) C dL_law_1100 (by decide) rfl (fun h1100 => ?_) (fun h1100 => ?_)
            · have ej : b1 (gone1 S t) = 0 := b1_f (fun q => absurd q.2.1 (Int32.not_lt.mpr h1100))
              refine mj_iconst (pc' := 1116) (v := 0) C dL_law_1115 rfl rfl ?_
              rw [ej] at K1090
              exact K1090
            · refine mj_aload (pc' := 1105) C dL_law_1103 rfl rfl ?_
              refine mj_iload (pc' := 1107) C dL_law_1105 rfl rfl ?_
              refine mj_ialdV (pc' := 1108) C dL_law_1107 rfl rfl (by decide) (by decide) (hP.B.l 16 (by decide) rfl) rfl (by omega) ((hP.hld hlm).trans (ef 16 t (by decide) (by decide))) ?_
              refine mj_if_ne (tgt := 1115) (pc' := 1111) C dL_law_1108 (by decide) rfl (fun h1108 => ?_) (fun h1108 => ?_)
              · have ej : b1 (gone1 S t) = 0 := b1_f (fun q => h1108 q.2.2)
                refine mj_iconst (pc' := 1116) (v := 0) C dL_law_1115 rfl rfl ?_
                rw [ej] at K1090
                exact K1090
              · have ej : b1 (gone1 S t) = 1 := b1_t (⟨h1090, Int32.not_le.mp h1100, h1108⟩)
                refine mj_iconst (pc' := 1112) (v := 1) C dL_law_1111 rfl rfl ?_
                refine mj_goto (pc' := 1116) C dL_law_1112 (by decide) ?_
                rw [ej] at K1090
                exact K1090
        refine mj_istore_34 (pc' := 1118) C dL_law_1116 rfl (by decide) rfl ?_
        refine mj_aload (pc' := 1120) C dL_law_1118 rfl rfl ?_
        refine mj_iload (pc' := 1122) C dL_law_1120 rfl rfl ?_
        refine mj_ialdV (pc' := 1123) C dL_law_1122 rfl rfl (by decide) (by decide) (hP.B.l 15 (by decide) rfl) rfl (by omega) ((hP.sta hlm).trans e15) ?_
        refine jn (tgt := 1161) (v := aI (b1 (lost1 S t))) (st := []) (fun K1123 => ?_) ?_
        · refine mj_if_ne (tgt := 1160) (pc' := 1126) C dL_law_1123 (by decide) rfl (fun h1123 => ?_) (fun h1123 => ?_)
          · have ej : b1 (lost1 S t) = 0 := b1_f (fun q => h1123 q.1)
            refine mj_iconst (pc' := 1161) (v := 0) C dL_law_1160 rfl rfl ?_
            rw [ej] at K1123
            exact K1123
          · refine mj_iload (pc' := 1128) C dL_law_1126 rfl rfl ?_
            refine mj_if_ne (tgt := 1160) (pc' := 1131) C dL_law_1128 (by decide) rfl (fun h1128 => ?_) (fun h1128 => ?_)
            · have ej : b1 (lost1 S t) = 0 := b1_f (fun q => q.2.1 (b1_n h1128))
              refine mj_iconst (pc' := 1161) (v := 0) C dL_law_1160 rfl rfl ?_
              rw [ej] at K1123
              exact K1123
            · refine mj_aload (pc' := 1133) C dL_law_1131 rfl rfl ?_
              refine mj_aload (pc' := 1135) C dL_law_1133 rfl rfl ?_
              refine mj_iload (pc' := 1137) C dL_law_1135 rfl rfl ?_
              refine mj_ialdV (pc' := 1138) C dL_law_1137 rfl rfl (by decide) (by decide) (hP.B.l 9 (by decide) rfl) rfl (by omega) ((hP.fmt hlm).trans (ef 9 t (by decide) (by decide))) ?_
              refine mj_ialdV (pc' := 1139) C dL_law_1138 rfl rfl (by decide) (by decide) (hP.B.l 0 (by decide) rfl) eg (by omega) ((hP.last hg).trans (ef 0 _ (by decide) (by decide))) ?_
              refine mj_iconst (pc' := 1140) (v := (-1)) C dL_law_1139 rfl rfl ?_
              refine mj_icmp_eq (tgt := 1160) (pc' := 1143) C dL_law_1140 (by decide) rfl (fun h1140 => ?_) (fun h1140 => ?_)
              · have ej : b1 (lost1 S t) = 0 := b1_f (fun q => q.2.2 (Or.inl h1140))
                refine mj_iconst (pc' := 1161) (v := 0) C dL_law_1160 rfl rfl ?_
                rw [ej] at K1123
                exact K1123
              · refine mj_aload (pc' := 1145) C dL_law_1143 rfl rfl ?_
                refine mj_aload (pc' := 1147) C dL_law_1145 rfl rfl ?_
                refine mj_iload (pc' := 1149) C dL_law_1147 rfl rfl ?_
                refine mj_ialdV (pc' := 1150) C dL_law_1149 rfl rfl (by decide) (by decide) (hP.B.l 9 (by decide) rfl) rfl (by omega) ((hP.fmt hlm).trans (ef 9 t (by decide) (by decide))) ?_
                refine mj_ialdV (pc' := 1151) C dL_law_1150 rfl rfl (by decide) (by decide) (hP.B.l 0 (by decide) rfl) eg (by omega) ((hP.last hg).trans (ef 0 _ (by decide) (by decide))) ?_
                refine mj_iload (pc' := 1153) C dL_law_1151 rfl rfl ?_
                refine mj_icmp_ge (tgt := 1160) (pc' := 1156) C dL_law_1153 (by decide) rfl (fun h1153 => ?_) (fun h1153 => ?_)
                · have ej : b1 (lost1 S t) = 0 := b1_f (fun q => q.2.2 (Or.inr h1153))
                  refine mj_iconst (pc' := 1161) (v := 0) C dL_law_1160 rfl rfl ?_
                  rw [ej] at K1123
                  exact K1123
                · have ej : b1 (lost1 S t) = 1 := b1_t (⟨h1123, fun q => b1_0.mp h1128 q, fun q => q.elim h1140 h1153⟩)
                  refine mj_iconst (pc' := 1157) (v := 1) C dL_law_1156 rfl rfl ?_
                  refine mj_goto (pc' := 1161) C dL_law_1157 (by decide) ?_
                  rw [ej] at K1123
                  exact K1123
        refine mj_istore_35 (pc' := 1163) C dL_law_1161 rfl (by decide) rfl ?_
        refine mj_aload (pc' := 1165) C dL_law_1163 rfl rfl ?_
        refine mj_iload (pc' := 1167) C dL_law_1165 rfl rfl ?_
        refine mj_iload (pc' := 1169) C dL_law_1167 rfl rfl ?_
        refine jn (tgt := 1190) (v := aI (ny (bg S) t)) (st := [aI (nI t), aR 36 0]) (fun K1169 => ?_) ?_
        · refine mj_if_eq (tgt := 1176) (pc' := 1172) C dL_law_1169 (by decide) rfl (fun h1169 => ?_) (fun h1169 => ?_)
          · refine mj_iload (pc' := 1178) C dL_law_1176 rfl rfl ?_
            refine mj_if_eq (tgt := 1185) (pc' := 1181) C dL_law_1178 (by decide) rfl (fun h1178 => ?_) (fun h1178 => ?_)
            · have ej : ny (bg S) t = sf S 15 t := nyg_0 (b1_0.mp h1169) (b1_0.mp h1178)
              refine mj_aload (pc' := 1187) C dL_law_1185 rfl rfl ?_
              refine mj_iload (pc' := 1189) C dL_law_1187 rfl rfl ?_
              refine mj_ialdV (pc' := 1190) C dL_law_1189 rfl rfl (by decide) (by decide) (hP.B.l 15 (by decide) rfl) rfl (by omega) ((hP.sta hlm).trans e15) ?_
              rw [ej] at K1169
              exact K1169
            · have ej : ny (bg S) t = 2 := nyg_2 (b1_n h1178)
              refine mj_iconst (pc' := 1182) (v := 2) C dL_law_1181 rfl rfl ?_
              refine mj_goto (pc' := 1190) C dL_law_1182 (by decide) ?_
              rw [ej] at K1169
              exact K1169
          · have ej : ny (bg S) t = 1 := nyg_1 (b1_n h1169)
            refine mj_iconst (pc' := 1173) (v := 1) C dL_law_1172 rfl rfl ?_
            refine mj_goto (pc' := 1190) C dL_law_1173 (by decide) ?_
            rw [ej] at K1169
            exact K1169
        refine mj_iast (pc' := 1191) C dL_law_1190 rfl rfl (by decide) (by decide) (hP.B.l 15 (by decide) rfl) rfl (by omega) ?_
        refine jgen (J := J) (P := fun μ2 => xR (nys (bg S) (sn S 0)).2 μ2 ∧ pR (nys (bg S) (t + 1)).2 μ2) ⟨hR.o (by decide), pR_v hP 36 rfl (Or.inr (by decide)) (Or.inr hlm)⟩ ?_
        clear hR hP
        rintro μ1191 ⟨hR, hP⟩
        refine mj_iload (pc' := 1193) C dL_law_1191 rfl rfl ?_
        obtain ⟨w9, e9⟩ : ∃ w9, w9 = b1 (lost1 S t) := ⟨_, rfl⟩
        refine mj_iload (pc' := 1195) C dL_law_1193 rfl rfl ?_
        refine jn (tgt := 1203) (v := aI w9) (st := [aI (nI (nys (bg S) (sn S 0)).1 - nI (nys (bg S) t).1)]) (fun K1195 => ?_) ?_
        · refine mj_if_eq (tgt := 1202) (pc' := 1198) C dL_law_1195 (by decide) rfl (fun h1195 => ?_) (fun h1195 => ?_)
          · obtain rfl : w9 = 0 := e9.trans h1195
            refine mj_iconst (pc' := 1203) (v := 0) C dL_law_1202 rfl rfl ?_
            exact K1195
          · obtain rfl : w9 = 1 := e9.trans (b1_t (b1_n h1195))
            refine mj_iconst (pc' := 1199) (v := 1) C dL_law_1198 rfl rfl ?_
            refine mj_goto (pc' := 1203) C dL_law_1199 (by decide) ?_
            exact K1195
        subst e9
        refine mj_isub (pc' := 1204) C dL_law_1203 rfl ?_
        refine mj_istore_32 (pc' := 1206) C dL_law_1204 rfl (by decide) rfl ?_
        refine mj_iinc_33 (pc' := 1209) (w := 1) C dL_law_1206 rfl rfl (by decide) rfl ?_
        refine mj_goto (pc' := 1078) C dL_law_1209 (by decide) ?_
        rw [nys_b, nI_1]
        exact ih (t + 1) _ _ _ (by omega) hR hP
    refine Sc.widen (k' := 410 + 1000 * c) (n' := 5100 + 10000 * c) (by omega) (by omega) ?_
    rw [show nI (nys (bg S) (sn S 0)).1 = nI (nys (bg S) (sn S 0)).1 - nI (nys (bg S) 0).1 from (Int32.sub_zero _).symm]
    exact loop (sn S 0) 0 _ _ _ (Nat.zero_add _) hR hP0
