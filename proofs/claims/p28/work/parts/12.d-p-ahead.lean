/-! THE LAW: FILES ARE MOVED AHEAD -/
set_option maxHeartbeats 2000000 in
set_option maxRecDepth 20000 in
theorem pk_915 {l : Launch} (hst : l.stackTraces = false) {J : Nat → List (Option jV) → List jV → jM → Nat → Nat → Prop} (C : jCtx l J cL_law 36 RL room_1 (some FieldType.boolean) 3 [] (fun _ _ => True) (fun _ _ => False) 0 0) (Sc : jSc J cL_law) (S : jS) (c : Nat) (v26 v27 : Int32) (wh f fl : Nat) (μ : jM) (hc : c < 40) (hwh : wh < 13) (hf : f < 10) (hfl : 0 < sn S 0 → fl < sn S 0) (hR : xR S μ) (hP : pR S μ) (hH : pH S μ) (hA : sA S) (hI : pI c S) (fin : pFin J c v27) : J 915 [some (aR 61 0), some (aR 0 0), some (aR 22 0), some (aR 23 0), some (aR 24 0), some (aR 25 0), some (aR 21 0), some (aR 27 0), some (aR 28 0), some (aR 29 0), some (aR 30 0), some (aR 31 0), some (aR 32 0), some (aR 33 0), some (aR 34 0), some (aR 35 0), some (aR 36 0), some (aR 37 0), some (aR 38 0), some (aR 39 0), some (aI (nI (sn S 1))), some (aI (nI (sn S 0))), some (aI (sf S 17 2)), some (aI (sf S 17 0)), some (aI (sf S 17 1)), some (aI (nI c)), some (aI v26), some (aI v27), some (aI (nI wh)), some (aI (nI f)), some (aI (nI fl)), some (aI (b1 (canR S f))), none, none, none, none] [] μ (400 + 1000 * c) (5000 + 10000 * c) := by
  have hW := hA.1
  have hW1 := hW.1.2
  have hN := hI.1
  refine mj_iload (pc' := 917) C dL_law_915 rfl rfl ?_
  refine mj_bipush (pc' := 919) (v := 10) C dL_law_917 rfl rfl ?_
  refine mj_icmp_ne (tgt := 1055) (pc' := 922) C dL_law_919 (by decide) rfl (fun h919 => ?_) (fun h919 => ?_)
  · exact pk_1055 hst C Sc S c v26 v27 wh f fl μ hc hwh hf hfl hR hP hH hA hI fin
  · refine mj_aload_n (pc' := 923) C dL_law_922 rfl rfl ?_
    obtain ⟨M, T, eo, g1, g2, g3, g4, g5, g6, g7, hAT⟩ := ahead hA
    refine mj_callVN_0 (ci := 5) (pc' := 926) C (c_X5_moveAhead hst S) dL_law_923 rfl km_L_76 ki_yX5_moveAhead kz_yX5_moveAhead kn_X5 kc_yX5_moveAhead rfl (by decide) (by decide) ⟨rfl, by decide, by decide, by decide +kernel⟩ ⟨by decide, by decide⟩ (Nat.le_of_ble_eq_true rfl) ⟨by first | decide | (show _ ≤ (600104 : Nat); omega) | (show _ ≤ (7301314 : Nat); omega), by first | decide | (show _ ≤ (600104 : Nat); omega) | (show _ ≤ (7301314 : Nat); omega)⟩ ⟨rfl, hR, hW, hA.2.1⟩ (fun r923 μ923 hq923 hm923 => ?_) (fun _ _ h9 => h9)
    obtain ⟨rfl, hR923, hF923⟩ := hq923
    rw [eo] at hR923
    rw [eo]
    dsimp only at hR923
    dsimp only [Option.toList, List.nil_append, List.cons_append]
    have hR := hR923
    have hP := hP.kept hF923
    have hH := hH.kept hF923
    have hP0 : pR (mid S T 0) _ := hP.other (S' := mid S T 0) (g7 0) (g7 1) (fun a i h1 h2 h3 => by
        by_cases e : a = 9
        · subst e
          exact (show (if 9 = 9 ∧ 0 ≤ i then sf S 9 i else sf T 9 i) = sf S 9 i from if_pos ⟨rfl, Nat.zero_le i⟩)
        · exact (if_neg (fun q => e q.1)).trans (g6 a i e h2 (by omega))) (fun i hi => g5 i hi)
    refine mj_istore_32 (pc' := 928) C dL_law_926 rfl (by decide) rfl ?_
    refine mj_iconst (pc' := 929) (v := 0) C dL_law_928 rfl rfl ?_
    refine mj_istore_33 (pc' := 931) C dL_law_929 rfl (by decide) rfl ?_
    have loop : ∀ (d : Nat) (t : Nat) (μ1 : jM) (x34 : Option jV), t + d = sn S 0 → xR T μ1 → pR (mid S T t) μ1 → pH S μ1 → J 931 [some (aR 61 0), some (aR 0 0), some (aR 22 0), some (aR 23 0), some (aR 24 0), some (aR 25 0), some (aR 21 0), some (aR 27 0), some (aR 28 0), some (aR 29 0), some (aR 30 0), some (aR 31 0), some (aR 32 0), some (aR 33 0), some (aR 34 0), some (aR 35 0), some (aR 36 0), some (aR 37 0), some (aR 38 0), some (aR 39 0), some (aI (nI (sn S 1))), some (aI (nI (sn S 0))), some (aI (sf S 17 2)), some (aI (sf S 17 0)), some (aI (sf S 17 1 - ps S M t)), some (aI (nI c)), some (aI v26), some (aI v27), some (aI (nI wh)), some (aI (nI f)), some (aI (nI fl)), some (aI (b1 (canR S f))), some (aI (nI (cnt M (sn S 0)) - nI (cnt M t))), some (aI (nI t)), x34, none] [] μ1 (410 + 1000 * c + 4 * t) (5100 + 10000 * c + 24 * t) := by
      intro d
      induction d with
      | zero =>
        intro t μ1 x34 hd hR hP hH
        obtain rfl : t = sn S 0 := by omega
        refine mj_iload (pc' := 933) C dL_law_931 rfl rfl ?_
        refine mj_iload (pc' := 935) C dL_law_933 rfl rfl ?_
        refine mj_icmp_ge (tgt := 1040) (pc' := 938) C dL_law_935 (by decide) rfl (fun _ => ?_) (fun h9 => absurd (Int32.le_refl _) h9)
        refine mj_iload (pc' := 1042) C dL_law_1040 rfl rfl ?_
        refine mj_if_ne (tgt := 1050) (pc' := 1045) C dL_law_1042 (by decide) rfl (fun h9 => absurd (Int32.sub_self _) h9) (fun _ => ?_)
        refine mj_iload (pc' := 1047) C dL_law_1045 rfl rfl ?_
        refine mj_if_ge (tgt := 1052) (pc' := 1050) C dL_law_1047 (by decide) rfl (fun _ => ?_) (fun h9 => absurd (show 0 ≤ sf S 17 1 - ps S M (sn S 0) by rw [← g3]; exact g4 hI.2.1) h9)
        refine mj_goto (pc' := 1337) C dL_law_1052 (by decide) ?_
        have hP : pR T _ := hP.other (S' := T) rfl rfl (fun a i h1 h2 h3 => by
            by_cases e : a = 9 ∧ sn S 0 ≤ i
            · obtain ⟨rfl, e⟩ := e
              have : i < sn T 0 := h3 rfl
              rw [g7] at this
              omega
            · exact (if_neg e).symm) (fun i _ => by show sf T 12 i ≤ (if 12 = 9 ∧ sn S 0 ≤ i then sf S 9 i else sf T 12 i); rw [if_neg (by omega)]; exact Int32.le_refl _)
        have hI9 : pI (c + 1) T := by
          obtain ⟨i1, i2, i3, y, i4, i5⟩ := hI
          exact ⟨by rw [g7]; exact i1, g4 i2, by rw [g6 17 0 (by omega) (by omega) (by omega)]; exact i3, y, by omega, by rw [g6 17 2 (by omega) (by omega) (by omega)]; exact i5⟩
        exact fin.use Sc T (by rw [g7]) (by rw [g7]) (g6 17 2 (by omega) (by omega) (by omega)).symm (g6 17 0 (by omega) (by omega) (by omega)).symm g3.symm hR hP hAT hI9 (by omega) (by omega)
      | succ d ih =>
        intro t μ1 x34 hd hR hP hH
        have hlt : t < sn S 0 := by omega
        have hlT : t < sn T 0 := by rw [g7]; exact hlt
        have hlm : t < sn (mid S T t) 0 := hlT
        refine mj_iload (pc' := 933) C dL_law_931 rfl rfl ?_
        refine mj_iload (pc' := 935) C dL_law_933 rfl rfl ?_
        refine mj_icmp_ge (tgt := 1040) (pc' := 938) C dL_law_935 (by decide) rfl (fun h9 => absurd h9 (nI_ge hlt (by omega))) (fun _ => ?_)
        refine mj_aload_n (pc' := 939) C dL_law_938 rfl rfl ?_
        refine mj_iload (pc' := 941) C dL_law_939 rfl rfl ?_
        refine mj_callVN_1 (ci := 5) (pc' := 944) C (c_X5_formatOf hst T (nI t)) dL_law_941 rfl km_L_37 ki_yX5_formatOf kz_yX5_formatOf kn_X5 kc_yX5_formatOf rfl (by decide) (by decide) ⟨rfl, by decide, by decide, by decide +kernel⟩ ⟨by decide, by decide⟩ (Nat.le_of_ble_eq_true rfl) ⟨by first | decide | (show _ ≤ (600104 : Nat); omega) | (show _ ≤ (7301314 : Nat); omega), by first | decide | (show _ ≤ (600104 : Nat); omega) | (show _ ≤ (7301314 : Nat); omega)⟩ ⟨rfl, hR, hAT.1⟩ (fun r941 μ941 hq941 hm941 => ?_) (fun _ _ h9 => jno_of (oe_get 9 hAT.1 hlT) h9)
        obtain ⟨rfl, hR941, hF941⟩ := jret_of (oe_get 9 hAT.1 hlT) hq941
        dsimp only [Option.toList, List.nil_append, List.cons_append]
        have hR := hR941
        have hP := hP.kept hF941
        have hH := hH.kept hF941
        refine mj_aload (pc' := 946) C dL_law_944 rfl rfl ?_
        refine mj_iload (pc' := 948) C dL_law_946 rfl rfl ?_
        refine mj_ialdV (pc' := 949) C dL_law_948 rfl rfl (by decide) (by decide) (hP.B.l 9 (by decide) rfl) rfl (by omega) ((hP.fmt hlm).trans (if_pos ⟨rfl, Nat.le_refl t⟩)) ?_
        refine jn (tgt := 957) (v := aI (b1 (M t = true))) (st := []) (fun K949 => ?_) ?_
        · refine mj_icmp_eq (tgt := 956) (pc' := 952) C dL_law_949 (by decide) rfl (fun h949 => ?_) (fun h949 => ?_)
          · have ej : b1 (M t = true) = 0 := b1_f (fun q => (g1 t q).2.1 h949)
            refine mj_iconst (pc' := 957) (v := 0) C dL_law_956 rfl rfl ?_
            rw [ej] at K949
            exact K949
          · have ej : b1 (M t = true) = 1 := b1_t (by cases q : M t with | false => exact absurd (g2 t q) h949 | true => rfl)
            refine mj_iconst (pc' := 953) (v := 1) C dL_law_952 rfl rfl ?_
            refine mj_goto (pc' := 957) C dL_law_953 (by decide) ?_
            rw [ej] at K949
            exact K949
        refine mj_istore_34 (pc' := 959) C dL_law_957 rfl (by decide) rfl ?_
        refine mj_iload (pc' := 961) C dL_law_959 rfl rfl ?_
        refine mj_if_eq (tgt := 989) (pc' := 964) C dL_law_961 (by decide) rfl (fun h961 => ?_) (fun h961 => ?_)
        · refine mj_iload (pc' := 991) C dL_law_989 rfl rfl ?_
          obtain ⟨w9, e9⟩ : ∃ w9, w9 = b1 (M t = true) := ⟨_, rfl⟩
          refine mj_iload (pc' := 993) C dL_law_991 rfl rfl ?_
          refine jn (tgt := 1001) (v := aI w9) (st := [aI (nI (cnt M (sn S 0)) - nI (cnt M t))]) (fun K993 => ?_) ?_
          · refine mj_if_eq (tgt := 1000) (pc' := 996) C dL_law_993 (by decide) rfl (fun h993 => ?_) (fun h993 => ?_)
            · obtain rfl : w9 = 0 := e9.trans h993
              refine mj_iconst (pc' := 1001) (v := 0) C dL_law_1000 rfl rfl ?_
              exact K993
            · obtain rfl : w9 = 1 := e9.trans (b1_t (b1_n h993))
              refine mj_iconst (pc' := 997) (v := 1) C dL_law_996 rfl rfl ?_
              refine mj_goto (pc' := 1001) C dL_law_997 (by decide) ?_
              exact K993
          subst e9
          refine mj_isub (pc' := 1002) C dL_law_1001 rfl ?_
          refine mj_istore_32 (pc' := 1004) C dL_law_1002 rfl (by decide) rfl ?_
          refine mj_iload (pc' := 1006) C dL_law_1004 rfl rfl ?_
          refine mj_iload (pc' := 1008) C dL_law_1006 rfl rfl ?_
          refine jn (tgt := 1020) (v := aI (if M t = true then prc S t else 0)) (st := [aI (sf S 17 1 - ps S M t)]) (fun K1008 => ?_) ?_
          · refine mj_if_eq (tgt := 1019) (pc' := 1011) C dL_law_1008 (by decide) rfl (fun h1008 => ?_) (fun h1008 => ?_)
            · have ej : (if M t = true then prc S t else 0) = 0 := if_neg (b1_0.mp h1008)
              refine mj_iconst (pc' := 1020) (v := 0) C dL_law_1019 rfl rfl ?_
              rw [ej] at K1008
              exact K1008
            · have ej : (if M t = true then prc S t else 0) = prc S t := if_pos (b1_n h1008)
              refine mj_aload (pc' := 1013) C dL_law_1011 rfl rfl ?_
              refine mj_iload (pc' := 1015) C dL_law_1013 rfl rfl ?_
              refine mj_ialdV (pc' := 1016) C dL_law_1015 rfl rfl (by decide) (by decide) (hP.B.l 18 (by decide) rfl) rfl (by omega) (hH _ (by first | assumption | omega)).2 ?_
              refine mj_goto (pc' := 1020) C dL_law_1016 (by decide) ?_
              rw [ej] at K1008
              exact K1008
          refine mj_isub (pc' := 1021) C dL_law_1020 rfl ?_
          refine mj_istore_24 (pc' := 1023) C dL_law_1021 rfl (by decide) rfl ?_
          refine mj_aload (pc' := 1025) C dL_law_1023 rfl rfl ?_
          refine mj_iload (pc' := 1027) C dL_law_1025 rfl rfl ?_
          refine mj_aload_n (pc' := 1028) C dL_law_1027 rfl rfl ?_
          refine mj_iload (pc' := 1030) C dL_law_1028 rfl rfl ?_
          refine mj_callVN_1 (ci := 5) (pc' := 1033) C (c_X5_formatOf hst T (nI t)) dL_law_1030 rfl km_L_37 ki_yX5_formatOf kz_yX5_formatOf kn_X5 kc_yX5_formatOf rfl (by decide) (by decide) ⟨rfl, by decide, by decide, by decide +kernel⟩ ⟨by decide, by decide⟩ (Nat.le_of_ble_eq_true rfl) ⟨by first | decide | (show _ ≤ (600104 : Nat); omega) | (show _ ≤ (7301314 : Nat); omega), by first | decide | (show _ ≤ (600104 : Nat); omega) | (show _ ≤ (7301314 : Nat); omega)⟩ ⟨rfl, hR, hAT.1⟩ (fun r1030 μ1030 hq1030 hm1030 => ?_) (fun _ _ h9 => jno_of (oe_get 9 hAT.1 hlT) h9)
          obtain ⟨rfl, hR1030, hF1030⟩ := jret_of (oe_get 9 hAT.1 hlT) hq1030
          dsimp only [Option.toList, List.nil_append, List.cons_append]
          have hR := hR1030
          have hP := hP.kept hF1030
          have hH := hH.kept hF1030
          refine mj_iast (pc' := 1034) C dL_law_1033 rfl rfl (by decide) (by decide) (hP.B.l 9 (by decide) rfl) rfl (by omega) ?_
          refine jgen (J := J) (P := fun μ2 => xR T μ2 ∧ pR (mid S T (t + 1)) μ2 ∧ pH S μ2) ⟨hR.o (by decide), mid_s ▸ pR_v hP 30 rfl (Or.inr (by decide)) (Or.inl (by decide)), hH.o (by decide)⟩ ?_
          clear hR hP
          rintro μ1034 ⟨hR, hP, hH⟩
          refine mj_iinc_33 (pc' := 1037) (w := 1) C dL_law_1034 rfl rfl (by decide) rfl ?_
          refine mj_goto (pc' := 931) C dL_law_1037 (by decide) ?_
          rw [cnt_b, ps_b, nI_1]
          refine Sc.widen (k' := 410 + 1000 * c + 4 * (t + 1)) (n' := 5100 + 10000 * c + 24 * (t + 1)) (by omega) (by omega) ?_
          exact ih (t + 1) _ _ (by omega) hR hP hH
        · refine mj_aload_n (pc' := 965) C dL_law_964 rfl rfl ?_
          refine mj_iload (pc' := 967) C dL_law_965 rfl rfl ?_
          refine mj_callVN_1 (ci := 5) (pc' := 970) C (c_X5_formatOf hst T (nI t)) dL_law_967 rfl km_L_37 ki_yX5_formatOf kz_yX5_formatOf kn_X5 kc_yX5_formatOf rfl (by decide) (by decide) ⟨rfl, by decide, by decide, by decide +kernel⟩ ⟨by decide, by decide⟩ (Nat.le_of_ble_eq_true rfl) ⟨by first | decide | (show _ ≤ (600104 : Nat); omega) | (show _ ≤ (7301314 : Nat); omega), by first | decide | (show _ ≤ (600104 : Nat); omega) | (show _ ≤ (7301314 : Nat); omega)⟩ ⟨rfl, hR, hAT.1⟩ (fun r967 μ967 hq967 hm967 => ?_) (fun _ _ h9 => jno_of (oe_get 9 hAT.1 hlT) h9)
          obtain ⟨rfl, hR967, hF967⟩ := jret_of (oe_get 9 hAT.1 hlT) hq967
          dsimp only [Option.toList, List.nil_append, List.cons_append]
          have hR := hR967
          have hP := hP.kept hF967
          have hH := hH.kept hF967
          refine mj_aload (pc' := 972) C dL_law_970 rfl rfl ?_
          refine mj_iload (pc' := 974) C dL_law_972 rfl rfl ?_
          refine mj_ialdV (pc' := 975) C dL_law_974 rfl rfl (by decide) (by decide) (hP.B.l 17 (by decide) rfl) rfl (by omega) (hH _ (by first | assumption | omega)).1 ?_
          refine mj_icmp_ne (tgt := 987) (pc' := 978) C dL_law_975 (by decide) rfl (fun h9 => absurd (g1 t (b1_n h961)).2.2.1 h9) (fun _ => ?_)
          refine mj_aload_n (pc' := 979) C dL_law_978 rfl rfl ?_
          refine mj_iload (pc' := 981) C dL_law_979 rfl rfl ?_
          refine mj_callVN_1 (ci := 5) (pc' := 984) C (c_X5_isSafe hst T (nI t)) dL_law_981 rfl km_L_30 ki_yX5_isSafe kz_yX5_isSafe kn_X5 kc_yX5_isSafe rfl (by decide) (by decide) ⟨rfl, by decide, by decide, by decide +kernel⟩ ⟨by decide, by decide⟩ (Nat.le_of_ble_eq_true rfl) ⟨by first | decide | (show _ ≤ (600104 : Nat); omega) | (show _ ≤ (7301314 : Nat); omega), by first | decide | (show _ ≤ (600104 : Nat); omega) | (show _ ≤ (7301314 : Nat); omega)⟩ ⟨rfl, hR, hAT.1⟩ (fun r981 μ981 hq981 hm981 => ?_) (fun _ _ h9 => jno_of (oe_isSafe hAT.1 hlT) h9)
          obtain ⟨rfl, hR981, hF981⟩ := jret_of (oe_isSafe hAT.1 hlT) hq981
          dsimp only [Option.toList, List.nil_append, List.cons_append]
          have hR := hR981
          have hP := hP.kept hF981
          have hH := hH.kept hF981
          refine mj_if_ne (tgt := 989) (pc' := 987) C dL_law_984 (by decide) rfl (fun _ => ?_) (fun h9 => absurd h9 (show ¬ b1 (sf T 15 t = 0 ∧ safe T t (fF T t)) = 0 by rw [b1_t (g1 t (b1_n h961)).2.2.2]; decide))
          refine mj_iload (pc' := 991) C dL_law_989 rfl rfl ?_
          obtain ⟨w9, e9⟩ : ∃ w9, w9 = b1 (M t = true) := ⟨_, rfl⟩
          refine mj_iload (pc' := 993) C dL_law_991 rfl rfl ?_
          refine jn (tgt := 1001) (v := aI w9) (st := [aI (nI (cnt M (sn S 0)) - nI (cnt M t))]) (fun K993 => ?_) ?_
          · refine mj_if_eq (tgt := 1000) (pc' := 996) C dL_law_993 (by decide) rfl (fun h993 => ?_) (fun h993 => ?_)
            · obtain rfl : w9 = 0 := e9.trans h993
              refine mj_iconst (pc' := 1001) (v := 0) C dL_law_1000 rfl rfl ?_
              exact K993
            · obtain rfl : w9 = 1 := e9.trans (b1_t (b1_n h993))
              refine mj_iconst (pc' := 997) (v := 1) C dL_law_996 rfl rfl ?_
              refine mj_goto (pc' := 1001) C dL_law_997 (by decide) ?_
              exact K993
          subst e9
          refine mj_isub (pc' := 1002) C dL_law_1001 rfl ?_
          refine mj_istore_32 (pc' := 1004) C dL_law_1002 rfl (by decide) rfl ?_
          refine mj_iload (pc' := 1006) C dL_law_1004 rfl rfl ?_
          refine mj_iload (pc' := 1008) C dL_law_1006 rfl rfl ?_
          refine jn (tgt := 1020) (v := aI (if M t = true then prc S t else 0)) (st := [aI (sf S 17 1 - ps S M t)]) (fun K1008 => ?_) ?_
          · refine mj_if_eq (tgt := 1019) (pc' := 1011) C dL_law_1008 (by decide) rfl (fun h1008 => ?_) (fun h1008 => ?_)
            · have ej : (if M t = true then prc S t else 0) = 0 := if_neg (b1_0.mp h1008)
              refine mj_iconst (pc' := 1020) (v := 0) C dL_law_1019 rfl rfl ?_
              rw [ej] at K1008
              exact K1008
            · have ej : (if M t = true then prc S t else 0) = prc S t := if_pos (b1_n h1008)
              refine mj_aload (pc' := 1013) C dL_law_1011 rfl rfl ?_
              refine mj_iload (pc' := 1015) C dL_law_1013 rfl rfl ?_
              refine mj_ialdV (pc' := 1016) C dL_law_1015 rfl rfl (by decide) (by decide) (hP.B.l 18 (by decide) rfl) rfl (by omega) (hH _ (by first | assumption | omega)).2 ?_
              refine mj_goto (pc' := 1020) C dL_law_1016 (by decide) ?_
              rw [ej] at K1008
              exact K1008
          refine mj_isub (pc' := 1021) C dL_law_1020 rfl ?_
          refine mj_istore_24 (pc' := 1023) C dL_law_1021 rfl (by decide) rfl ?_
          refine mj_aload (pc' := 1025) C dL_law_1023 rfl rfl ?_
          refine mj_iload (pc' := 1027) C dL_law_1025 rfl rfl ?_
          refine mj_aload_n (pc' := 1028) C dL_law_1027 rfl rfl ?_
          refine mj_iload (pc' := 1030) C dL_law_1028 rfl rfl ?_
          refine mj_callVN_1 (ci := 5) (pc' := 1033) C (c_X5_formatOf hst T (nI t)) dL_law_1030 rfl km_L_37 ki_yX5_formatOf kz_yX5_formatOf kn_X5 kc_yX5_formatOf rfl (by decide) (by decide) ⟨rfl, by decide, by decide, by decide +kernel⟩ ⟨by decide, by decide⟩ (Nat.le_of_ble_eq_true rfl) ⟨by first | decide | (show _ ≤ (600104 : Nat); omega) | (show _ ≤ (7301314 : Nat); omega), by first | decide | (show _ ≤ (600104 : Nat); omega) | (show _ ≤ (7301314 : Nat); omega)⟩ ⟨rfl, hR, hAT.1⟩ (fun r1030 μ1030 hq1030 hm1030 => ?_) (fun _ _ h9 => jno_of (oe_get 9 hAT.1 hlT) h9)
          obtain ⟨rfl, hR1030, hF1030⟩ := jret_of (oe_get 9 hAT.1 hlT) hq1030
          dsimp only [Option.toList, List.nil_append, List.cons_append]
          have hR := hR1030
          have hP := hP.kept hF1030
          have hH := hH.kept hF1030
          refine mj_iast (pc' := 1034) C dL_law_1033 rfl rfl (by decide) (by decide) (hP.B.l 9 (by decide) rfl) rfl (by omega) ?_
          refine jgen (J := J) (P := fun μ2 => xR T μ2 ∧ pR (mid S T (t + 1)) μ2 ∧ pH S μ2) ⟨hR.o (by decide), mid_s ▸ pR_v hP 30 rfl (Or.inr (by decide)) (Or.inl (by decide)), hH.o (by decide)⟩ ?_
          clear hR hP
          rintro μ1034 ⟨hR, hP, hH⟩
          refine mj_iinc_33 (pc' := 1037) (w := 1) C dL_law_1034 rfl rfl (by decide) rfl ?_
          refine mj_goto (pc' := 931) C dL_law_1037 (by decide) ?_
          rw [cnt_b, ps_b, nI_1]
          refine Sc.widen (k' := 410 + 1000 * c + 4 * (t + 1)) (n' := 5100 + 10000 * c + 24 * (t + 1)) (by omega) (by omega) ?_
          exact ih (t + 1) _ _ (by omega) hR hP hH
    refine Sc.widen (k' := 410 + 1000 * c + 4 * 0) (n' := 5100 + 10000 * c + 24 * 0) (by omega) (by omega) ?_
    rw [show nI (cnt M (sn S 0)) = nI (cnt M (sn S 0)) - nI (cnt M 0) from (Int32.sub_zero _).symm, show sf S 17 1 = sf S 17 1 - ps S M 0 from (Int32.sub_zero _).symm]
    exact loop (sn S 0) 0 _ _ (Nat.zero_add _) hR hP0 hH
