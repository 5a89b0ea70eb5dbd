/-! THE LAW: A FILE IS READ, HELD -/
set_option maxHeartbeats 2000000 in
set_option maxRecDepth 20000 in
theorem pk_866a {l : Launch} (hst : l.stackTraces = false) {J : Nat → List (Option jV) → List jV → jM → Nat → Nat → Prop} (C : jCtx l J cL_law 36 RL room_1 (some FieldType.boolean) 3 [] (fun _ _ => True) (fun _ _ => False) 0 0) (Sc : jSc J cL_law) (S : jS) (c : Nat) (v26 v27 : Int32) (wh f fl : Nat) (μ : jM) (hc : c < 40) (hwh : wh < 13) (hf : f < 10) (hl : fl < sn S 0) (hR : xR S μ) (hP : pR S μ) (hA : sA S) (hI : pI c S) (fin : pFin J c v27) {k n : Nat} (hk : k ≤ 500 + 1000 * c) (hn : n ≤ 6000 + 10000 * c) : J 866 [some (aR 61 0), some (aR 0 0), some (aR 22 0), some (aR 23 0), some (aR 24 0), some (aR 25 0), some (aR 21 0), some (aR 27 0), some (aR 28 0), some (aR 29 0), some (aR 30 0), some (aR 31 0), some (aR 32 0), some (aR 33 0), some (aR 34 0), some (aR 35 0), some (aR 36 0), some (aR 37 0), some (aR 38 0), some (aR 39 0), some (aI (nI (sn S 1))), some (aI (nI (sn S 0))), some (aI (sf S 17 2)), some (aI (sf S 17 0)), some (aI (sf S 17 1)), some (aI (nI c)), some (aI v26), some (aI v27), some (aI (nI wh)), some (aI (nI f)), some (aI (nI fl)), some (aI (b1 (canR S f))), none, none, none, none] [aI 0] μ k n := by
  have hW := hA.1
  have hW1 := hW.1.2
  have hN := hI.1
  refine mj_istore_32 (pc' := 868) C dL_law_866 rfl (by decide) rfl ?_
  refine mj_iload (pc' := 870) C dL_law_868 rfl rfl ?_
  refine mj_if_eq (tgt := 892) (pc' := 873) C dL_law_870 (by decide) rfl (fun _ => ?_) (fun h9 => absurd rfl h9)
  refine mj_aload (pc' := 894) C dL_law_892 rfl rfl ?_
  refine mj_iload (pc' := 896) C dL_law_894 rfl rfl ?_
  refine mj_iload (pc' := 898) C dL_law_896 rfl rfl ?_
  refine mj_if_eq (tgt := 906) (pc' := 901) C dL_law_898 (by decide) rfl (fun _ => ?_) (fun h9 => absurd rfl h9)
  refine mj_aload (pc' := 908) C dL_law_906 rfl rfl ?_
  refine mj_iload (pc' := 910) C dL_law_908 rfl rfl ?_
  refine mj_ialdV (pc' := 911) C dL_law_910 rfl rfl (by decide) (by decide) (hP.B.l 14 (by decide) rfl) rfl (by omega) (hP.rin (by first | assumption | omega)) ?_
  refine mj_iast (pc' := 912) C dL_law_911 rfl rfl (by decide) (by decide) (hP.B.l 14 (by decide) rfl) rfl (by omega) ?_
  rw [sI_id (hP.rin hl)]
  refine mj_goto (pc' := 1337) C dL_law_912 (by decide) ?_
  exact fin.use Sc S rfl rfl rfl rfl rfl hR hP hA hI.up (by omega) (by omega)

set_option maxHeartbeats 2000000 in
set_option maxRecDepth 20000 in
theorem pk_866b {l : Launch} (hst : l.stackTraces = false) {J : Nat → List (Option jV) → List jV → jM → Nat → Nat → Prop} (C : jCtx l J cL_law 36 RL room_1 (some FieldType.boolean) 3 [] (fun _ _ => True) (fun _ _ => False) 0 0) (Sc : jSc J cL_law) (S : jS) (c : Nat) (v26 v27 : Int32) (wh f fl : Nat) (μ : jM) (hc : c < 40) (hwh : wh < 13) (hf : f < 10) (hl : fl < sn S 0) (hR : xR S μ) (hP : pR S μ) (hA : sA S) (hI : pI c S) (fin : pFin J c v27) (hs : sf S 15 fl = 0) (hcan : canR S (fF S fl)) (hq : ¬ sf S 12 fl < sf S 7 (fL S fl)) {k n : Nat} (hk : k ≤ 500 + 1000 * c) (hn : n ≤ 6000 + 10000 * c) : J 866 [some (aR 61 0), some (aR 0 0), some (aR 22 0), some (aR 23 0), some (aR 24 0), some (aR 25 0), some (aR 21 0), some (aR 27 0), some (aR 28 0), some (aR 29 0), some (aR 30 0), some (aR 31 0), some (aR 32 0), some (aR 33 0), some (aR 34 0), some (aR 35 0), some (aR 36 0), some (aR 37 0), some (aR 38 0), some (aR 39 0), some (aI (nI (sn S 1))), some (aI (nI (sn S 0))), some (aI (sf S 17 2)), some (aI (sf S 17 0)), some (aI (sf S 17 1)), some (aI (nI c)), some (aI v26), some (aI v27), some (aI (nI wh)), some (aI (nI f)), some (aI (nI fl)), some (aI (b1 (canR S f))), none, none, none, none] [aI 1] μ k n := by
  have hW := hA.1
  have hW1 := hW.1.2
  have hN := hI.1
  refine mj_istore_32 (pc' := 868) C dL_law_866 rfl (by decide) rfl ?_
  refine mj_iload (pc' := 870) C dL_law_868 rfl rfl ?_
  refine mj_if_eq (tgt := 892) (pc' := 873) C dL_law_870 (by decide) rfl (fun h9 => absurd h9 (by decide)) (fun _ => ?_)
  refine mj_aload_n (pc' := 874) C dL_law_873 rfl rfl ?_
  refine mj_iload (pc' := 876) C dL_law_874 rfl rfl ?_
  refine mj_callVN_1 (ci := 5) (pc' := 879) C (c_X5_read hst S (nI fl)) dL_law_876 rfl km_L_73 ki_yX5_read kz_yX5_read kn_X5 kc_yX5_read rfl (by decide) (by decide) ⟨rfl, by decide, by decide, by decide +kernel⟩ ⟨by decide, by decide⟩ (Nat.le_of_ble_eq_true rfl) ⟨by first | decide | (show _ ≤ (600104 : Nat); omega) | (show _ ≤ (7301314 : Nat); omega), by first | decide | (show _ ≤ (600104 : Nat); omega) | (show _ ≤ (7301314 : Nat); omega)⟩ ⟨rfl, hR, hW⟩ (fun r876 μ876 hq876 hm876 => ?_) (fun _ _ h9 => jno_of (oe_read hW hl hs hcan hq) h9)
  obtain ⟨rfl, hR876, hF876⟩ := jret_of (oe_read hW hl hs hcan hq) hq876
  dsimp only [Option.toList, List.nil_append, List.cons_append]
  have hR := hR876
  have hP := hP.kept hF876
  refine mj_iload (pc' := 881) C dL_law_879 rfl rfl ?_
  refine mj_aload (pc' := 883) C dL_law_881 rfl rfl ?_
  refine mj_iload (pc' := 885) C dL_law_883 rfl rfl ?_
  refine mj_ialdV (pc' := 886) C dL_law_885 rfl rfl (by decide) (by decide) (hP.B.l 14 (by decide) rfl) rfl (by omega) (hP.rin (by first | assumption | omega)) ?_
  refine mj_isub (pc' := 887) C dL_law_886 rfl ?_
  refine mj_icmp_eq (tgt := 892) (pc' := 890) C dL_law_887 (by decide) rfl (fun _ => ?_) (fun h9 => absurd rfl h9)
  refine mj_aload (pc' := 894) C dL_law_892 rfl rfl ?_
  refine mj_iload (pc' := 896) C dL_law_894 rfl rfl ?_
  refine mj_iload (pc' := 898) C dL_law_896 rfl rfl ?_
  refine mj_if_eq (tgt := 906) (pc' := 901) C dL_law_898 (by decide) rfl (fun h9 => absurd h9 (by decide)) (fun _ => ?_)
  refine mj_iload (pc' := 903) C dL_law_901 rfl rfl ?_
  refine mj_goto (pc' := 911) C dL_law_903 (by decide) ?_
  refine mj_iast (pc' := 912) C dL_law_911 rfl rfl (by decide) (by decide) (hP.B.l 14 (by decide) rfl) rfl (by omega) ?_
  refine jgen (J := J) (P := fun μ2 => xR (su S 14 fl (sf S 17 2)) μ2 ∧ pR (su S 14 fl (sf S 17 2)) μ2) ⟨hR.o (by decide), pR_v hP 35 rfl (Or.inr (by decide)) (Or.inl (by decide))⟩ ?_
  clear hR hP
  rintro μ912 ⟨hR, hP⟩
  refine mj_goto (pc' := 1337) C dL_law_912 (by decide) ?_
  have hA9 := A_read hA (nI fl)
  rw [oe_read hW hl hs hcan hq] at hA9
  exact fin.use Sc (su S 14 fl (sf S 17 2)) rfl rfl (s17 (by decide)).symm (s17 (by decide)).symm (s17 (by decide)).symm hR hP hA9 (pI_su hI (by decide)) (by omega) (by omega)

set_option maxHeartbeats 2000000 in
set_option maxRecDepth 20000 in
theorem pk_799 {l : Launch} (hst : l.stackTraces = false) {J : Nat → List (Option jV) → List jV → jM → Nat → Nat → Prop} (C : jCtx l J cL_law 36 RL room_1 (some FieldType.boolean) 3 [] (fun _ _ => True) (fun _ _ => False) 0 0) (Sc : jSc J cL_law) (S : jS) (c : Nat) (v26 v27 : Int32) (wh f fl : Nat) (μ : jM) (hc : c < 40) (hwh : wh < 13) (hf : f < 10) (hfl : 0 < sn S 0 → fl < sn S 0) (hR : xR S μ) (hP : pR S μ) (hH : pH S μ) (hA : sA S) (hI : pI c S) (fin : pFin J c v27) : J 799 [some (aR 61 0), some (aR 0 0), some (aR 22 0), some (aR 23 0), some (aR 24 0), some (aR 25 0), some (aR 21 0), some (aR 27 0), some (aR 28 0), some (aR 29 0), some (aR 30 0), some (aR 31 0), some (aR 32 0), some (aR 33 0), some (aR 34 0), some (aR 35 0), some (aR 36 0), some (aR 37 0), some (aR 38 0), some (aR 39 0), some (aI (nI (sn S 1))), some (aI (nI (sn S 0))), some (aI (sf S 17 2)), some (aI (sf S 17 0)), some (aI (sf S 17 1)), some (aI (nI c)), some (aI v26), some (aI v27), some (aI (nI wh)), some (aI (nI f)), some (aI (nI fl)), some (aI (b1 (canR S f))), none, none, none, none] [] μ (400 + 1000 * c) (5000 + 10000 * c) := by
  have hW := hA.1
  have hW1 := hW.1.2
  have hN := hI.1
  refine mj_iload (pc' := 801) C dL_law_799 rfl rfl ?_
  refine mj_bipush (pc' := 803) (v := 9) C dL_law_801 rfl rfl ?_
  refine mj_icmp_ne (tgt := 915) (pc' := 806) C dL_law_803 (by decide) rfl (fun h803 => ?_) (fun h803 => ?_)
  · exact pk_915 hst C Sc S c v26 v27 wh f fl μ hc hwh hf hfl hR hP hH hA hI fin
  · refine mj_iload (pc' := 808) C dL_law_806 rfl rfl ?_
    refine mj_if_le (tgt := 915) (pc' := 811) C dL_law_808 (by decide) rfl (fun h808 => ?_) (fun h808 => ?_)
    · exact pk_915 hst C Sc S c v26 v27 wh f fl μ hc hwh hf hfl hR hP hH hA hI fin
    · have h0 : 0 < sn S 0 := Nat.pos_of_ne_zero (fun q => h808 (by rw [q]; decide))
      have hl := hfl h0
      obtain ⟨hg, eg⟩ := fF_of hW hl
      obtain ⟨hl5, el⟩ := fL_of hW hl
      refine mj_aload (pc' := 813) C dL_law_811 rfl rfl ?_
      refine mj_iload (pc' := 815) C dL_law_813 rfl rfl ?_
      refine mj_ialdV (pc' := 816) C dL_law_815 rfl rfl (by decide) (by decide) (hP.B.l 15 (by decide) rfl) rfl (by omega) (hP.sta (by first | assumption | omega)) ?_
      refine mj_if_ne (tgt := 865) (pc' := 819) C dL_law_816 (by decide) rfl (fun h816 => ?_) (fun h816 => ?_)
      · refine mj_iconst (pc' := 866) (v := 0) C dL_law_865 rfl rfl ?_
        first | exact pk_866b hst C Sc S c v26 v27 wh f fl _ hc hwh hf hl hR hP hA hI fin h816 hcan h858 (by omega) (by omega) | exact pk_866a hst C Sc S c v26 v27 wh f fl _ hc hwh hf hl hR hP hA hI fin (by omega) (by omega)
      · refine mj_aload (pc' := 821) C dL_law_819 rfl rfl ?_
        refine mj_aload (pc' := 823) C dL_law_821 rfl rfl ?_
        refine mj_iload (pc' := 825) C dL_law_823 rfl rfl ?_
        refine mj_ialdV (pc' := 826) C dL_law_825 rfl rfl (by decide) (by decide) (hP.B.l 9 (by decide) rfl) rfl (by omega) (hP.fmt (by first | assumption | omega)) ?_
        refine mj_ialdV (pc' := 827) C dL_law_826 rfl rfl (by decide) (by decide) (hP.B.l 0 (by decide) rfl) eg hg (hP.last hg) ?_
        refine mj_iconst (pc' := 828) (v := (-1)) C dL_law_827 rfl rfl ?_
        refine mj_icmp_eq (tgt := 844) (pc' := 831) C dL_law_828 (by decide) rfl (fun h828 => ?_) (fun h828 => ?_)
        · have hcan : canR S (fF S fl) := Or.inl h828
          refine mj_aload_n (pc' := 845) C dL_law_844 rfl rfl ?_
          refine mj_iload (pc' := 847) C dL_law_845 rfl rfl ?_
          refine mj_callVN_1 (ci := 5) (pc' := 850) C (c_X5_qualityOf hst S (nI fl)) dL_law_847 rfl km_L_43 ki_yX5_qualityOf kz_yX5_qualityOf kn_X5 kc_yX5_qualityOf rfl (by decide) (by decide) ⟨rfl, by decide, by decide, by decide +kernel⟩ ⟨by decide, by decide⟩ (Nat.le_of_ble_eq_true rfl) ⟨by first | decide | (show _ ≤ (600104 : Nat); omega) | (show _ ≤ (7301314 : Nat); omega), by first | decide | (show _ ≤ (600104 : Nat); omega) | (show _ ≤ (7301314 : Nat); omega)⟩ ⟨rfl, hR, hW⟩ (fun r847 μ847 hq847 hm847 => ?_) (fun _ _ h9 => jno_of (oe_get 12 hW hl) h9)
          obtain ⟨rfl, hR847, hF847⟩ := jret_of (oe_get 12 hW hl) hq847
          dsimp only [Option.toList, List.nil_append, List.cons_append]
          have hR := hR847
          have hP := hP.kept hF847
          refine mj_aload (pc' := 852) C dL_law_850 rfl rfl ?_
          refine mj_aload (pc' := 854) C dL_law_852 rfl rfl ?_
          refine mj_iload (pc' := 856) C dL_law_854 rfl rfl ?_
          refine mj_ialdV (pc' := 857) C dL_law_856 rfl rfl (by decide) (by decide) (hP.B.l 11 (by decide) rfl) rfl (by omega) (hP.lwo (by first | assumption | omega)) ?_
          refine mj_ialdV (pc' := 858) C dL_law_857 rfl rfl (by decide) (by decide) (hP.B.l 7 (by decide) rfl) el hl5 (hP.lea hl5) ?_
          refine mj_icmp_lt (tgt := 865) (pc' := 861) C dL_law_858 (by decide) rfl (fun h858 => ?_) (fun h858 => ?_)
          · refine mj_iconst (pc' := 866) (v := 0) C dL_law_865 rfl rfl ?_
            first | exact pk_866b hst C Sc S c v26 v27 wh f fl _ hc hwh hf hl hR hP hA hI fin h816 hcan h858 (by omega) (by omega) | exact pk_866a hst C Sc S c v26 v27 wh f fl _ hc hwh hf hl hR hP hA hI fin (by omega) (by omega)
          · refine mj_iconst (pc' := 862) (v := 1) C dL_law_861 rfl rfl ?_
            refine mj_goto (pc' := 866) C dL_law_862 (by decide) ?_
            first | exact pk_866b hst C Sc S c v26 v27 wh f fl _ hc hwh hf hl hR hP hA hI fin h816 hcan h858 (by omega) (by omega) | exact pk_866a hst C Sc S c v26 v27 wh f fl _ hc hwh hf hl hR hP hA hI fin (by omega) (by omega)
        · refine mj_aload (pc' := 833) C dL_law_831 rfl rfl ?_
          refine mj_aload (pc' := 835) C dL_law_833 rfl rfl ?_
          refine mj_iload (pc' := 837) C dL_law_835 rfl rfl ?_
          refine mj_ialdV (pc' := 838) C dL_law_837 rfl rfl (by decide) (by decide) (hP.B.l 9 (by decide) rfl) rfl (by omega) (hP.fmt (by first | assumption | omega)) ?_
          refine mj_ialdV (pc' := 839) C dL_law_838 rfl rfl (by decide) (by decide) (hP.B.l 0 (by decide) rfl) eg hg (hP.last hg) ?_
          refine mj_iload (pc' := 841) C dL_law_839 rfl rfl ?_
          refine mj_icmp_lt (tgt := 865) (pc' := 844) C dL_law_841 (by decide) rfl (fun h841 => ?_) (fun h841 => ?_)
          · refine mj_iconst (pc' := 866) (v := 0) C dL_law_865 rfl rfl ?_
            first | exact pk_866b hst C Sc S c v26 v27 wh f fl _ hc hwh hf hl hR hP hA hI fin h816 hcan h858 (by omega) (by omega) | exact pk_866a hst C Sc S c v26 v27 wh f fl _ hc hwh hf hl hR hP hA hI fin (by omega) (by omega)
          · have hcan : canR S (fF S fl) := Or.inr (Int32.not_lt.mp h841)
            refine mj_aload_n (pc' := 845) C dL_law_844 rfl rfl ?_
            refine mj_iload (pc' := 847) C dL_law_845 rfl rfl ?_
            refine mj_callVN_1 (ci := 5) (pc' := 850) C (c_X5_qualityOf hst S (nI fl)) dL_law_847 rfl km_L_43 ki_yX5_qualityOf kz_yX5_qualityOf kn_X5 kc_yX5_qualityOf rfl (by decide) (by decide) ⟨rfl, by decide, by decide, by decide +kernel⟩ ⟨by decide, by decide⟩ (Nat.le_of_ble_eq_true rfl) ⟨by first | decide | (show _ ≤ (600104 : Nat); omega) | (show _ ≤ (7301314 : Nat); omega), by first | decide | (show _ ≤ (600104 : Nat); omega) | (show _ ≤ (7301314 : Nat); omega)⟩ ⟨rfl, hR, hW⟩ (fun r847 μ847 hq847 hm847 => ?_) (fun _ _ h9 => jno_of (oe_get 12 hW hl) h9)
            obtain ⟨rfl, hR847, hF847⟩ := jret_of (oe_get 12 hW hl) hq847
            dsimp only [Option.toList, List.nil_append, List.cons_append]
            have hR := hR847
            have hP := hP.kept hF847
            refine mj_aload (pc' := 852) C dL_law_850 rfl rfl ?_
            refine mj_aload (pc' := 854) C dL_law_852 rfl rfl ?_
            refine mj_iload (pc' := 856) C dL_law_854 rfl rfl ?_
            refine mj_ialdV (pc' := 857) C dL_law_856 rfl rfl (by decide) (by decide) (hP.B.l 11 (by decide) rfl) rfl (by omega) (hP.lwo (by first | assumption | omega)) ?_
            refine mj_ialdV (pc' := 858) C dL_law_857 rfl rfl (by decide) (by decide) (hP.B.l 7 (by decide) rfl) el hl5 (hP.lea hl5) ?_
            refine mj_icmp_lt (tgt := 865) (pc' := 861) C dL_law_858 (by decide) rfl (fun h858 => ?_) (fun h858 => ?_)
            · refine mj_iconst (pc' := 866) (v := 0) C dL_law_865 rfl rfl ?_
              first | exact pk_866b hst C Sc S c v26 v27 wh f fl _ hc hwh hf hl hR hP hA hI fin h816 hcan h858 (by omega) (by omega) | exact pk_866a hst C Sc S c v26 v27 wh f fl _ hc hwh hf hl hR hP hA hI fin (by omega) (by omega)
            · refine mj_iconst (pc' := 862) (v := 1) C dL_law_861 rfl rfl ?_
              refine mj_goto (pc' := 866) C dL_law_862 (by decide) ?_
              first | exact pk_866b hst C Sc S c v26 v27 wh f fl _ hc hwh hf hl hR hP hA hI fin h816 hcan h858 (by omega) (by omega) | exact pk_866a hst C Sc S c v26 v27 wh f fl _ hc hwh hf hl hR hP hA hI fin (by omega) (by omega)

set_option maxHeartbeats 2000000 in
set_option maxRecDepth 20000 in
theorem pk_721 {l : Launch} (hst : l.stackTraces = false) {J : Nat → List (Option jV) → List jV → jM → Nat → Nat → Prop} (C : jCtx l J cL_law 36 RL room_1 (some FieldType.boolean) 3 [] (fun _ _ => True) (fun _ _ => False) 0 0) (Sc : jSc J cL_law) (S : jS) (c : Nat) (v26 v27 : Int32) (wh f fl : Nat) (μ : jM) (hc : c < 40) (hwh : wh < 13) (hf : f < 10) (hfl : 0 < sn S 0 → fl < sn S 0) (hR : xR S μ) (hP : pR S μ) (hH : pH S μ) (hA : sA S) (hI : pI c S) (fin : pFin J c v27) : J 721 [some (aR 61 0), some (aR 0 0), some (aR 22 0), some (aR 23 0), some (aR 24 0), some (aR 25 0), some (aR 21 0), some (aR 27 0), some (aR 28 0), some (aR 29 0), some (aR 30 0), some (aR 31 0), some (aR 32 0), some (aR 33 0), some (aR 34 0), some (aR 35 0), some (aR 36 0), some (aR 37 0), some (aR 38 0), some (aR 39 0), some (aI (nI (sn S 1))), some (aI (nI (sn S 0))), some (aI (sf S 17 2)), some (aI (sf S 17 0)), some (aI (sf S 17 1)), some (aI (nI c)), some (aI v26), some (aI v27), some (aI (nI wh)), some (aI (nI f)), some (aI (nI fl)), some (aI (b1 (canR S f))), none, none, none, none] [] μ (400 + 1000 * c) (5000 + 10000 * c) := by
  have hW := hA.1
  have hW1 := hW.1.2
  have hN := hI.1
  refine mj_iload (pc' := 723) C dL_law_721 rfl rfl ?_
  refine mj_bipush (pc' := 725) (v := 8) C dL_law_723 rfl rfl ?_
  refine mj_icmp_ne (tgt := 799) (pc' := 728) C dL_law_725 (by decide) rfl (fun h725 => ?_) (fun h725 => ?_)
  · exact pk_799 hst C Sc S c v26 v27 wh f fl μ hc hwh hf hfl hR hP hH hA hI fin
  · refine mj_iload (pc' := 730) C dL_law_728 rfl rfl ?_
    refine mj_if_le (tgt := 799) (pc' := 733) C dL_law_730 (by decide) rfl (fun h730 => ?_) (fun h730 => ?_)
    · exact pk_799 hst C Sc S c v26 v27 wh f fl μ hc hwh hf hfl hR hP hH hA hI fin
    · have h0 : 0 < sn S 0 := Nat.pos_of_ne_zero (fun q => h730 (by rw [q]; decide))
      have hl := hfl h0
      refine mj_aload (pc' := 735) C dL_law_733 rfl rfl ?_
      refine mj_iload (pc' := 737) C dL_law_735 rfl rfl ?_
      refine mj_ialdV (pc' := 738) C dL_law_737 rfl rfl (by decide) (by decide) (hP.B.l 15 (by decide) rfl) rfl (by omega) (hP.sta (by first | assumption | omega)) ?_
      refine mj_if_ne (tgt := 799) (pc' := 741) C dL_law_738 (by decide) rfl (fun h738 => ?_) (fun h738 => ?_)
      · exact pk_799 hst C Sc S c v26 v27 wh f fl μ hc hwh hf hfl hR hP hH hA hI fin
      · refine mj_iload (pc' := 743) C dL_law_741 rfl rfl ?_
        refine mj_bipush (pc' := 745) (v := 9) C dL_law_743 rfl rfl ?_
        refine mj_ishr (pc' := 746) C dL_law_745 rfl ?_
        refine mj_iconst (pc' := 747) (v := 2) C dL_law_746 rfl rfl ?_
        refine mj_callSN_2 (pc' := 750) C (c_L_low hst (v26 >>> (9 &&& 31)) 2 ⟨by decide, by decide⟩) dL_law_747 rfl km_L_53 ks_yL_low kn_L kc_yL_low ⟨by decide, by decide, by decide +kernel⟩ ⟨by decide, by decide⟩ (Nat.le_of_ble_eq_true rfl) ⟨by first | decide | (show _ ≤ (600104 : Nat); omega) | (show _ ≤ (7301314 : Nat); omega), by first | decide | (show _ ≤ (600104 : Nat); omega) | (show _ ≤ (7301314 : Nat); omega)⟩ rfl (fun r747 μ747 hq747 hm747 => ?_) (fun _ _ h9 => h9)
        obtain ⟨⟨w747, hw747, rfl⟩, hq9⟩ := hq747
        have hq9 := hq9.symm
        subst hq9
        dsimp only [Option.toList, List.nil_append, List.cons_append]
        have hv01 : nI w747 = 0 ∨ nI w747 = 1 := by
          rcases (show w747 = 0 ∨ w747 = 1 by omega) with e | e
          · rw [e]; exact Or.inl rfl
          · rw [e]; exact Or.inr rfl
        obtain ⟨x9, ex⟩ : ∃ x9, x9 = nI w747 := ⟨_, rfl⟩
        rw [← ex] at hv01
        refine mj_istore_32 (pc' := 752) C dL_law_750 rfl (by decide) rfl ?_
        refine mj_aload_n (pc' := 753) C dL_law_752 rfl rfl ?_
        refine mj_iload (pc' := 755) C dL_law_753 rfl rfl ?_
        refine mj_iload (pc' := 757) C dL_law_755 rfl rfl ?_
        refine mj_iconst (pc' := 758) (v := 1) C dL_law_757 rfl rfl ?_
        refine jn (tgt := 766) (v := aI x9) (st := [aI (nI fl), aR 0 0]) (fun K758 => ?_) ?_
        · refine mj_icmp_ne (tgt := 765) (pc' := 761) C dL_law_758 (by decide) rfl (fun h758 => ?_) (fun h758 => ?_)
          · obtain rfl : x9 = 0 := hv01.resolve_right (fun q => h758 (ex ▸ q))
            refine mj_iconst (pc' := 766) (v := 0) C dL_law_765 rfl rfl ?_
            exact K758
          · obtain rfl : x9 = 1 := ex.trans h758
            refine mj_iconst (pc' := 762) (v := 1) C dL_law_761 rfl rfl ?_
            refine mj_goto (pc' := 766) C dL_law_762 (by decide) ?_
            exact K758
        refine mj_callVN_2 (ci := 5) (pc' := 769) C (c_X5_hold hst S (nI fl) x9) dL_law_766 rfl km_L_69 ki_yX5_hold kz_yX5_hold kn_X5 kc_yX5_hold rfl (by decide) (by decide) ⟨rfl, by decide, by decide, by decide +kernel⟩ ⟨by decide, by decide⟩ (Nat.le_of_ble_eq_true rfl) ⟨by first | decide | (show _ ≤ (600104 : Nat); omega) | (show _ ≤ (7301314 : Nat); omega), by first | decide | (show _ ≤ (600104 : Nat); omega) | (show _ ≤ (7301314 : Nat); omega)⟩ ⟨rfl, hR, hW, hv01⟩ (fun r766 μ766 hq766 hm766 => ?_) (fun _ _ h9 => jno_of (oe_hold hW hl h738) h9)
        obtain ⟨rfl, hR766, hF766⟩ := jret_of (oe_hold hW hl h738) hq766
        dsimp only [Option.toList, List.nil_append, List.cons_append]
        have hR := hR766
        have hP := hP.kept hF766
        refine mj_aload (pc' := 771) C dL_law_769 rfl rfl ?_
        refine mj_iload (pc' := 773) C dL_law_771 rfl rfl ?_
        subst ex
        refine mj_ialdV (pc' := 774) C dL_law_773 rfl rfl (by decide) (by decide) (hP.B.l 16 (by decide) rfl) rfl (by omega) (hP.hld (by first | assumption | omega)) ?_
        refine mj_iload (pc' := 776) C dL_law_774 rfl rfl ?_
        refine jn (tgt := 784) (v := aI (b1 (sf S 16 fl ≠ nI w747))) (st := [aI (b1 (sf S 16 fl ≠ nI w747))]) (fun K776 => ?_) ?_
        · refine mj_icmp_eq (tgt := 783) (pc' := 779) C dL_law_776 (by decide) rfl (fun h776 => ?_) (fun h776 => ?_)
          · have ej : b1 (sf S 16 fl ≠ nI w747) = 0 := b1_f (fun q => q h776)
            refine mj_iconst (pc' := 784) (v := 0) C dL_law_783 rfl rfl ?_
            rw [ej] at K776
            rw [ej]
            exact K776
          · have ej : b1 (sf S 16 fl ≠ nI w747) = 1 := b1_t h776
            refine mj_iconst (pc' := 780) (v := 1) C dL_law_779 rfl rfl ?_
            refine mj_goto (pc' := 784) C dL_law_780 (by decide) ?_
            rw [ej] at K776
            rw [ej]
            exact K776
        refine mj_icmp_eq (tgt := 789) (pc' := 787) C dL_law_784 (by decide) rfl (fun _ => ?_) (fun h9 => absurd rfl h9)
        refine mj_aload (pc' := 791) C dL_law_789 rfl rfl ?_
        refine mj_iload (pc' := 793) C dL_law_791 rfl rfl ?_
        refine mj_iload (pc' := 795) C dL_law_793 rfl rfl ?_
        refine mj_iast (pc' := 796) C dL_law_795 rfl rfl (by decide) (by decide) (hP.B.l 16 (by decide) rfl) rfl (by omega) ?_
        refine jgen (J := J) (P := fun μ2 => xR (su S 16 fl (nI w747)) μ2 ∧ pR (su S 16 fl (nI w747)) μ2) ⟨hR.o (by decide), pR_v hP 37 rfl (Or.inr (by decide)) (Or.inr hl)⟩ ?_
        clear hR hP
        rintro μ796 ⟨hR, hP⟩
        refine mj_goto (pc' := 1337) C dL_law_796 (by decide) ?_
        have hA9 := A_hold hA (nI fl) (nI w747) hv01
        rw [oe_hold hW hl h738] at hA9
        exact fin.use Sc (su S 16 fl (nI w747)) rfl rfl (s17 (by decide)).symm (s17 (by decide)).symm (s17 (by decide)).symm hR hP hA9 (pI_su hI (by decide)) (by omega) (by omega)
