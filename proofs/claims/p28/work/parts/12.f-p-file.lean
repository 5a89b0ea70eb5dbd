/-! THE LAW: A FILE IS TAKEN IN, A LAST YEAR -/
set_option maxHeartbeats 2000000 in
set_option maxRecDepth 20000 in
theorem pk_607 {l : Launch} (hst : l.stackTraces = false) {J : Nat → List (Option jV) → List jV → jM → Nat → Nat → Prop} (C : jCtx l J cL_law 36 RL room_1 (some FieldType.boolean) 3 [] (fun _ _ => True) (fun _ _ => False) 0 0) (Sc : jSc J cL_law) (S : jS) (c : Nat) (v26 v27 : Int32) (wh f fl : Nat) (μ : jM) (hc : c < 40) (hwh : wh < 13) (hf : f < 10) (hfl : 0 < sn S 0 → fl < sn S 0) (hR : xR S μ) (hP : pR S μ) (hH : pH S μ) (hA : sA S) (hI : pI c S) (fin : pFin J c v27) : J 607 [some (aR 61 0), some (aR 0 0), some (aR 22 0), some (aR 23 0), some (aR 24 0), some (aR 25 0), some (aR 21 0), some (aR 27 0), some (aR 28 0), some (aR 29 0), some (aR 30 0), some (aR 31 0), some (aR 32 0), some (aR 33 0), some (aR 34 0), some (aR 35 0), some (aR 36 0), some (aR 37 0), some (aR 38 0), some (aR 39 0), some (aI (nI (sn S 1))), some (aI (nI (sn S 0))), some (aI (sf S 17 2)), some (aI (sf S 17 0)), some (aI (sf S 17 1)), some (aI (nI c)), some (aI v26), some (aI v27), some (aI (nI wh)), some (aI (nI f)), some (aI (nI fl)), some (aI (b1 (canR S f))), none, none, none, none] [] μ (400 + 1000 * c) (5000 + 10000 * c) := by
  have hW := hA.1
  have hW1 := hW.1.2
  have hN := hI.1
  refine mj_iload (pc' := 609) C dL_law_607 rfl rfl ?_
  refine mj_bipush (pc' := 611) (v := 7) C dL_law_609 rfl rfl ?_
  refine mj_icmp_ne (tgt := 721) (pc' := 614) C dL_law_611 (by decide) rfl (fun h611 => ?_) (fun h611 => ?_)
  · exact pk_721 hst C Sc S c v26 v27 wh f fl μ hc hwh hf hfl hR hP hH hA hI fin
  · refine mj_iload (pc' := 616) C dL_law_614 rfl rfl ?_
    refine mj_if_eq (tgt := 721) (pc' := 619) C dL_law_616 (by decide) rfl (fun h616 => ?_) (fun h616 => ?_)
    · exact pk_721 hst C Sc S c v26 v27 wh f fl μ hc hwh hf hfl hR hP hH hA hI fin
    · have hcan := b1_n h616
      refine mj_iload (pc' := 621) C dL_law_619 rfl rfl ?_
      refine mj_bipush (pc' := 623) (v := 12) C dL_law_621 rfl rfl ?_
      refine mj_icmp_ge (tgt := 721) (pc' := 626) C dL_law_623 (by decide) rfl (fun h623 => ?_) (fun h623 => ?_)
      · exact pk_721 hst C Sc S c v26 v27 wh f fl μ hc hwh hf hfl hR hP hH hA hI fin
      · have h12 : sn S 0 < 12 := Nat.lt_of_not_le (fun q => h623 (nI_le (a := 12) q (by omega)))
        refine mj_aload (pc' := 628) C dL_law_626 rfl rfl ?_
        refine mj_iload (pc' := 630) C dL_law_628 rfl rfl ?_
        refine mj_iconst (pc' := 631) (v := 1) C dL_law_630 rfl rfl ?_
        refine mj_iload (pc' := 633) C dL_law_631 rfl rfl ?_
        refine mj_bipush (pc' := 635) (v := 100) C dL_law_633 rfl rfl ?_
        refine mj_callSN_2 (pc' := 638) C (c_L_low hst v27 100 ⟨by decide, by decide⟩) dL_law_635 rfl km_L_53 ks_yL_low kn_L kc_yL_low ⟨by decide, by decide, by decide +kernel⟩ ⟨by decide, by decide⟩ (Nat.le_of_ble_eq_true rfl) ⟨by first | decide | (show _ ≤ (600104 : Nat); omega) | (show _ ≤ (7301314 : Nat); omega), by first | decide | (show _ ≤ (600104 : Nat); omega) | (show _ ≤ (7301314 : Nat); omega)⟩ rfl (fun r635 μ635 hq635 hm635 => ?_) (fun _ _ h9 => h9)
        obtain ⟨⟨w635, hw635, rfl⟩, hq9⟩ := hq635
        have hq9 := hq9.symm
        subst hq9
        dsimp only [Option.toList, List.nil_append, List.cons_append]
        refine mj_iadd (pc' := 639) C dL_law_638 rfl ?_
        rw [show (1 : Int32) + nI w635 = nI (1 + w635) from nI_add 1 w635]
        refine mj_iast (pc' := 640) C dL_law_639 rfl rfl (by decide) (by decide) (hP.B.l 10 (by decide) rfl) rfl (by omega) ?_
        refine jgen (J := J) (P := fun μ2 => xR S μ2 ∧ pR S μ2 ∧ mI μ2 31 0 (sn S 0) = nI (1 + w635)) ⟨hR.o (by decide), pR_out (a := 10) hP 31 rfl (by decide) (fun _ => Nat.le_refl _), mI_sI_s _ _ _ _ _⟩ ?_
        clear hR hP
        rintro μ640 ⟨hR, hP, w31⟩
        refine mj_aload (pc' := 642) C dL_law_640 rfl rfl ?_
        refine mj_iload (pc' := 644) C dL_law_642 rfl rfl ?_
        refine mj_iload (pc' := 646) C dL_law_644 rfl rfl ?_
        refine mj_bipush (pc' := 648) (v := 7) C dL_law_646 rfl rfl ?_
        refine mj_ishr (pc' := 649) C dL_law_648 rfl ?_
        refine mj_iconst (pc' := 650) (v := 5) C dL_law_649 rfl rfl ?_
        refine mj_callSN_2 (pc' := 653) C (c_L_low hst (v27 >>> (7 &&& 31)) 5 ⟨by decide, by decide⟩) dL_law_650 rfl km_L_53 ks_yL_low kn_L kc_yL_low ⟨by decide, by decide, by decide +kernel⟩ ⟨by decide, by decide⟩ (Nat.le_of_ble_eq_true rfl) ⟨by first | decide | (show _ ≤ (600104 : Nat); omega) | (show _ ≤ (7301314 : Nat); omega), by first | decide | (show _ ≤ (600104 : Nat); omega) | (show _ ≤ (7301314 : Nat); omega)⟩ rfl (fun r650 μ650 hq650 hm650 => ?_) (fun _ _ h9 => h9)
        obtain ⟨⟨w650, hw650, rfl⟩, hq9⟩ := hq650
        have hq9 := hq9.symm
        subst hq9
        dsimp only [Option.toList, List.nil_append, List.cons_append]
        refine mj_iast (pc' := 654) C dL_law_653 rfl rfl (by decide) (by decide) (hP.B.l 11 (by decide) rfl) rfl (by omega) ?_
        refine jgen (J := J) (P := fun μ2 => xR S μ2 ∧ pR S μ2 ∧ mI μ2 32 0 (sn S 0) = nI w650 ∧ mI μ2 31 0 (sn S 0) = nI (1 + w635)) ⟨hR.o (by decide), pR_out (a := 11) hP 32 rfl (by decide) (fun _ => Nat.le_refl _), mI_sI_s _ _ _ _ _, (mI_sI_n _ _ _ _ _ (fun q => by omega)).trans w31⟩ ?_
        clear hR hP
        rintro μ654 ⟨hR, hP, w32, w31⟩
        refine mj_aload (pc' := 656) C dL_law_654 rfl rfl ?_
        refine mj_iload (pc' := 658) C dL_law_656 rfl rfl ?_
        refine mj_iload (pc' := 660) C dL_law_658 rfl rfl ?_
        refine mj_iast (pc' := 661) C dL_law_660 rfl rfl (by decide) (by decide) (hP.B.l 9 (by decide) rfl) rfl (by omega) ?_
        refine jgen (J := J) (P := fun μ2 => xR S μ2 ∧ pR S μ2 ∧ mI μ2 30 0 (sn S 0) = nI f ∧ mI μ2 32 0 (sn S 0) = nI w650 ∧ mI μ2 31 0 (sn S 0) = nI (1 + w635)) ⟨hR.o (by decide), pR_out (a := 9) hP 30 rfl (by decide) (fun _ => Nat.le_refl _), mI_sI_s _ _ _ _ _, (mI_sI_n _ _ _ _ _ (fun q => by omega)).trans w32, (mI_sI_n _ _ _ _ _ (fun q => by omega)).trans w31⟩ ?_
        clear hR hP
        rintro μ661 ⟨hR, hP, w30, w32, w31⟩
        refine mj_aload (pc' := 663) C dL_law_661 rfl rfl ?_
        refine mj_iload (pc' := 665) C dL_law_663 rfl rfl ?_
        refine mj_sipush (pc' := 668) (v := 1000) C dL_law_665 rfl rfl ?_
        refine mj_iast (pc' := 669) C dL_law_668 rfl rfl (by decide) (by decide) (hP.B.l 12 (by decide) rfl) rfl (by omega) ?_
        refine jgen (J := J) (P := fun μ2 => xR S μ2 ∧ pR S μ2 ∧ mI μ2 33 0 (sn S 0) = 1000 ∧ mI μ2 30 0 (sn S 0) = nI f ∧ mI μ2 32 0 (sn S 0) = nI w650 ∧ mI μ2 31 0 (sn S 0) = nI (1 + w635)) ⟨hR.o (by decide), pR_out (a := 12) hP 33 rfl (by decide) (fun _ => Nat.le_refl _), mI_sI_s _ _ _ _ _, (mI_sI_n _ _ _ _ _ (fun q => by omega)).trans w30, (mI_sI_n _ _ _ _ _ (fun q => by omega)).trans w32, (mI_sI_n _ _ _ _ _ (fun q => by omega)).trans w31⟩ ?_
        clear hR hP
        rintro μ669 ⟨hR, hP, w33, w30, w32, w31⟩
        refine mj_aload (pc' := 671) C dL_law_669 rfl rfl ?_
        refine mj_iload (pc' := 673) C dL_law_671 rfl rfl ?_
        refine mj_iload (pc' := 675) C dL_law_673 rfl rfl ?_
        refine mj_aload (pc' := 677) C dL_law_675 rfl rfl ?_
        refine mj_aload (pc' := 679) C dL_law_677 rfl rfl ?_
        refine mj_iload (pc' := 681) C dL_law_679 rfl rfl ?_
        refine mj_ialdV (pc' := 682) C dL_law_681 rfl rfl (by decide) (by decide) (hP.B.l 11 (by decide) rfl) rfl (by omega) w32 ?_
        refine mj_ialdV (pc' := 683) C dL_law_682 rfl rfl (by decide) (by decide) (hP.B.l 6 (by decide) rfl) rfl (by omega) (hP.yrs (by first | assumption | omega)) ?_
        refine mj_iadd (pc' := 684) C dL_law_683 rfl ?_
        refine mj_iast (pc' := 685) C dL_law_684 rfl rfl (by decide) (by decide) (hP.B.l 13 (by decide) rfl) rfl (by omega) ?_
        refine jgen (J := J) (P := fun μ2 => xR S μ2 ∧ pR S μ2 ∧ mI μ2 34 0 (sn S 0) = sf S 17 2 + sf S 6 w650 ∧ mI μ2 33 0 (sn S 0) = 1000 ∧ mI μ2 30 0 (sn S 0) = nI f ∧ mI μ2 32 0 (sn S 0) = nI w650 ∧ mI μ2 31 0 (sn S 0) = nI (1 + w635)) ⟨hR.o (by decide), pR_out (a := 13) hP 34 rfl (by decide) (fun _ => Nat.le_refl _), mI_sI_s _ _ _ _ _, (mI_sI_n _ _ _ _ _ (fun q => by omega)).trans w33, (mI_sI_n _ _ _ _ _ (fun q => by omega)).trans w30, (mI_sI_n _ _ _ _ _ (fun q => by omega)).trans w32, (mI_sI_n _ _ _ _ _ (fun q => by omega)).trans w31⟩ ?_
        clear hR hP
        rintro μ685 ⟨hR, hP, w34, w33, w30, w32, w31⟩
        refine mj_aload (pc' := 687) C dL_law_685 rfl rfl ?_
        refine mj_iload (pc' := 689) C dL_law_687 rfl rfl ?_
        refine mj_iload (pc' := 691) C dL_law_689 rfl rfl ?_
        refine mj_iast (pc' := 692) C dL_law_691 rfl rfl (by decide) (by decide) (hP.B.l 14 (by decide) rfl) rfl (by omega) ?_
        refine jgen (J := J) (P := fun μ2 => xR S μ2 ∧ pR S μ2 ∧ mI μ2 35 0 (sn S 0) = sf S 17 2 ∧ mI μ2 34 0 (sn S 0) = sf S 17 2 + sf S 6 w650 ∧ mI μ2 33 0 (sn S 0) = 1000 ∧ mI μ2 30 0 (sn S 0) = nI f ∧ mI μ2 32 0 (sn S 0) = nI w650 ∧ mI μ2 31 0 (sn S 0) = nI (1 + w635)) ⟨hR.o (by decide), pR_out (a := 14) hP 35 rfl (by decide) (fun _ => Nat.le_refl _), mI_sI_s _ _ _ _ _, (mI_sI_n _ _ _ _ _ (fun q => by omega)).trans w34, (mI_sI_n _ _ _ _ _ (fun q => by omega)).trans w33, (mI_sI_n _ _ _ _ _ (fun q => by omega)).trans w30, (mI_sI_n _ _ _ _ _ (fun q => by omega)).trans w32, (mI_sI_n _ _ _ _ _ (fun q => by omega)).trans w31⟩ ?_
        clear hR hP
        rintro μ692 ⟨hR, hP, w35, w34, w33, w30, w32, w31⟩
        have eo := oe_file (S := S) (sz := 1 + w635) hf hw650 ⟨by omega, by omega⟩ h12 hcan
        have hP := pR_file hP h12 w30 w31 w32 w33 w34 w35
        have hA9 := A_file hA (nI f) (nI (1 + w635)) (nI w650)
        rw [eo] at hA9
        dsimp only at hA9
        refine mj_aload_n (pc' := 693) C dL_law_692 rfl rfl ?_
        refine mj_iload (pc' := 695) C dL_law_693 rfl rfl ?_
        refine mj_aload (pc' := 697) C dL_law_695 rfl rfl ?_
        refine mj_iload (pc' := 699) C dL_law_697 rfl rfl ?_
        refine mj_ialdV (pc' := 700) C dL_law_699 rfl rfl (by decide) (by decide) (hP.B.l 10 (by decide) rfl) rfl (by omega) w31 ?_
        refine mj_aload (pc' := 702) C dL_law_700 rfl rfl ?_
        refine mj_iload (pc' := 704) C dL_law_702 rfl rfl ?_
        refine mj_ialdV (pc' := 705) C dL_law_704 rfl rfl (by decide) (by decide) (hP.B.l 11 (by decide) rfl) rfl (by omega) w32 ?_
        refine mj_callVN_3 (ci := 5) (pc' := 708) C (c_X5_file hst S (nI f) (nI (1 + w635)) (nI w650)) dL_law_705 rfl km_L_66 ki_yX5_file kz_yX5_file kn_X5 kc_yX5_file rfl (by decide) (by decide) ⟨rfl, by decide, by decide, by decide +kernel⟩ ⟨by decide, by decide⟩ (Nat.le_of_ble_eq_true rfl) ⟨by first | decide | (show _ ≤ (600104 : Nat); omega) | (show _ ≤ (7301314 : Nat); omega), by first | decide | (show _ ≤ (600104 : Nat); omega) | (show _ ≤ (7301314 : Nat); omega)⟩ ⟨rfl, hR, hW⟩ (fun r705 μ705 hq705 hm705 => ?_) (fun _ _ h9 => jno_of (eo) h9)
        obtain ⟨rfl, hR705, hF705⟩ := jret_of (eo) hq705
        dsimp only [Option.toList, List.nil_append, List.cons_append]
        have hR := hR705
        have hP := hP.kept hF705
        refine mj_iload (pc' := 710) C dL_law_708 rfl rfl ?_
        refine mj_icmp_eq (tgt := 715) (pc' := 713) C dL_law_710 (by decide) rfl (fun _ => ?_) (fun h9 => absurd rfl h9)
        refine mj_iinc_21 (pc' := 718) (w := 1) C dL_law_715 rfl rfl (by decide) rfl ?_
        refine mj_goto (pc' := 1337) C dL_law_718 (by decide) ?_
        generalize eS : (sa (su (su (su (su (su (su (su (su S 9 (sn S 0) (nI f)) 10 (sn S 0) (nI (1 + w635))) 11 (sn S 0) (nI w650)) 12 (sn S 0) 1000) 13 (sn S 0) (sf S 17 2 + sf S 6 w650)) 14 (sn S 0) (sf S 17 2)) 15 (sn S 0) 0) 16 (sn S 0) 0) 0) = S9 at hR hP hA9 eo
        have n0 : sn S9 0 = sn S 0 + 1 := by rw [← eS]; rfl
        have n1 : sn S9 1 = sn S 1 := by rw [← eS]; rfl
        have f17 : ∀ x, sf S9 17 x = sf S 17 x := fun x => by rw [← eS]; simp [sf_sa, sf_su]
        exact fin.use Sc S9 (by rw [n1]) (by rw [n0, nI_1]) (f17 2).symm (f17 0).symm (f17 1).symm hR hP hA9 (hI.to (by omega) f17) (by omega) (by omega)

set_option maxHeartbeats 2000000 in
set_option maxRecDepth 20000 in
theorem pk_577 {l : Launch} (hst : l.stackTraces = false) {J : Nat → List (Option jV) → List jV → jM → Nat → Nat → Prop} (C : jCtx l J cL_law 36 RL room_1 (some FieldType.boolean) 3 [] (fun _ _ => True) (fun _ _ => False) 0 0) (Sc : jSc J cL_law) (S : jS) (c : Nat) (v26 v27 : Int32) (wh f fl : Nat) (μ : jM) (hc : c < 40) (hwh : wh < 13) (hf : f < 10) (hfl : 0 < sn S 0 → fl < sn S 0) (hR : xR S μ) (hP : pR S μ) (hH : pH S μ) (hA : sA S) (hI : pI c S) (fin : pFin J c v27) (hcan : canR S f) (u : Int32) (hu : u = -1 ∨ (sf S 17 2 ≤ u ∧ u ≤ 1000)) : J 577 [some (aR 61 0), some (aR 0 0), some (aR 22 0), some (aR 23 0), some (aR 24 0), some (aR 25 0), some (aR 21 0), some (aR 27 0), some (aR 28 0), some (aR 29 0), some (aR 30 0), some (aR 31 0), some (aR 32 0), some (aR 33 0), some (aR 34 0), some (aR 35 0), some (aR 36 0), some (aR 37 0), some (aR 38 0), some (aR 39 0), some (aI (nI (sn S 1))), some (aI (nI (sn S 0))), some (aI (sf S 17 2)), some (aI (sf S 17 0)), some (aI (sf S 17 1)), some (aI (nI c)), some (aI v26), some (aI v27), some (aI (nI wh)), some (aI (nI f)), some (aI (nI fl)), some (aI (b1 (canR S f))), none, none, none, none] [aI u] μ (400 + 1000 * c) (5000 + 10000 * c) := by
  have hW := hA.1
  have hW1 := hW.1.2
  have hN := hI.1
  refine mj_istore_32 (pc' := 579) C dL_law_577 rfl (by decide) rfl ?_
  refine mj_aload_n (pc' := 580) C dL_law_579 rfl rfl ?_
  refine mj_iload (pc' := 582) C dL_law_580 rfl rfl ?_
  refine mj_iload (pc' := 584) C dL_law_582 rfl rfl ?_
  refine mj_callVN_2 (ci := 5) (pc' := 587) C (c_X5_setLast hst S (nI f) u) dL_law_584 rfl km_L_63 ki_yX5_setLast kz_yX5_setLast kn_X5 kc_yX5_setLast rfl (by decide) (by decide) ⟨rfl, by decide, by decide, by decide +kernel⟩ ⟨by decide, by decide⟩ (Nat.le_of_ble_eq_true rfl) ⟨by first | decide | (show _ ≤ (600104 : Nat); omega) | (show _ ≤ (7301314 : Nat); omega), by first | decide | (show _ ≤ (600104 : Nat); omega) | (show _ ≤ (7301314 : Nat); omega)⟩ ⟨rfl, hR, hW⟩ (fun r584 μ584 hq584 hm584 => ?_) (fun _ _ h9 => jno_of (oe_setLast hf hu hcan) h9)
  obtain ⟨rfl, hR584, hF584⟩ := jret_of (oe_setLast hf hu hcan) hq584
  dsimp only [Option.toList, List.nil_append, List.cons_append]
  have hR := hR584
  have hP := hP.kept hF584
  refine mj_aload (pc' := 589) C dL_law_587 rfl rfl ?_
  refine mj_iload (pc' := 591) C dL_law_589 rfl rfl ?_
  refine mj_ialdV (pc' := 592) C dL_law_591 rfl rfl (by decide) (by decide) (hP.B.l 0 (by decide) rfl) rfl (by omega) (hP.last (by first | assumption | omega)) ?_
  refine mj_icmp_eq (tgt := 597) (pc' := 595) C dL_law_592 (by decide) rfl (fun _ => ?_) (fun h9 => absurd rfl h9)
  refine mj_aload (pc' := 599) C dL_law_597 rfl rfl ?_
  refine mj_iload (pc' := 601) C dL_law_599 rfl rfl ?_
  refine mj_iload (pc' := 603) C dL_law_601 rfl rfl ?_
  refine mj_iast (pc' := 604) C dL_law_603 rfl rfl (by decide) (by decide) (hP.B.l 0 (by decide) rfl) rfl (by omega) ?_
  refine jgen (J := J) (P := fun μ2 => xR (su S 0 f u) μ2 ∧ pR (su S 0 f u) μ2) ⟨hR.o (by decide), pR_v hP 21 rfl (Or.inl rfl) (Or.inl (by decide))⟩ ?_
  clear hR hP
  rintro μ604 ⟨hR, hP⟩
  refine mj_goto (pc' := 1337) C dL_law_604 (by decide) ?_
  have hA9 := A_setLast hA (nI f) u
  rw [oe_setLast hf hu hcan] at hA9
  exact fin.use Sc (su S 0 f u) rfl rfl (s17 (by decide)).symm (s17 (by decide)).symm (s17 (by decide)).symm hR hP hA9 (pI_su hI (by decide)) (by omega) (by omega)

set_option maxHeartbeats 2000000 in
set_option maxRecDepth 20000 in
theorem pk_540 {l : Launch} (hst : l.stackTraces = false) {J : Nat → List (Option jV) → List jV → jM → Nat → Nat → Prop} (C : jCtx l J cL_law 36 RL room_1 (some FieldType.boolean) 3 [] (fun _ _ => True) (fun _ _ => False) 0 0) (Sc : jSc J cL_law) (S : jS) (c : Nat) (v26 v27 : Int32) (wh f fl : Nat) (μ : jM) (hc : c < 40) (hwh : wh < 13) (hf : f < 10) (hfl : 0 < sn S 0 → fl < sn S 0) (hR : xR S μ) (hP : pR S μ) (hH : pH S μ) (hA : sA S) (hI : pI c S) (fin : pFin J c v27) : J 540 [some (aR 61 0), some (aR 0 0), some (aR 22 0), some (aR 23 0), some (aR 24 0), some (aR 25 0), some (aR 21 0), some (aR 27 0), some (aR 28 0), some (aR 29 0), some (aR 30 0), some (aR 31 0), some (aR 32 0), some (aR 33 0), some (aR 34 0), some (aR 35 0), some (aR 36 0), some (aR 37 0), some (aR 38 0), some (aR 39 0), some (aI (nI (sn S 1))), some (aI (nI (sn S 0))), some (aI (sf S 17 2)), some (aI (sf S 17 0)), some (aI (sf S 17 1)), some (aI (nI c)), some (aI v26), some (aI v27), some (aI (nI wh)), some (aI (nI f)), some (aI (nI fl)), some (aI (b1 (canR S f))), none, none, none, none] [] μ (400 + 1000 * c) (5000 + 10000 * c) := by
  have hW := hA.1
  have hW1 := hW.1.2
  have hN := hI.1
  refine mj_iload (pc' := 542) C dL_law_540 rfl rfl ?_
  refine mj_bipush (pc' := 544) (v := 7) C dL_law_542 rfl rfl ?_
  refine mj_icmp_ge (tgt := 607) (pc' := 547) C dL_law_544 (by decide) rfl (fun h544 => ?_) (fun h544 => ?_)
  · exact pk_607 hst C Sc S c v26 v27 wh f fl μ hc hwh hf hfl hR hP hH hA hI fin
  · refine mj_iload (pc' := 549) C dL_law_547 rfl rfl ?_
    refine mj_if_eq (tgt := 607) (pc' := 552) C dL_law_549 (by decide) rfl (fun h549 => ?_) (fun h549 => ?_)
    · exact pk_607 hst C Sc S c v26 v27 wh f fl μ hc hwh hf hfl hR hP hH hA hI fin
    · have hcan := b1_n h549
      refine mj_iload (pc' := 554) C dL_law_552 rfl rfl ?_
      refine mj_iconst (pc' := 555) (v := 4) C dL_law_554 rfl rfl ?_
      refine mj_callSN_2 (pc' := 558) C (c_L_low hst v27 4 ⟨by decide, by decide⟩) dL_law_555 rfl km_L_53 ks_yL_low kn_L kc_yL_low ⟨by decide, by decide, by decide +kernel⟩ ⟨by decide, by decide⟩ (Nat.le_of_ble_eq_true rfl) ⟨by first | decide | (show _ ≤ (600104 : Nat); omega) | (show _ ≤ (7301314 : Nat); omega), by first | decide | (show _ ≤ (600104 : Nat); omega) | (show _ ≤ (7301314 : Nat); omega)⟩ rfl (fun r555 μ555 hq555 hm555 => ?_) (fun _ _ h9 => h9)
      obtain ⟨⟨w555, hw555, rfl⟩, hq9⟩ := hq555
      have hq9 := hq9.symm
      subst hq9
      dsimp only [Option.toList, List.nil_append, List.cons_append]
      refine mj_if_ne (tgt := 565) (pc' := 561) C dL_law_558 (by decide) rfl (fun h558 => ?_) (fun h558 => ?_)
      · refine mj_iload (pc' := 567) C dL_law_565 rfl rfl ?_
        refine mj_iload (pc' := 569) C dL_law_567 rfl rfl ?_
        refine mj_iconst (pc' := 570) (v := 3) C dL_law_569 rfl rfl ?_
        refine mj_ishr (pc' := 571) C dL_law_570 rfl ?_
        refine mj_bipush (pc' := 573) (v := 15) C dL_law_571 rfl rfl ?_
        refine mj_callSN_2 (pc' := 576) C (c_L_low hst (v27 >>> (3 &&& 31)) 15 ⟨by decide, by decide⟩) dL_law_573 rfl km_L_53 ks_yL_low kn_L kc_yL_low ⟨by decide, by decide, by decide +kernel⟩ ⟨by decide, by decide⟩ (Nat.le_of_ble_eq_true rfl) ⟨by first | decide | (show _ ≤ (600104 : Nat); omega) | (show _ ≤ (7301314 : Nat); omega), by first | decide | (show _ ≤ (600104 : Nat); omega) | (show _ ≤ (7301314 : Nat); omega)⟩ rfl (fun r573 μ573 hq573 hm573 => ?_) (fun _ _ h9 => h9)
        obtain ⟨⟨w573, hw573, rfl⟩, hq9⟩ := hq573
        have hq9 := hq9.symm
        subst hq9
        dsimp only [Option.toList, List.nil_append, List.cons_append]
        refine mj_iadd (pc' := 577) C dL_law_576 rfl ?_
        first | exact pk_577 hst C Sc S c v26 v27 wh f fl μ hc hwh hf hfl hR hP hH hA hI fin hcan _ (Or.inl rfl) | exact pk_577 hst C Sc S c v26 v27 wh f fl μ hc hwh hf hfl hR hP hH hA hI fin hcan _ (Or.inr (upto hI hc hw573))
      · refine mj_iconst (pc' := 562) (v := (-1)) C dL_law_561 rfl rfl ?_
        refine mj_goto (pc' := 577) C dL_law_562 (by decide) ?_
        first | exact pk_577 hst C Sc S c v26 v27 wh f fl μ hc hwh hf hfl hR hP hH hA hI fin hcan _ (Or.inl rfl) | exact pk_577 hst C Sc S c v26 v27 wh f fl μ hc hwh hf hfl hR hP hH hA hI fin hcan _ (Or.inr (upto hI hc hw573))
