/-! SMALL METHODS -/
theorem bad_no {x : Int32} {n : Nat} (h : ¬ x < 0) (h2 : x < nI n) : ¬ bad x n := by
  rintro (h3 | h3)
  · exact h h3
  · exact absurd h2 (Int32.not_lt.mpr h3)
theorem bad_hi {x : Int32} {n : Nat} (h : ¬ x < nI n) : bad x n := Or.inr (Int32.not_lt.mp h)
theorem thr_of {o : Nat × Int32 × jS} {S : jS} {μ μ' : jM} {c : Nat} {v : Int32} {S' : jS} (ho : o = (c, v, S')) (hc : c ≠ 0) (hR : xR S μ') (hF : xF μ μ') : o.1 ≠ 0 ∧ exn c = exn o.1 ∧ xR S μ' ∧ xF μ μ' := by
  subst ho
  exact ⟨hc, rfl, hR, hF⟩
theorem ret_of {o : Nat × Int32 × jS} {μ μ' : jM} {v : Int32} {S' : jS} (ho : o = (0, v, S')) (hR : xR S' μ') (hF : xF μ μ') : o.1 = 0 ∧ (some (aI v) : Option jV) = some (aI o.2.1) ∧ xR o.2.2 μ' ∧ xF μ μ' := by
  subst ho
  exact ⟨rfl, rfl, hR, hF⟩
theorem retv_of {o : Nat × Int32 × jS} {μ μ' : jM} {v : Int32} {S' : jS} (ho : o = (0, v, S')) (hR : xR S' μ') (hF : xF μ μ') : o.1 = 0 ∧ xR o.2.2 μ' ∧ xF μ μ' := by
  subst ho
  exact ⟨rfl, hR, hF⟩

set_option maxRecDepth 20000 in
theorem c_X5_requireFormat {l : Launch} (hst : l.stackTraces = false) (f : Int32) : jMet l yX5_requireFormat cX5_requireFormat 1 none 6 100 1 6 (fun avs μ => avs = [aI f]) (fun avs μ r μ' => ¬ bad f 10 ∧ r = none ∧ μ' = μ) (fun avs μ E μ' => bad f 10 ∧ E = exn 1 ∧ μ' = μ) := by
  refine jMet_of hst (by decide) ?_
  intro avs μ J C hav hpre
  subst hpre
  refine ⟨Nat.le_of_ble_eq_true rfl, ?_⟩
  show J 0 [some (aI f)] [] μ 0 0
  refine mj_iload_n (pc' := 1) C dX5_requireFormat_0 rfl rfl ?_
  refine mj_if_lt (tgt := 10) (pc' := 4) C dX5_requireFormat_1 (by decide) rfl (fun h1 => ?_) (fun h1 => ?_)
  · refine mj_throw C (text := "there is no such format") (names := ["java/lang/RuntimeException", "java/lang/Exception"]) dX5_requireFormat_10 dX5_requireFormat_13 dX5_requireFormat_14 dX5_requireFormat_16 dX5_requireFormat_19 rfl rfl kl_X5_78 kn_IOOBE thrw_1 thrk_1 (by decide) (by decide) (by decide) (by decide) (by decide) (by decide) (by decide) ?_
    first | exact ⟨Or.inl h1, rfl, rfl⟩ | exact ⟨bad_hi h7, rfl, rfl⟩
  · refine mj_iload_n (pc' := 5) C dX5_requireFormat_4 rfl rfl ?_
    refine mj_bipush (pc' := 7) (v := 10) C dX5_requireFormat_5 rfl rfl ?_
    refine mj_icmp_lt (tgt := 20) (pc' := 10) C dX5_requireFormat_7 (by decide) rfl (fun h7 => ?_) (fun h7 => ?_)
    · refine mj_vret C dX5_requireFormat_20 (by decide) (by decide) (by decide) ?_
      exact ⟨bad_no h1 h7, rfl, rfl⟩
    · refine mj_throw C (text := "there is no such format") (names := ["java/lang/RuntimeException", "java/lang/Exception"]) dX5_requireFormat_10 dX5_requireFormat_13 dX5_requireFormat_14 dX5_requireFormat_16 dX5_requireFormat_19 rfl rfl kl_X5_78 kn_IOOBE thrw_1 thrk_1 (by decide) (by decide) (by decide) (by decide) (by decide) (by decide) (by decide) ?_
      first | exact ⟨Or.inl h1, rfl, rfl⟩ | exact ⟨bad_hi h7, rfl, rfl⟩

set_option maxRecDepth 20000 in
theorem c_X5_requireRange {l : Launch} (hst : l.stackTraces = false) (v a b : Int32) : jMet l yX5_requireRange cX5_requireRange 3 none 6 100 1 6 (fun avs μ => avs = [aI v, aI a, aI b]) (fun avs μ r μ' => (a ≤ v ∧ v ≤ b) ∧ r = none ∧ μ' = μ) (fun avs μ E μ' => (v < a ∨ b < v) ∧ E = exn 2 ∧ μ' = μ) := by
  refine jMet_of hst (by decide) ?_
  intro avs μ J C hav hpre
  subst hpre
  refine ⟨Nat.le_of_ble_eq_true rfl, ?_⟩
  show J 0 [some (aI v), some (aI a), some (aI b)] [] μ 0 0
  refine mj_iload_n (pc' := 1) C dX5_requireRange_0 rfl rfl ?_
  refine mj_iload_n (pc' := 2) C dX5_requireRange_1 rfl rfl ?_
  refine mj_icmp_lt (tgt := 10) (pc' := 5) C dX5_requireRange_2 (by decide) rfl (fun h2 => ?_) (fun h2 => ?_)
  · refine mj_throw C (text := "an argument is out of its range") (names := ["java/lang/RuntimeException", "java/lang/Exception"]) dX5_requireRange_10 dX5_requireRange_13 dX5_requireRange_14 dX5_requireRange_16 dX5_requireRange_19 rfl rfl kl_X5_54 kn_IAE thrw_2 thrk_2 (by decide) (by decide) (by decide) (by decide) (by decide) (by decide) (by decide) ?_
    first | exact ⟨Or.inl h2, rfl, rfl⟩ | exact ⟨Or.inr (Int32.not_le.mp h7), rfl, rfl⟩
  · refine mj_iload_n (pc' := 6) C dX5_requireRange_5 rfl rfl ?_
    refine mj_iload_n (pc' := 7) C dX5_requireRange_6 rfl rfl ?_
    refine mj_icmp_le (tgt := 20) (pc' := 10) C dX5_requireRange_7 (by decide) rfl (fun h7 => ?_) (fun h7 => ?_)
    · refine mj_vret C dX5_requireRange_20 (by decide) (by decide) (by decide) ?_
      exact ⟨⟨Int32.not_lt.mp h2, h7⟩, rfl, rfl⟩
    · refine mj_throw C (text := "an argument is out of its range") (names := ["java/lang/RuntimeException", "java/lang/Exception"]) dX5_requireRange_10 dX5_requireRange_13 dX5_requireRange_14 dX5_requireRange_16 dX5_requireRange_19 rfl rfl kl_X5_54 kn_IAE thrw_2 thrk_2 (by decide) (by decide) (by decide) (by decide) (by decide) (by decide) (by decide) ?_
      first | exact ⟨Or.inl h2, rfl, rfl⟩ | exact ⟨Or.inr (Int32.not_le.mp h7), rfl, rfl⟩

set_option maxRecDepth 20000 in
theorem c_J9_max_7cf53 {l : Launch} (hst : l.stackTraces = false) (a b : Int32) : jMet l yJ9_max_7cf53 cJ9_max_7cf53 2 (some FieldType.int) 6 100 0 0 (fun avs μ => avs = [aI a, aI b]) (fun avs μ r μ' => r = some (aI (imax a b)) ∧ μ' = μ) (fun avs μ E μ' => False) := by
  refine jMet_ofF hst pf_max ?_
  intro avs μ J C hav hpre
  subst hpre
  refine ⟨Nat.le_of_ble_eq_true rfl, ?_⟩
  show J 0 [some (aI a), some (aI b)] [] μ 0 0
  refine mj_iload_n (pc' := 1) C dJ9_max_7cf53_0 rfl rfl ?_
  refine mj_iload_n (pc' := 2) C dJ9_max_7cf53_1 rfl rfl ?_
  refine mj_icmp_lt (tgt := 9) (pc' := 5) C dJ9_max_7cf53_2 (by decide) rfl (fun h2 => ?_) (fun h2 => ?_)
  · refine mj_iload_n (pc' := 10) C dJ9_max_7cf53_9 rfl rfl ?_
    refine mj_iret C dJ9_max_7cf53_10 (by decide) (by decide) (by decide) ?_
    exact ⟨by unfold imax; first | rw [if_pos h2] | rw [if_neg h2], rfl⟩
  · refine mj_iload_n (pc' := 6) C dJ9_max_7cf53_5 rfl rfl ?_
    refine mj_goto (pc' := 10) C dJ9_max_7cf53_6 (by decide) ?_
    refine mj_iret C dJ9_max_7cf53_10 (by decide) (by decide) (by decide) ?_
    exact ⟨by unfold imax; first | rw [if_pos h2] | rw [if_neg h2], rfl⟩

set_option maxRecDepth 20000 in
theorem c_X5_requireKept {l : Launch} (hst : l.stackTraces = false) (S : jS) (i : Nat) : jMet l yX5_requireKept cX5_requireKept 1 none 6 100 1 6 (fun avs μ => avs = [aR 12 i] ∧ xR S μ ∧ i < sn S 0) (fun avs μ r μ' => sf S 15 i = 0 ∧ r = none ∧ μ' = μ) (fun avs μ E μ' => sf S 15 i ≠ 0 ∧ E = exn 3 ∧ μ' = μ) := by
  refine jMet_of hst (by decide) ?_
  intro avs μ J C hav hpre
  obtain ⟨rfl, hR, hi⟩ := hpre
  refine ⟨Nat.le_of_ble_eq_true rfl, ?_⟩
  show J 0 [some (aR 12 i)] [] μ 0 0
  refine mj_aload_n (pc' := 1) C dX5_requireKept_0 rfl rfl ?_
  refine mj_getV (pc' := 4) C dX5_requireKept_1 rfl (ci := 4) (f := 6) rfl (by decide) (by decide) (fun _ => rfl) (by decide) kf_X5_203 (hR.l12 (by first | assumption | omega)) (hR.fst (by first | assumption | omega)) ?_
  refine mj_if_eq (tgt := 17) (pc' := 7) C dX5_requireKept_4 (by decide) rfl (fun h4 => ?_) (fun h4 => ?_)
  · refine mj_vret C dX5_requireKept_17 (by decide) (by decide) (by decide) ?_
    exact ⟨h4, rfl, rfl⟩
  · refine mj_throw C (text := "the file is not kept") (names := ["java/lang/RuntimeException", "java/lang/Exception"]) dX5_requireKept_7 dX5_requireKept_10 dX5_requireKept_11 dX5_requireKept_13 dX5_requireKept_16 rfl rfl kl_X5_64 kn_ISE thrw_3 thrk_3 (by decide) (by decide) (by decide) (by decide) (by decide) (by decide) (by decide) ?_
    exact ⟨h4, rfl, rfl⟩

set_option maxRecDepth 20000 in
theorem c_X5_isReadable {l : Launch} (hst : l.stackTraces = false) (S : jS) (j : Nat) : jMet l yX5_isReadable cX5_isReadable 2 (some FieldType.boolean) 6 100 0 0 (fun avs μ => avs = [aR 0 0, aI (nI j)] ∧ xR S μ ∧ j < 10) (fun avs μ r μ' => r = some (aI (b1 (canR S j))) ∧ μ' = μ) (fun avs μ E μ' => False) := by
  refine jMet_of hst (by decide) ?_
  intro avs μ J C hav hpre
  obtain ⟨rfl, hR, hj⟩ := hpre
  refine ⟨Nat.le_of_ble_eq_true rfl, ?_⟩
  show J 0 [some (aR 0 0), some (aI (nI j))] [] μ 0 0
  refine mj_aload_n (pc' := 1) C dX5_isReadable_0 rfl rfl ?_
  refine mj_getR (pc' := 4) C dX5_isReadable_1 rfl (ci := 5) (f := 0) rfl (by decide) (by decide) (fun _ => rfl) (by decide) kf_X5_9 hR.B.l0 hR.B.p00 ?_
  refine mj_iload_n (pc' := 5) C dX5_isReadable_4 rfl rfl ?_
  refine mj_ialdV (pc' := 6) C dX5_isReadable_5 rfl rfl (by decide) (by decide) hR.B.l1 rfl (by first | assumption | omega) (hR.last (by first | assumption | omega)) ?_
  refine mj_iconst (pc' := 7) (v := (-1)) C dX5_isReadable_6 rfl rfl ?_
  refine mj_icmp_eq (tgt := 23) (pc' := 10) C dX5_isReadable_7 (by decide) rfl (fun h7 => ?_) (fun h7 => ?_)
  · refine mj_iconst (pc' := 24) (v := 1) C dX5_isReadable_23 rfl rfl ?_
    refine mj_goto (pc' := 28) C dX5_isReadable_24 (by decide) ?_
    refine mj_zret C (by first | exact b1_and | rfl) dX5_isReadable_28 (by decide) (by decide) (by decide) ?_
    first | exact ⟨b1r_t (Or.inl h7), rfl⟩ | exact ⟨b1r_t (Or.inr (Int32.not_lt.mp h20)), rfl⟩ | exact ⟨b1r_f (fun h => h.elim h7 (fun h => absurd h20 (Int32.not_lt.mpr h))), rfl⟩
  · refine mj_aload_n (pc' := 11) C dX5_isReadable_10 rfl rfl ?_
    refine mj_getR (pc' := 14) C dX5_isReadable_11 rfl (ci := 5) (f := 0) rfl (by decide) (by decide) (fun _ => rfl) (by decide) kf_X5_9 hR.B.l0 hR.B.p00 ?_
    refine mj_iload_n (pc' := 15) C dX5_isReadable_14 rfl rfl ?_
    refine mj_ialdV (pc' := 16) C dX5_isReadable_15 rfl rfl (by decide) (by decide) hR.B.l1 rfl (by first | assumption | omega) (hR.last (by first | assumption | omega)) ?_
    refine mj_aload_n (pc' := 17) C dX5_isReadable_16 rfl rfl ?_
    refine mj_getV (pc' := 20) C dX5_isReadable_17 rfl (ci := 5) (f := 5) rfl (by decide) (by decide) (fun _ => rfl) (by decide) kf_X5_44 hR.B.l0 hR.now ?_
    refine mj_icmp_lt (tgt := 27) (pc' := 23) C dX5_isReadable_20 (by decide) rfl (fun h20 => ?_) (fun h20 => ?_)
    · refine mj_iconst (pc' := 28) (v := 0) C dX5_isReadable_27 rfl rfl ?_
      refine mj_zret C (by first | exact b1_and | rfl) dX5_isReadable_28 (by decide) (by decide) (by decide) ?_
      first | exact ⟨b1r_t (Or.inl h7), rfl⟩ | exact ⟨b1r_t (Or.inr (Int32.not_lt.mp h20)), rfl⟩ | exact ⟨b1r_f (fun h => h.elim h7 (fun h => absurd h20 (Int32.not_lt.mpr h))), rfl⟩
    · refine mj_iconst (pc' := 24) (v := 1) C dX5_isReadable_23 rfl rfl ?_
      refine mj_goto (pc' := 28) C dX5_isReadable_24 (by decide) ?_
      refine mj_zret C (by first | exact b1_and | rfl) dX5_isReadable_28 (by decide) (by decide) (by decide) ?_
      first | exact ⟨b1r_t (Or.inl h7), rfl⟩ | exact ⟨b1r_t (Or.inr (Int32.not_lt.mp h20)), rfl⟩ | exact ⟨b1r_f (fun h => h.elim h7 (fun h => absurd h20 (Int32.not_lt.mpr h))), rfl⟩

set_option maxRecDepth 20000 in
theorem c_X5_requireReadable {l : Launch} (hst : l.stackTraces = false) (S : jS) (j : Nat) : jMet l yX5_requireReadable cX5_requireReadable 2 none 7 140 1 6 (fun avs μ => avs = [aR 0 0, aI (nI j)] ∧ xR S μ ∧ j < 10) (fun avs μ r μ' => canR S j ∧ r = none ∧ μ' = μ) (fun avs μ E μ' => ¬ canR S j ∧ E = exn 3 ∧ μ' = μ) := by
  refine jMet_of hst (by decide) ?_
  intro avs μ J C hav hpre
  obtain ⟨rfl, hR, hj⟩ := hpre
  refine ⟨Nat.le_of_ble_eq_true rfl, ?_⟩
  show J 0 [some (aR 0 0), some (aI (nI j))] [] μ 0 0
  refine mj_aload_n (pc' := 1) C dX5_requireReadable_0 rfl rfl ?_
  refine mj_iload_n (pc' := 2) C dX5_requireReadable_1 rfl rfl ?_
  refine mj_callVN_1 (ci := 5) (pc' := 5) C (c_X5_isReadable hst S j) dX5_requireReadable_2 rfl km_X5_219 ki_yX5_isReadable kz_yX5_isReadable kn_X5 kc_yX5_isReadable rfl (by decide) (by decide) ⟨rfl, by decide, by decide, by decide +kernel⟩ ⟨by decide, by decide⟩ (by decide) ⟨by decide, by decide⟩ ⟨rfl, hR, hj⟩ (fun r2 μ2 hq2 hm2 => ?_) (fun _ _ h9 => h9)
  obtain ⟨rfl, rfl⟩ := hq2
  dsimp only [Option.toList, List.nil_append, List.cons_append]
  refine mj_if_ne (tgt := 18) (pc' := 8) C dX5_requireReadable_5 (by decide) rfl (fun h5 => ?_) (fun h5 => ?_)
  · refine mj_vret C dX5_requireReadable_18 (by decide) (by decide) (by decide) ?_
    exact ⟨b1_n h5, rfl, rfl⟩
  · refine mj_throw C (text := "the format cannot be read any more") (names := ["java/lang/RuntimeException", "java/lang/Exception"]) dX5_requireReadable_8 dX5_requireReadable_11 dX5_requireReadable_12 dX5_requireReadable_14 dX5_requireReadable_17 rfl rfl kl_X5_64 kn_ISE thrw_3 thrk_3 (by decide) (by decide) (by decide) (by decide) (by decide) (by decide) (by decide) ?_
    exact ⟨b1_0.mp (h5), rfl, rfl⟩

set_option maxRecDepth 20000 in
theorem c_X5_lawAt {l : Launch} (hst : l.stackTraces = false) (S : jS) (x : Int32) : jMet l yX5_lawAt cX5_lawAt 2 (some (FieldType.object "FormatVault$Law")) 6 100 1 6 (fun avs μ => avs = [aR 0 0, aI x] ∧ xR S μ) (fun avs μ r μ' => ¬ bad x 5 ∧ r = some (aR 10 (ix x)) ∧ μ' = μ) (fun avs μ E μ' => bad x 5 ∧ E = exn 1 ∧ μ' = μ) := by
  refine jMet_of hst (by decide) ?_
  intro avs μ J C hav hpre
  obtain ⟨rfl, hR⟩ := hpre
  refine ⟨Nat.le_of_ble_eq_true rfl, ?_⟩
  show J 0 [some (aR 0 0), some (aI x)] [] μ 0 0
  refine mj_iload_n (pc' := 1) C dX5_lawAt_0 rfl rfl ?_
  refine mj_if_lt (tgt := 9) (pc' := 4) C dX5_lawAt_1 (by decide) rfl (fun h1 => ?_) (fun h1 => ?_)
  · refine mj_throw C (text := "there is no such law") (names := ["java/lang/RuntimeException", "java/lang/Exception"]) dX5_lawAt_9 dX5_lawAt_12 dX5_lawAt_13 dX5_lawAt_15 dX5_lawAt_18 rfl rfl kl_X5_78 kn_IOOBE thrw_1 thrk_1 (by decide) (by decide) (by decide) (by decide) (by decide) (by decide) (by decide) ?_
    first | exact ⟨Or.inl h1, rfl, rfl⟩ | exact ⟨bad_hi (n := 5) h6, rfl, rfl⟩
  · refine mj_iload_n (pc' := 5) C dX5_lawAt_4 rfl rfl ?_
    refine mj_iconst (pc' := 6) (v := 5) C dX5_lawAt_5 rfl rfl ?_
    refine mj_icmp_lt (tgt := 19) (pc' := 9) C dX5_lawAt_6 (by decide) rfl (fun h6 => ?_) (fun h6 => ?_)
    · obtain ⟨j, hj, rfl, ej⟩ := bad_of (bad_no (n := 5) h1 h6) (by decide)
      refine mj_aload_n (pc' := 20) C dX5_lawAt_19 rfl rfl ?_
      refine mj_getR (pc' := 23) C dX5_lawAt_20 rfl (ci := 5) (f := 1) rfl (by decide) (by decide) (fun _ => rfl) (by decide) kf_X5_15 hR.B.l0 hR.B.p01 ?_
      refine mj_iload_n (pc' := 24) C dX5_lawAt_23 rfl rfl ?_
      refine mj_aald (pc' := 25) C dX5_lawAt_24 rfl rfl (by decide) rfl (fun _ _ => rfl) (by decide) (by decide) hR.B.l2 rfl (by first | assumption | omega) (hR.B.p2 (by first | assumption | omega)) ?_
      refine mj_aret C dX5_lawAt_25 (by decide) (by decide) (by decide) ?_
      exact ⟨bad_nI hj (by decide), by rw [ej], rfl⟩
    · refine mj_throw C (text := "there is no such law") (names := ["java/lang/RuntimeException", "java/lang/Exception"]) dX5_lawAt_9 dX5_lawAt_12 dX5_lawAt_13 dX5_lawAt_15 dX5_lawAt_18 rfl rfl kl_X5_78 kn_IOOBE thrw_1 thrk_1 (by decide) (by decide) (by decide) (by decide) (by decide) (by decide) (by decide) ?_
      first | exact ⟨Or.inl h1, rfl, rfl⟩ | exact ⟨bad_hi (n := 5) h6, rfl, rfl⟩

set_option maxRecDepth 20000 in
theorem c_X5_fileAt {l : Launch} (hst : l.stackTraces = false) (S : jS) (x : Int32) : jMet l yX5_fileAt cX5_fileAt 2 (some (FieldType.object "FormatVault$StoredFile")) 6 100 1 6 (fun avs μ => avs = [aR 0 0, aI x] ∧ xR S μ ∧ sW S) (fun avs μ r μ' => ¬ bad x (sn S 0) ∧ r = some (aR 12 (ix x)) ∧ μ' = μ) (fun avs μ E μ' => bad x (sn S 0) ∧ E = exn 1 ∧ μ' = μ) := by
  refine jMet_of hst (by decide) ?_
  intro avs μ J C hav hpre
  obtain ⟨rfl, hR, hW⟩ := hpre
  refine ⟨Nat.le_of_ble_eq_true rfl, ?_⟩
  show J 0 [some (aR 0 0), some (aI x)] [] μ 0 0
  refine mj_iload_n (pc' := 1) C dX5_fileAt_0 rfl rfl ?_
  refine mj_if_lt (tgt := 12) (pc' := 4) C dX5_fileAt_1 (by decide) rfl (fun h1 => ?_) (fun h1 => ?_)
  · refine mj_throw C (text := "there is no such file") (names := ["java/lang/RuntimeException", "java/lang/Exception"]) dX5_fileAt_12 dX5_fileAt_15 dX5_fileAt_16 dX5_fileAt_18 dX5_fileAt_21 rfl rfl kl_X5_78 kn_IOOBE thrw_1 thrk_1 (by decide) (by decide) (by decide) (by decide) (by decide) (by decide) (by decide) ?_
    first | exact ⟨Or.inl h1, rfl, rfl⟩ | exact ⟨bad_hi (n := sn S 0) h9, rfl, rfl⟩
  · refine mj_iload_n (pc' := 5) C dX5_fileAt_4 rfl rfl ?_
    refine mj_aload_n (pc' := 6) C dX5_fileAt_5 rfl rfl ?_
    refine mj_getV (pc' := 9) C dX5_fileAt_6 rfl (ci := 5) (f := 4) rfl (by decide) (by decide) (fun _ => rfl) (by decide) kf_X5_146 hR.B.l0 hR.fc ?_
    refine mj_icmp_lt (tgt := 22) (pc' := 12) C dX5_fileAt_9 (by decide) rfl (fun h9 => ?_) (fun h9 => ?_)
    · obtain ⟨j, hj, rfl, ej⟩ := bad_of (bad_no (n := sn S 0) h1 h9) (by have := hW.1.1; omega)
      have hW9 := hW.1.1
      refine mj_aload_n (pc' := 23) C dX5_fileAt_22 rfl rfl ?_
      refine mj_getR (pc' := 26) C dX5_fileAt_23 rfl (ci := 5) (f := 2) rfl (by decide) (by decide) (fun _ => rfl) (by decide) kf_X5_21 hR.B.l0 hR.B.p02 ?_
      refine mj_iload_n (pc' := 27) C dX5_fileAt_26 rfl rfl ?_
      refine mj_aald (pc' := 28) C dX5_fileAt_27 rfl rfl (by decide) rfl (fun _ _ => rfl) (by decide) (by decide) hR.B.l3 rfl (by first | assumption | omega) (hR.B.p3 (by rw [hR.n12]; first | assumption | omega)) ?_
      refine mj_aret C dX5_fileAt_28 (by decide) (by decide) (by decide) ?_
      exact ⟨bad_nI hj (by omega), by rw [ej], rfl⟩
    · refine mj_throw C (text := "there is no such file") (names := ["java/lang/RuntimeException", "java/lang/Exception"]) dX5_fileAt_12 dX5_fileAt_15 dX5_fileAt_16 dX5_fileAt_18 dX5_fileAt_21 rfl rfl kl_X5_78 kn_IOOBE thrw_1 thrk_1 (by decide) (by decide) (by decide) (by decide) (by decide) (by decide) (by decide) ?_
      first | exact ⟨Or.inl h1, rfl, rfl⟩ | exact ⟨bad_hi (n := sn S 0) h9, rfl, rfl⟩

set_option maxRecDepth 20000 in
theorem c_X5_isSafeIn {l : Launch} (hst : l.stackTraces = false) (S : jS) (i j : Nat) : jMet l yX5_isSafeIn cX5_isSafeIn 4 (some FieldType.boolean) 6 100 0 0 (fun avs μ => avs = [aR 0 0, aR 12 i, aI (nI j)] ∧ xR S μ ∧ sW S ∧ i < sn S 0 ∧ j < 10) (fun avs μ r μ' => r = some (aI (b1 (safe S i j))) ∧ μ' = μ) (fun avs μ E μ' => False) := by
  refine jMet_of hst (by decide) ?_
  intro avs μ J C hav hpre
  obtain ⟨rfl, hR, hW, hi, hj⟩ := hpre
  refine ⟨Nat.le_of_ble_eq_true rfl, ?_⟩
  show J 0 [some (aR 0 0), some (aR 12 i), some (aI (nI j)), none] [] μ 0 0
  refine mj_aload_n (pc' := 1) C dX5_isSafeIn_0 rfl rfl ?_
  refine mj_getR (pc' := 4) C dX5_isSafeIn_1 rfl (ci := 5) (f := 0) rfl (by decide) (by decide) (fun _ => rfl) (by decide) kf_X5_9 hR.B.l0 hR.B.p00 ?_
  refine mj_iload_n (pc' := 5) C dX5_isSafeIn_4 rfl rfl ?_
  refine mj_ialdV (pc' := 6) C dX5_isSafeIn_5 rfl rfl (by decide) (by decide) hR.B.l1 rfl (by first | assumption | omega) (hR.last (by first | assumption | omega)) ?_
  refine mj_istore_n_3 (pc' := 7) C dX5_isSafeIn_6 rfl (by decide) rfl ?_
  refine mj_iload_n (pc' := 8) C dX5_isSafeIn_7 rfl rfl ?_
  refine mj_iconst (pc' := 9) (v := (-1)) C dX5_isSafeIn_8 rfl rfl ?_
  refine mj_icmp_eq (tgt := 27) (pc' := 12) C dX5_isSafeIn_9 (by decide) rfl (fun h9 => ?_) (fun h9 => ?_)
  · refine mj_iconst (pc' := 28) (v := 1) C dX5_isSafeIn_27 rfl rfl ?_
    refine mj_goto (pc' := 32) C dX5_isSafeIn_28 (by decide) ?_
    refine mj_zret C (by first | exact b1_and | rfl) dX5_isSafeIn_32 (by decide) (by decide) (by decide) ?_
    first | exact ⟨b1r_t (Or.inl h9), rfl⟩ | exact ⟨b1r_t (Or.inr ⟨h16, Int32.not_lt.mp h24⟩), rfl⟩ | exact ⟨b1r_f (fun h => h.elim h9 (fun h => h16 h.1)), rfl⟩ | exact ⟨b1r_f (fun h => h.elim h9 (fun h => absurd h24 (Int32.not_lt.mpr h.2))), rfl⟩
  · refine mj_aload_n (pc' := 13) C dX5_isSafeIn_12 rfl rfl ?_
    refine mj_getV (pc' := 16) C dX5_isSafeIn_13 rfl (ci := 4) (f := 7) rfl (by decide) (by decide) (fun _ => rfl) (by decide) kf_X5_162 (hR.l12 (by first | assumption | omega)) (hR.fhl (by first | assumption | omega)) ?_
    refine mj_if_ne (tgt := 31) (pc' := 19) C dX5_isSafeIn_16 (by decide) rfl (fun h16 => ?_) (fun h16 => ?_)
    · refine mj_iconst (pc' := 32) (v := 0) C dX5_isSafeIn_31 rfl rfl ?_
      refine mj_zret C (by first | exact b1_and | rfl) dX5_isSafeIn_32 (by decide) (by decide) (by decide) ?_
      first | exact ⟨b1r_t (Or.inl h9), rfl⟩ | exact ⟨b1r_t (Or.inr ⟨h16, Int32.not_lt.mp h24⟩), rfl⟩ | exact ⟨b1r_f (fun h => h.elim h9 (fun h => h16 h.1)), rfl⟩ | exact ⟨b1r_f (fun h => h.elim h9 (fun h => absurd h24 (Int32.not_lt.mpr h.2))), rfl⟩
    · refine mj_iload_n (pc' := 20) C dX5_isSafeIn_19 rfl rfl ?_
      refine mj_aload_n (pc' := 21) C dX5_isSafeIn_20 rfl rfl ?_
      refine mj_getV (pc' := 24) C dX5_isSafeIn_21 rfl (ci := 4) (f := 2) rfl (by decide) (by decide) (fun _ => rfl) (by decide) kf_X5_210 (hR.l12 (by first | assumption | omega)) (hR.fen (by first | assumption | omega)) ?_
      refine mj_icmp_lt (tgt := 31) (pc' := 27) C dX5_isSafeIn_24 (by decide) rfl (fun h24 => ?_) (fun h24 => ?_)
      · refine mj_iconst (pc' := 32) (v := 0) C dX5_isSafeIn_31 rfl rfl ?_
        refine mj_zret C (by first | exact b1_and | rfl) dX5_isSafeIn_32 (by decide) (by decide) (by decide) ?_
        first | exact ⟨b1r_t (Or.inl h9), rfl⟩ | exact ⟨b1r_t (Or.inr ⟨h16, Int32.not_lt.mp h24⟩), rfl⟩ | exact ⟨b1r_f (fun h => h.elim h9 (fun h => h16 h.1)), rfl⟩ | exact ⟨b1r_f (fun h => h.elim h9 (fun h => absurd h24 (Int32.not_lt.mpr h.2))), rfl⟩
      · refine mj_iconst (pc' := 28) (v := 1) C dX5_isSafeIn_27 rfl rfl ?_
        refine mj_goto (pc' := 32) C dX5_isSafeIn_28 (by decide) ?_
        refine mj_zret C (by first | exact b1_and | rfl) dX5_isSafeIn_32 (by decide) (by decide) (by decide) ?_
        first | exact ⟨b1r_t (Or.inl h9), rfl⟩ | exact ⟨b1r_t (Or.inr ⟨h16, Int32.not_lt.mp h24⟩), rfl⟩ | exact ⟨b1r_f (fun h => h.elim h9 (fun h => h16 h.1)), rfl⟩ | exact ⟨b1r_f (fun h => h.elim h9 (fun h => absurd h24 (Int32.not_lt.mpr h.2))), rfl⟩

set_option maxRecDepth 20000 in
theorem c_X5_stateInNewYear {l : Launch} (hst : l.stackTraces = false) (S : jS) (i : Nat) : jMet l yX5_stateInNewYear cX5_stateInNewYear 2 (some FieldType.int) 7 140 0 0 (fun avs μ => avs = [aR 0 0, aR 12 i] ∧ xR S μ ∧ sW S ∧ i < sn S 0 ∧ sf S 15 i = 0) (fun avs μ r μ' => r = some (aI (ny S i)) ∧ μ' = μ) (fun avs μ E μ' => False) := by
  refine jMet_of hst (by decide) ?_
  intro avs μ J C hav hpre
  obtain ⟨rfl, hR, hW, hi, hs⟩ := hpre
  refine ⟨Nat.le_of_ble_eq_true rfl, ?_⟩
  show J 0 [some (aR 0 0), some (aR 12 i)] [] μ 0 0
  refine mj_aload_n (pc' := 1) C dX5_stateInNewYear_0 rfl rfl ?_
  refine mj_getV (pc' := 4) C dX5_stateInNewYear_1 rfl (ci := 5) (f := 5) rfl (by decide) (by decide) (fun _ => rfl) (by decide) kf_X5_44 hR.B.l0 hR.now ?_
  refine mj_aload_n (pc' := 5) C dX5_stateInNewYear_4 rfl rfl ?_
  refine mj_getV (pc' := 8) C dX5_stateInNewYear_5 rfl (ci := 4) (f := 2) rfl (by decide) (by decide) (fun _ => rfl) (by decide) kf_X5_210 (hR.l12 (by first | assumption | omega)) (hR.fen (by first | assumption | omega)) ?_
  refine mj_icmp_le (tgt := 20) (pc' := 11) C dX5_stateInNewYear_8 (by decide) rfl (fun h8 => ?_) (fun h8 => ?_)
  · have hn : ¬ (sf S 13 i < sf S 17 2 ∧ sf S 16 i = 0) := fun h => absurd h8 (Int32.not_le.mpr h.1)
    obtain ⟨u, hu, eu⟩ := (hW.2.2.1 i hi).1
    have efF : fF S i = u := by unfold fF; rw [eu]; exact ix_nI (by omega)
    refine mj_aload_n (pc' := 21) C dX5_stateInNewYear_20 rfl rfl ?_
    refine mj_aload_n (pc' := 22) C dX5_stateInNewYear_21 rfl rfl ?_
    refine mj_getV (pc' := 25) C dX5_stateInNewYear_22 rfl (ci := 4) (f := 3) rfl (by decide) (by decide) (fun _ => rfl) (by decide) kf_X5_165 (hR.l12 (by first | assumption | omega)) (hR.ffm (by first | assumption | omega)) ?_
    rw [eu]
    refine mj_callVN_1 (ci := 5) (pc' := 28) C (c_X5_isReadable hst S u) dX5_stateInNewYear_25 rfl km_X5_219 ki_yX5_isReadable kz_yX5_isReadable kn_X5 kc_yX5_isReadable rfl (by decide) (by decide) ⟨rfl, by decide, by decide, by decide +kernel⟩ ⟨by decide, by decide⟩ (by decide) ⟨by decide, by decide⟩ ⟨rfl, hR, hu⟩ (fun r25 μ25 hq25 hm25 => ?_) (fun _ _ h9 => h9)
    obtain ⟨rfl, rfl⟩ := hq25
    dsimp only [Option.toList, List.nil_append, List.cons_append]
    refine mj_if_eq (tgt := 35) (pc' := 31) C dX5_stateInNewYear_28 (by decide) rfl (fun h28 => ?_) (fun h28 => ?_)
    · have hc : (if canR S u then (0 : Int32) else 2) = 2 := if_neg (b1_0.mp h28)
      refine mj_iconst (pc' := 36) (v := 2) C dX5_stateInNewYear_35 rfl rfl ?_
      refine mj_iret C dX5_stateInNewYear_36 (by decide) (by decide) (by decide) ?_
      exact ⟨by unfold ny; rw [if_pos hs, if_neg hn, efF, hc], rfl⟩
    · have hc : (if canR S u then (0 : Int32) else 2) = 0 := if_pos (b1_n h28)
      refine mj_iconst (pc' := 32) (v := 0) C dX5_stateInNewYear_31 rfl rfl ?_
      refine mj_goto (pc' := 36) C dX5_stateInNewYear_32 (by decide) ?_
      refine mj_iret C dX5_stateInNewYear_36 (by decide) (by decide) (by decide) ?_
      exact ⟨by unfold ny; rw [if_pos hs, if_neg hn, efF, hc], rfl⟩
  · refine mj_aload_n (pc' := 12) C dX5_stateInNewYear_11 rfl rfl ?_
    refine mj_getV (pc' := 15) C dX5_stateInNewYear_12 rfl (ci := 4) (f := 7) rfl (by decide) (by decide) (fun _ => rfl) (by decide) kf_X5_162 (hR.l12 (by first | assumption | omega)) (hR.fhl (by first | assumption | omega)) ?_
    refine mj_if_ne (tgt := 20) (pc' := 18) C dX5_stateInNewYear_15 (by decide) rfl (fun h15 => ?_) (fun h15 => ?_)
    · have hn : ¬ (sf S 13 i < sf S 17 2 ∧ sf S 16 i = 0) := fun h => h15 h.2
      obtain ⟨u, hu, eu⟩ := (hW.2.2.1 i hi).1
      have efF : fF S i = u := by unfold fF; rw [eu]; exact ix_nI (by omega)
      refine mj_aload_n (pc' := 21) C dX5_stateInNewYear_20 rfl rfl ?_
      refine mj_aload_n (pc' := 22) C dX5_stateInNewYear_21 rfl rfl ?_
      refine mj_getV (pc' := 25) C dX5_stateInNewYear_22 rfl (ci := 4) (f := 3) rfl (by decide) (by decide) (fun _ => rfl) (by decide) kf_X5_165 (hR.l12 (by first | assumption | omega)) (hR.ffm (by first | assumption | omega)) ?_
      rw [eu]
      refine mj_callVN_1 (ci := 5) (pc' := 28) C (c_X5_isReadable hst S u) dX5_stateInNewYear_25 rfl km_X5_219 ki_yX5_isReadable kz_yX5_isReadable kn_X5 kc_yX5_isReadable rfl (by decide) (by decide) ⟨rfl, by decide, by decide, by decide +kernel⟩ ⟨by decide, by decide⟩ (by decide) ⟨by decide, by decide⟩ ⟨rfl, hR, hu⟩ (fun r25 μ25 hq25 hm25 => ?_) (fun _ _ h9 => h9)
      obtain ⟨rfl, rfl⟩ := hq25
      dsimp only [Option.toList, List.nil_append, List.cons_append]
      refine mj_if_eq (tgt := 35) (pc' := 31) C dX5_stateInNewYear_28 (by decide) rfl (fun h28 => ?_) (fun h28 => ?_)
      · have hc : (if canR S u then (0 : Int32) else 2) = 2 := if_neg (b1_0.mp h28)
        refine mj_iconst (pc' := 36) (v := 2) C dX5_stateInNewYear_35 rfl rfl ?_
        refine mj_iret C dX5_stateInNewYear_36 (by decide) (by decide) (by decide) ?_
        exact ⟨by unfold ny; rw [if_pos hs, if_neg hn, efF, hc], rfl⟩
      · have hc : (if canR S u then (0 : Int32) else 2) = 0 := if_pos (b1_n h28)
        refine mj_iconst (pc' := 32) (v := 0) C dX5_stateInNewYear_31 rfl rfl ?_
        refine mj_goto (pc' := 36) C dX5_stateInNewYear_32 (by decide) ?_
        refine mj_iret C dX5_stateInNewYear_36 (by decide) (by decide) (by decide) ?_
        exact ⟨by unfold ny; rw [if_pos hs, if_neg hn, efF, hc], rfl⟩
    · refine mj_iconst (pc' := 19) (v := 1) C dX5_stateInNewYear_18 rfl rfl ?_
      refine mj_iret C dX5_stateInNewYear_19 (by decide) (by decide) (by decide) ?_
      exact ⟨by unfold ny; rw [if_pos hs, if_pos ⟨Int32.not_le.mp h8, h15⟩], rfl⟩

set_option maxRecDepth 20000 in
theorem c_X1_qualityAfter {l : Launch} (hst : l.stackTraces = false) (S : jS) (c : Nat) (q : Int32) : jMet l yX1_qualityAfter cX1_qualityAfter 2 (some FieldType.int) 6 100 0 0 (fun avs μ => avs = [aR 13 c, aI q] ∧ (c < mN μ 13 ∧ mI μ 13 c 3 = sf S 3 c)) (fun avs μ r μ' => r = some (aI (stQ S c q)) ∧ μ' = μ) (fun avs μ E μ' => False) := by
  refine jMet_of hst (by decide) ?_
  intro avs μ J C hav hpre
  obtain ⟨rfl, hc, hlo⟩ := hpre
  refine ⟨Nat.le_of_ble_eq_true rfl, ?_⟩
  show J 0 [some (aR 13 c), some (aI q)] [] μ 0 0
  refine mj_iload_n (pc' := 1) C dX1_qualityAfter_0 rfl rfl ?_
  refine mj_sipush (pc' := 4) (v := 1000) C dX1_qualityAfter_1 rfl rfl ?_
  refine mj_aload_n (pc' := 5) C dX1_qualityAfter_4 rfl rfl ?_
  refine mj_getV (pc' := 8) C dX1_qualityAfter_5 rfl (ci := 1) (f := 3) rfl (by decide) (by decide) (fun _ => rfl) (by decide) kf_X1_21 hc hlo ?_
  refine mj_isub (pc' := 9) C dX1_qualityAfter_8 rfl ?_
  refine mj_imul (pc' := 10) C dX1_qualityAfter_9 rfl ?_
  refine mj_sipush (pc' := 13) (v := 1000) C dX1_qualityAfter_10 rfl rfl ?_
  refine mj_idiv (pc' := 14) C dX1_qualityAfter_13 rfl (by decide) ?_
  refine mj_iret C dX1_qualityAfter_14 (by decide) (by decide) (by decide) ?_
  exact ⟨rfl, rfl⟩
