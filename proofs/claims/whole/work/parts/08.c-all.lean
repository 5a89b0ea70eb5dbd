/-! THE REFERENCE: ALL WAYS -/
set_option maxHeartbeats 1600000 in
set_option maxRecDepth 20000 in
theorem c_X6_goAll {l : Launch} (hst : l.stackTraces = false) (S : jS) (go : Option Nat) (T : jB) (a : Nat) (g : Int32) : jMet l yX6_goAll cX6_goAll 6 (some FieldType.int) 8 180 0 0 (fun avs μ => avs = [aR 20 0, aI (nI a), aI g] ∧ mC S μ ∧ sW S ∧ a < 10 ∧ ((g = -1 ∧ go = none) ∨ ∃ b, b < 10 ∧ g = nI b ∧ go = some b) ∧ (∀ j, j < 10 → mI μ 49 0 j = 0) ∧ (go = none → mTab μ a T)) (fun avs μ r μ' => r = some (aI (cmb S go 10 a [a] 1000 0 [] (T, -1)).2) ∧ oG (zQ go a 0) μ μ' ∧ (∀ j, j < 10 → mI μ' 49 0 j = 0) ∧ (go = none → mTab μ' a (cmb S go 10 a [a] 1000 0 [] (T, -1)).1)) (fun avs μ E μ' => False) := by
  refine jMet_of hst (by decide) ?_
  intro avs μ0 J C hav hpre
  obtain ⟨rfl, hC0, hW, ha, hg, hz0, hT0⟩ := hpre
  refine ⟨Nat.le_of_ble_eq_true rfl, ?_⟩
  have hW0 := hW.1.1
  have hW1 := hW.1.2
  have main : ∀ (n x : Nat) (w : List Nat) (U : jB × Int32) (μ : jM) (c5 : Option jV), w.length + n = 9 → x < 10 → okw S a [a] w x → mC S μ → mI μ 45 0 w.length = nI x → mI μ 46 0 w.length = nI (qN S w 1000) → mI μ 47 0 w.length = nI (cN S w 0) → mI μ 48 0 w.length = 0 → (∀ i, i < w.length → mI μ 44 0 i = nI (w.getD i 0)) → (∀ j, j < 10 → mI μ 49 0 j = b1 (j ∈ vs S [a] w)) → (go = none → mTab μ a U.1) →
    (∀ (μ' : jM) (c5' : Option jV), oG (zQ go a w.length) μ μ' → (∀ j, j < 10 → mI μ' 49 0 j = if j = x then 0 else mI μ 49 0 j) → (go = none → mTab μ' a (cmb S go (n + 1) x (vs S [a] w) (nI (qN S w 1000)) (nI (cN S w 0)) w U).1) → J 42 [some (aR 20 0), some (aI (nI a)), some (aI g), some (aI (nI w.length - 1)), some (aI ((cmb S go (n + 1) x (vs S [a] w) (nI (qN S w 1000)) (nI (cN S w 0)) w U).2)), c5'] [] μ' 0 0) → J 42 [some (aR 20 0), some (aI (nI a)), some (aI g), some (aI (nI w.length)), some (aI (U.2)), c5] [] μ 0 0 := by
    intro n
    induction n using Nat.strongRecOn with
    | ind n ihm =>
      intro x w U μ c5 hl hx hw hC hat hqq hcc hnx hwy hon htab K
      have hCm := hC
      have hon0 := hon
      obtain ⟨U0, eU0⟩ : ∃ U0, U0 = vst go x (nI (qN S w 1000)) (nI (cN S w 0)) w U := ⟨_, rfl⟩
      obtain ⟨F, eF⟩ : ∃ F : Nat → jB × Int32, F = cf S go n x (vs S [a] w) (nI (qN S w 1000)) (nI (cN S w 0)) w U0 := ⟨_, rfl⟩
      have eN : (cmb S go (n + 1) x (vs S [a] w) (nI (qN S w 1000)) (nI (cN S w 0)) w U) = F (sn S 1) := by rw [cmb_e, eF, eU0]
      have eF0 : F 0 = U0 := by rw [eF]; rfl
      have inner : ∀ (r k : Nat) (μ1 : jM) (c5 : Option jV), sn S 1 - k = r → k ≤ sn S 1 → oG (zQ go a w.length) μ μ1 → mI μ1 45 0 w.length = nI x → mI μ1 46 0 w.length = nI (qN S w 1000) → mI μ1 47 0 w.length = nI (cN S w 0) → mI μ1 48 0 w.length = nI k → (∀ i, i < w.length → mI μ1 44 0 i = nI (w.getD i 0)) → (∀ j, j < 10 → mI μ1 49 0 j = b1 (j ∈ vs S [a] w)) → (go = none → mTab μ1 a (F k).1) → J 120 [some (aR 20 0), some (aI (nI a)), some (aI g), some (aI (nI w.length)), some (aI ((F k).2)), c5] [] μ1 0 0 := by
        intro r
        induction r using Nat.strongRecOn with
        | ind r ihr =>
          intro k μ1 c5 hr hk hG hat hqq hcc hnx hwy hon htab
          have hC := hC.to (hG.up (fun _ _ _ q => zQ_g q))
          refine mj_aload_n (pc' := 121) C dX6_goAll_120 rfl rfl ?_
          refine mj_aload_n (pc' := 122) C dX6_goAll_121 rfl rfl ?_
          refine mj_getR (pc' := 125) C dX6_goAll_122 rfl (ci := 6) (f := 24) rfl (by decide) (by decide) (fun _ => rfl) (by decide) kf_X6_83 hC.B.l0 (hC.B.p 24 (by decide) rfl) ?_
          refine mj_iload_n (pc' := 126) C dX6_goAll_125 rfl rfl ?_
          refine mj_ialdV (pc' := 127) C dX6_goAll_126 rfl rfl (by decide) (by decide) (hC.B.l 24 (by decide) rfl) rfl (by omega) hat ?_
          refine mj_aload_n (pc' := 128) C dX6_goAll_127 rfl rfl ?_
          refine mj_getR (pc' := 131) C dX6_goAll_128 rfl (ci := 6) (f := 27) rfl (by decide) (by decide) (fun _ => rfl) (by decide) kf_X6_92 hC.B.l0 (hC.B.p 27 (by decide) rfl) ?_
          refine mj_iload_n (pc' := 132) C dX6_goAll_131 rfl rfl ?_
          refine mj_ialdV (pc' := 133) C dX6_goAll_132 rfl rfl (by decide) (by decide) (hC.B.l 27 (by decide) rfl) rfl (by omega) hnx ?_
          refine mj_callVN_2 (ci := 6) (pc' := 136) C (c_X6_nextFrom hst S x k (vs S [a] w)) dX6_goAll_133 rfl km_X6_125 ki_yX6_nextFrom kz_yX6_nextFrom kn_X6 kc_yX6_nextFrom rfl (by decide) (by decide) ⟨rfl, by decide, by decide, by decide +kernel⟩ ⟨by decide, by decide⟩ (Nat.le_of_ble_eq_true rfl) ⟨by exact Nat.le_refl _, by exact Nat.le_refl _⟩ ⟨rfl, hC, hW, ⟨hx, hk⟩, hon⟩ (fun r133 μ133 hq133 hm133 => ?_) (fun _ _ h9 => h9)
          obtain ⟨rfl, hq9⟩ := hq133
          have hq9 := hq9.symm
          subst hq9
          dsimp only [Option.toList, List.nil_append, List.cons_append]
          obtain ⟨n1, n2, n3, n4⟩ := nf_s (S := S) (x := x) (vis := vs S [a] w) hk
          generalize nf S x (vs S [a] w) k = c at n1 n2 n3 n4 ⊢
          have hFc : F c = F k := by rw [eF]; exact cf_sk n1 n4
          refine mj_istore_5 (pc' := 138) C dX6_goAll_136 rfl (by decide) rfl ?_
          refine mj_aload_n (pc' := 139) C dX6_goAll_138 rfl rfl ?_
          refine mj_getR (pc' := 142) C dX6_goAll_139 rfl (ci := 6) (f := 27) rfl (by decide) (by decide) (fun _ => rfl) (by decide) kf_X6_92 hC.B.l0 (hC.B.p 27 (by decide) rfl) ?_
          refine mj_iload_n (pc' := 143) C dX6_goAll_142 rfl rfl ?_
          refine mj_iload (pc' := 145) C dX6_goAll_143 rfl rfl ?_
          refine mj_iconst (pc' := 146) (v := 1) C dX6_goAll_145 rfl rfl ?_
          refine mj_iadd (pc' := 147) C dX6_goAll_146 rfl ?_
          rw [nI_1]
          refine mj_iast (pc' := 148) C dX6_goAll_147 rfl rfl (by decide) (by decide) (hC.B.l 27 (by decide) rfl) rfl (by omega) ?_
          generalize e2 : sI μ1 48 0 w.length (nI (c + 1)) = μ2
          have g2 : ∀ kd z, ¬ (kd = 48 ∧ z = w.length) → mI μ2 kd 0 z = mI μ1 kd 0 z := fun kd z h => by rw [← e2]; exact mI_sI_n _ _ _ _ _ (fun q => h ⟨q.1, q.2.2⟩)
          have x2 : mI μ2 48 0 w.length = nI (c + 1) := by rw [← e2]; exact mI_sI_s _ _ _ _ _
          have o2 : oG (zQ go a w.length) μ1 μ2 := by rw [← e2]; exact oG_sI (Or.inr (Or.inl ⟨by omega, Nat.le_refl _⟩)) oG.rf
          have hC := hC.to (o2.up (fun _ _ _ q => zQ_g q))
          clear e2
          refine mj_iload (pc' := 150) C dX6_goAll_148 rfl rfl ?_
          refine mj_aload_n (pc' := 151) C dX6_goAll_150 rfl rfl ?_
          refine mj_getV (pc' := 154) C dX6_goAll_151 rfl (ci := 6) (f := 29) rfl (by decide) (by decide) (fun _ => rfl) (by decide) kf_X6_118 hC.B.l0 hC.nc ?_
          refine mj_icmp_ne (tgt := 175) (pc' := 157) C dX6_goAll_154 (by decide) rfl (fun h154 => ?_) (fun h154 => ?_)
          · have hcN : c < sn S 1 := by
              by_cases q : c = sn S 1
              · exact absurd (by rw [q]) h154
              · omega
            have hok := okb_iff.mp (n3 hcN)
            have hl9 := okw_9 hW ha hw hcN hok
            obtain ⟨b, hb, eb⟩ := (hW.2.1 c hcN).2.1
            have etO : tO S c = b := by unfold tO; rw [eb]; exact ix_nI (by omega)
            have hw1 : okw S a [a] (w ++ [c]) b := by rw [← etO]; exact okw_snoc hw hcN hok
            have hlen : (w ++ [c]).length = w.length + 1 := by rw [List.length_append]; rfl
            refine mj_aload_n (pc' := 176) C dX6_goAll_175 rfl rfl ?_
            refine mj_getR (pc' := 179) C dX6_goAll_176 rfl (ci := 6) (f := 23) rfl (by decide) (by decide) (fun _ => rfl) (by decide) kf_X6_80 hC.B.l0 (hC.B.p 23 (by decide) rfl) ?_
            refine mj_iload_n (pc' := 180) C dX6_goAll_179 rfl rfl ?_
            refine mj_iload (pc' := 182) C dX6_goAll_180 rfl rfl ?_
            refine mj_iast (pc' := 183) C dX6_goAll_182 rfl rfl (by decide) (by decide) (hC.B.l 23 (by decide) rfl) rfl (by omega) ?_
            refine mj_iinc_3 (pc' := 186) (w := 1) C dX6_goAll_183 rfl rfl (by decide) rfl ?_
            rw [nI_1]
            refine mj_aload_n (pc' := 187) C dX6_goAll_186 rfl rfl ?_
            refine mj_getR (pc' := 190) C dX6_goAll_187 rfl (ci := 6) (f := 24) rfl (by decide) (by decide) (fun _ => rfl) (by decide) kf_X6_83 hC.B.l0 (hC.B.p 24 (by decide) rfl) ?_
            refine mj_iload_n (pc' := 191) C dX6_goAll_190 rfl rfl ?_
            refine mj_aload_n (pc' := 192) C dX6_goAll_191 rfl rfl ?_
            refine mj_getR (pc' := 195) C dX6_goAll_192 rfl (ci := 6) (f := 2) rfl (by decide) (by decide) (fun _ => rfl) (by decide) kf_X6_16 hC.B.l0 (hC.B.p 2 (by decide) rfl) ?_
            refine mj_iload (pc' := 197) C dX6_goAll_195 rfl rfl ?_
            refine mj_ialdV (pc' := 198) C dX6_goAll_197 rfl rfl (by decide) (by decide) (hC.B.l 2 (by decide) rfl) rfl (by first | assumption | omega) ((hC.v 2 (by decide) rfl (by unfold sl; simp <;> first | assumption | omega)).trans eb) ?_
            refine mj_iast (pc' := 199) C dX6_goAll_198 rfl rfl (by decide) (by decide) (hC.B.l 24 (by decide) rfl) rfl (by omega) ?_
            refine mj_aload_n (pc' := 200) C dX6_goAll_199 rfl rfl ?_
            refine mj_getR (pc' := 203) C dX6_goAll_200 rfl (ci := 6) (f := 25) rfl (by decide) (by decide) (fun _ => rfl) (by decide) kf_X6_86 hC.B.l0 (hC.B.p 25 (by decide) rfl) ?_
            refine mj_iload_n (pc' := 204) C dX6_goAll_203 rfl rfl ?_
            refine mj_aload_n (pc' := 205) C dX6_goAll_204 rfl rfl ?_
            refine mj_getR (pc' := 208) C dX6_goAll_205 rfl (ci := 6) (f := 25) rfl (by decide) (by decide) (fun _ => rfl) (by decide) kf_X6_86 hC.B.l0 (hC.B.p 25 (by decide) rfl) ?_
            refine mj_iload_n (pc' := 209) C dX6_goAll_208 rfl rfl ?_
            refine mj_iconst (pc' := 210) (v := 1) C dX6_goAll_209 rfl rfl ?_
            refine mj_isub (pc' := 211) C dX6_goAll_210 rfl ?_
            refine mj_ialdV (pc' := 212) C dX6_goAll_211 rfl rfl (by decide) (by decide) (hC.B.l 25 (by decide) rfl) (nI_pred _) (by omega) (show mI _ 46 0 w.length = nI (qN S w 1000) from (mI_sI_n _ _ _ _ _ (by omega)).trans ((mI_sI_n _ _ _ _ _ (by omega)).trans ((g2 46 _ (by omega)).trans hqq))) ?_
            refine mj_aload_n (pc' := 213) C dX6_goAll_212 rfl rfl ?_
            refine mj_getR (pc' := 216) C dX6_goAll_213 rfl (ci := 6) (f := 3) rfl (by decide) (by decide) (fun _ => rfl) (by decide) kf_X6_19 hC.B.l0 (hC.B.p 3 (by decide) rfl) ?_
            refine mj_iload (pc' := 218) C dX6_goAll_216 rfl rfl ?_
            refine mj_ialdV (pc' := 219) C dX6_goAll_218 rfl rfl (by decide) (by decide) (hC.B.l 3 (by decide) rfl) rfl (by first | assumption | omega) (hC.v 3 (by decide) rfl (by unfold sl; simp <;> first | assumption | omega)) ?_
            refine mj_callSN_2 (pc' := 222) C (c_X6_behind hst (nI (qN S w 1000)) (sf S 3 c)) dX6_goAll_219 rfl km_X6_129 ks_yX6_behind kn_X6 kc_yX6_behind ⟨by decide, by decide, by decide +kernel⟩ ⟨by decide, by decide⟩ (Nat.le_of_ble_eq_true rfl) ⟨by exact Nat.le_refl _, by exact Nat.le_refl _⟩ rfl (fun r219 μ219 hq219 hm219 => ?_) (fun _ _ h9 => h9)
            obtain ⟨rfl, hq9⟩ := hq219
            have hq9 := hq9.symm
            subst hq9
            dsimp only [Option.toList, List.nil_append, List.cons_append]
            rw [show nI (qN S w 1000) * (1000 - sf S 3 c) / 1000 = nI (qN S (w ++ [c]) 1000) from (nx_q hW hcN).1]
            refine mj_iast (pc' := 223) C dX6_goAll_222 rfl rfl (by decide) (by decide) (hC.B.l 25 (by decide) rfl) rfl (by omega) ?_
            generalize e3 : sI (sI (sI μ2 44 0 w.length (nI c)) 45 0 (w.length + 1) (nI b)) 46 0 (w.length + 1) (nI (qN S (w ++ [c]) 1000)) = μ3
            have g3 : ∀ kd z, ¬ (kd = 44 ∧ z = w.length) → ¬ (kd = 45 ∧ z = w.length + 1) → ¬ (kd = 46 ∧ z = w.length + 1) → mI μ3 kd 0 z = mI μ2 kd 0 z := fun kd z h1 h2 h3 => by rw [← e3, mI_sI_n _ _ _ _ _ (fun q => h3 ⟨q.1, q.2.2⟩), mI_sI_n _ _ _ _ _ (fun q => h2 ⟨q.1, q.2.2⟩), mI_sI_n _ _ _ _ _ (fun q => h1 ⟨q.1, q.2.2⟩)]
            have x44 : mI μ3 44 0 w.length = nI c := by rw [← e3, mI_sI_n _ _ _ _ _ (by omega), mI_sI_n _ _ _ _ _ (by omega), mI_sI_s]
            have x45 : mI μ3 45 0 (w.length + 1) = nI b := by rw [← e3, mI_sI_n _ _ _ _ _ (by omega), mI_sI_s]
            have x46 : mI μ3 46 0 (w.length + 1) = nI (qN S (w ++ [c]) 1000) := by rw [← e3, mI_sI_s]
            have o3 : oG (zQ go a w.length) μ2 μ3 := by rw [← e3]; exact oG_sI (Or.inr (Or.inl ⟨by omega, by omega⟩)) (oG_sI (Or.inr (Or.inl ⟨by omega, by omega⟩)) (oG_sI (Or.inr (Or.inl ⟨by omega, by omega⟩)) oG.rf))
            have hC := hC.to (o3.up (fun _ _ _ q => zQ_g q))
            clear e3
            refine mj_aload_n (pc' := 224) C dX6_goAll_223 rfl rfl ?_
            refine mj_getR (pc' := 227) C dX6_goAll_224 rfl (ci := 6) (f := 26) rfl (by decide) (by decide) (fun _ => rfl) (by decide) kf_X6_89 hC.B.l0 (hC.B.p 26 (by decide) rfl) ?_
            refine mj_iload_n (pc' := 228) C dX6_goAll_227 rfl rfl ?_
            refine mj_aload_n (pc' := 229) C dX6_goAll_228 rfl rfl ?_
            refine mj_getR (pc' := 232) C dX6_goAll_229 rfl (ci := 6) (f := 26) rfl (by decide) (by decide) (fun _ => rfl) (by decide) kf_X6_89 hC.B.l0 (hC.B.p 26 (by decide) rfl) ?_
            refine mj_iload_n (pc' := 233) C dX6_goAll_232 rfl rfl ?_
            refine mj_iconst (pc' := 234) (v := 1) C dX6_goAll_233 rfl rfl ?_
            refine mj_isub (pc' := 235) C dX6_goAll_234 rfl ?_
            refine mj_ialdV (pc' := 236) C dX6_goAll_235 rfl rfl (by decide) (by decide) (hC.B.l 26 (by decide) rfl) (nI_pred _) (by omega) (show mI _ 47 0 w.length = nI (cN S w 0) from (g3 47 _ (by omega) (by omega) (by omega)).trans ((g2 47 _ (by omega)).trans hcc)) ?_
            refine mj_aload_n (pc' := 237) C dX6_goAll_236 rfl rfl ?_
            refine mj_getR (pc' := 240) C dX6_goAll_237 rfl (ci := 6) (f := 4) rfl (by decide) (by decide) (fun _ => rfl) (by decide) kf_X6_22 hC.B.l0 (hC.B.p 4 (by decide) rfl) ?_
            refine mj_iload (pc' := 242) C dX6_goAll_240 rfl rfl ?_
            refine mj_ialdV (pc' := 243) C dX6_goAll_242 rfl rfl (by decide) (by decide) (hC.B.l 4 (by decide) rfl) rfl (by first | assumption | omega) (hC.v 4 (by decide) rfl (by unfold sl; simp <;> first | assumption | omega)) ?_
            refine mj_iadd (pc' := 244) C dX6_goAll_243 rfl ?_
            rw [(nx_q hW hcN).2]
            refine mj_iast (pc' := 245) C dX6_goAll_244 rfl rfl (by decide) (by decide) (hC.B.l 26 (by decide) rfl) rfl (by omega) ?_
            refine mj_aload_n (pc' := 246) C dX6_goAll_245 rfl rfl ?_
            refine mj_getR (pc' := 249) C dX6_goAll_246 rfl (ci := 6) (f := 27) rfl (by decide) (by decide) (fun _ => rfl) (by decide) kf_X6_92 hC.B.l0 (hC.B.p 27 (by decide) rfl) ?_
            refine mj_iload_n (pc' := 250) C dX6_goAll_249 rfl rfl ?_
            refine mj_iconst (pc' := 251) (v := 0) C dX6_goAll_250 rfl rfl ?_
            refine mj_iast (pc' := 252) C dX6_goAll_251 rfl rfl (by decide) (by decide) (hC.B.l 27 (by decide) rfl) rfl (by omega) ?_
            refine mj_aload_n (pc' := 253) C dX6_goAll_252 rfl rfl ?_
            refine mj_getR (pc' := 256) C dX6_goAll_253 rfl (ci := 6) (f := 28) rfl (by decide) (by decide) (fun _ => rfl) (by decide) kf_X6_95 hC.B.l0 (hC.B.p 28 (by decide) rfl) ?_
            refine mj_aload_n (pc' := 257) C dX6_goAll_256 rfl rfl ?_
            refine mj_getR (pc' := 260) C dX6_goAll_257 rfl (ci := 6) (f := 2) rfl (by decide) (by decide) (fun _ => rfl) (by decide) kf_X6_16 hC.B.l0 (hC.B.p 2 (by decide) rfl) ?_
            refine mj_iload (pc' := 262) C dX6_goAll_260 rfl rfl ?_
            refine mj_ialdV (pc' := 263) C dX6_goAll_262 rfl rfl (by decide) (by decide) (hC.B.l 2 (by decide) rfl) rfl (by first | assumption | omega) ((hC.v 2 (by decide) rfl (by unfold sl; simp <;> first | assumption | omega)).trans eb) ?_
            refine mj_iconst (pc' := 264) (v := 1) C dX6_goAll_263 rfl rfl ?_
            refine mj_zast (pc' := 265) C dX6_goAll_264 rfl rfl (by decide) (by decide) rfl (hC.B.l 28 (by decide) rfl) rfl (by omega) ?_
            refine mj_goto (pc' := 42) C dX6_goAll_265 (by decide) ?_
            generalize e4 : sI (sI (sI μ3 47 0 (w.length + 1) (nI (cN S (w ++ [c]) 0))) 48 0 (w.length + 1) 0) 49 0 b 1 = μ4
            have g4 : ∀ kd z, ¬ (kd = 47 ∧ z = w.length + 1) → ¬ (kd = 48 ∧ z = w.length + 1) → ¬ (kd = 49 ∧ z = b) → mI μ4 kd 0 z = mI μ3 kd 0 z := fun kd z h1 h2 h3 => by rw [← e4, mI_sI_n _ _ _ _ _ (fun q => h3 ⟨q.1, q.2.2⟩), mI_sI_n _ _ _ _ _ (fun q => h2 ⟨q.1, q.2.2⟩), mI_sI_n _ _ _ _ _ (fun q => h1 ⟨q.1, q.2.2⟩)]
            have x47 : mI μ4 47 0 (w.length + 1) = nI (cN S (w ++ [c]) 0) := by rw [← e4, mI_sI_n _ _ _ _ _ (by omega), mI_sI_n _ _ _ _ _ (by omega), mI_sI_s]
            have x48 : mI μ4 48 0 (w.length + 1) = 0 := by rw [← e4, mI_sI_n _ _ _ _ _ (by omega), mI_sI_s]
            have x49 : mI μ4 49 0 b = 1 := by rw [← e4, mI_sI_s]
            have o4 : oG (zQ go a w.length) μ3 μ4 := by rw [← e4]; exact oG_sI (Or.inr (Or.inr rfl)) (oG_sI (Or.inr (Or.inl ⟨by omega, by omega⟩)) (oG_sI (Or.inr (Or.inl ⟨by omega, by omega⟩)) oG.rf))
            clear e4
            have hC := hC.to (o4.up (fun _ _ _ q => zQ_g q))
            have gg : ∀ kd z, ¬ ((kd = 44 ∨ kd = 48) ∧ z = w.length) → ¬ ((kd = 45 ∨ kd = 46 ∨ kd = 47 ∨ kd = 48) ∧ z = w.length + 1) → ¬ (kd = 49 ∧ z = b) → mI μ4 kd 0 z = mI μ1 kd 0 z := fun kd z h1 h2 h3 => (g4 kd z (by omega) (by omega) h3).trans ((g3 kd z (by omega) (by omega) (by omega)).trans (g2 kd z (by omega)))
            rw [show nI (w.length + 1) = nI (w ++ [c]).length by rw [hlen], ← hFc]
            refine ihm (n - 1) (by omega) b (w ++ [c]) (F c) μ4 _ (by rw [hlen]; omega) hb hw1 hC (by rw [hlen]; exact (g4 45 _ (by omega) (by omega) (by omega)).trans x45) (by rw [hlen]; exact (g4 46 _ (by omega) (by omega) (by omega)).trans x46) (by rw [hlen]; exact x47) (by rw [hlen]; exact x48) (fun i hi => ?_) (fun j hj => ?_) (fun h => ?_) (fun μ5 c52 hG2 hon2 ht2 => ?_)
            · rw [hlen] at hi
              by_cases e : i = w.length
              · subst e
                rw [(g4 44 _ (by omega) (by omega) (by omega)).trans x44]
                simp
              · have hlt : i < w.length := by omega
                rw [gg 44 i (by omega) (by omega) (by omega), hwy i hlt]
                simp [List.getD, List.getElem?_append, hlt]
            · rw [vs_snoc, etO]
              by_cases e : j = b
              · subst e
                rw [x49, b1_t List.mem_cons_self]
              · rw [gg 49 j (by omega) (by omega) (by omega), hon j hj]
                unfold b1
                simp only [List.mem_cons, e, false_or]
            · rw [hFc]
              exact mTab_same (htab h) (fun kd z hq => by unfold tQ at hq; exact gg kd z (by omega) (by omega) (by omega))
            · have hn1 : n - 1 + 1 = n := by omega
              have hFn : F (c + 1) = cmb S go n b (vs S [a] (w ++ [c])) (nI (qN S (w ++ [c]) 1000)) (nI (cN S (w ++ [c]) 0)) (w ++ [c]) (F c) := by
                rw [eF, cf_s, if_pos (n3 hcN), (nx_q hW hcN).1, (nx_q hW hcN).2, vs_snoc, etO]
              rw [hn1] at ht2 ⊢
              rw [← hFn] at ht2 ⊢
              rw [hlen, nI_pred]
              have low : ∀ kd z, (kd = 44 ∨ kd = 45 ∨ kd = 46 ∨ kd = 47 ∨ kd = 48) → z ≤ w.length → mI μ5 kd 0 z = mI μ4 kd 0 z := fun kd z h1 h2 => hG2.2 kd 0 z (by rw [hlen]; unfold zQ tQ; omega)
              have hG3 : oG (zQ go a w.length) μ μ5 := (((hG.tr o2).tr o3).tr o4).tr (hG2.up (fun _ _ _ q => zQ_d (by rw [hlen]; omega) q))
              have hC := hCm.to (hG3.up (fun _ _ _ q => zQ_g q))
              have hnx2 : mI μ5 48 0 w.length = nI (c + 1) := (low 48 _ (by omega) (Nat.le_refl _)).trans ((g4 48 _ (by omega) (by omega) (by omega)).trans ((g3 48 _ (by omega) (by omega) (by omega)).trans x2))
              refine mj_iload_n (pc' := 43) C dX6_goAll_42 rfl rfl ?_
              refine mj_if_lt (tgt := 268) (pc' := 46) C dX6_goAll_43 (by decide) rfl (fun h9 => absurd h9 (nI_pos (by omega))) (fun _ => ?_)
              refine mj_aload_n (pc' := 47) C dX6_goAll_46 rfl rfl ?_
              refine mj_getR (pc' := 50) C dX6_goAll_47 rfl (ci := 6) (f := 27) rfl (by decide) (by decide) (fun _ => rfl) (by decide) kf_X6_92 hC.B.l0 (hC.B.p 27 (by decide) rfl) ?_
              refine mj_iload_n (pc' := 51) C dX6_goAll_50 rfl rfl ?_
              refine mj_ialdV (pc' := 52) C dX6_goAll_51 rfl rfl (by decide) (by decide) (hC.B.l 27 (by decide) rfl) rfl (by omega) hnx2 ?_
              refine mj_if_ne (tgt := 120) (pc' := 55) C dX6_goAll_52 (by decide) rfl (fun _ => ?_) (fun h9 => absurd h9 (by exact nI_ne0 (by omega) (by omega)))
              refine ihr (sn S 1 - (c + 1)) (by omega) (c + 1) μ5 _ rfl (by omega) hG3 ((low 45 _ (by omega) (Nat.le_refl _)).trans ((gg 45 _ (by omega) (by omega) (by omega)).trans hat)) ((low 46 _ (by omega) (Nat.le_refl _)).trans ((gg 46 _ (by omega) (by omega) (by omega)).trans hqq)) ((low 47 _ (by omega) (Nat.le_refl _)).trans ((gg 47 _ (by omega) (by omega) (by omega)).trans hcc)) hnx2 (fun i hi => (low 44 i (by omega) (by omega)).trans ((gg 44 i (by omega) (by omega) (by omega)).trans (hwy i hi))) (fun j hj => ?_) ht2
              rw [hon2 j hj]
              by_cases e : j = b
              · subst e
                have hnm : ¬ (j ∈ vs S [a] w) := by have := hok.2.2; rw [show ix (sf S 2 c) = j from etO] at this; exact this
                rw [if_pos rfl, b1_f hnm]
              · rw [if_neg e, gg 49 j (by omega) (by omega) (by omega), hon j hj]
          · have hcN : c = sn S 1 := (nI_eq (by omega) (by omega)).mp h154
            refine mj_aload_n (pc' := 158) C dX6_goAll_157 rfl rfl ?_
            refine mj_getR (pc' := 161) C dX6_goAll_158 rfl (ci := 6) (f := 28) rfl (by decide) (by decide) (fun _ => rfl) (by decide) kf_X6_95 hC.B.l0 (hC.B.p 28 (by decide) rfl) ?_
            refine mj_aload_n (pc' := 162) C dX6_goAll_161 rfl rfl ?_
            refine mj_getR (pc' := 165) C dX6_goAll_162 rfl (ci := 6) (f := 24) rfl (by decide) (by decide) (fun _ => rfl) (by decide) kf_X6_83 hC.B.l0 (hC.B.p 24 (by decide) rfl) ?_
            refine mj_iload_n (pc' := 166) C dX6_goAll_165 rfl rfl ?_
            refine mj_ialdV (pc' := 167) C dX6_goAll_166 rfl rfl (by decide) (by decide) (hC.B.l 24 (by decide) rfl) rfl (by omega) ((g2 45 _ (by omega)).trans hat) ?_
            refine mj_iconst (pc' := 168) (v := 0) C dX6_goAll_167 rfl rfl ?_
            refine mj_zast (pc' := 169) C dX6_goAll_168 rfl rfl (by decide) (by decide) rfl (hC.B.l 28 (by decide) rfl) rfl (by omega) ?_
            refine mj_iinc_3 (pc' := 172) (w := (-1)) C dX6_goAll_169 rfl rfl (by decide) rfl ?_
            have hpop : J 42 [some (aR 20 0), some (aI (nI a)), some (aI g), some (aI (nI w.length - 1)), some (aI ((F k).2)), some (aI (nI c))] [] (sI μ2 49 0 x 0) 0 0 := by
              have hE : F (sn S 1) = F k := by rw [← hcN]; exact hFc
              rw [← hE, ← eN]
              refine K _ _ (oG_sI (Or.inr (Or.inr rfl)) (hG.tr o2)) (fun j hj => ?_) (fun h => ?_)
              · rw [mI_sI]
                by_cases e : j = x
                · rw [if_pos ⟨rfl, rfl, e⟩, if_pos e]
                · rw [if_neg (fun q => e q.2.2), if_neg e, g2 49 j (by omega), hon j hj]; exact (hon0 j hj).symm
              · rw [eN, hE]
                exact mTab_same (htab h) (fun kd z hq => by unfold tQ at hq; rw [mI_sI_n _ _ _ _ _ (by omega), g2 kd z (by omega)])
            refine mj_goto (pc' := 265) C dX6_goAll_172 (by decide) ?_
            refine mj_goto (pc' := 42) C dX6_goAll_265 (by decide) ?_
            rw [show (nI w.length + -1 : Int32) = nI w.length - 1 from (Int32.sub_eq_add_neg _ _).symm]
            exact hpop
      have hnx0 : mI μ 48 0 w.length = nI 0 := hnx
      refine mj_iload_n (pc' := 43) C dX6_goAll_42 rfl rfl ?_
      refine mj_if_lt (tgt := 268) (pc' := 46) C dX6_goAll_43 (by decide) rfl (fun h9 => absurd h9 (nI_pos (by omega))) (fun _ => ?_)
      refine mj_aload_n (pc' := 47) C dX6_goAll_46 rfl rfl ?_
      refine mj_getR (pc' := 50) C dX6_goAll_47 rfl (ci := 6) (f := 27) rfl (by decide) (by decide) (fun _ => rfl) (by decide) kf_X6_92 hC.B.l0 (hC.B.p 27 (by decide) rfl) ?_
      refine mj_iload_n (pc' := 51) C dX6_goAll_50 rfl rfl ?_
      refine mj_ialdV (pc' := 52) C dX6_goAll_51 rfl rfl (by decide) (by decide) (hC.B.l 27 (by decide) rfl) rfl (by omega) hnx ?_
      refine mj_if_ne (tgt := 120) (pc' := 55) C dX6_goAll_52 (by decide) rfl (fun h9 => absurd rfl h9) (fun _ => ?_)
      refine mj_iload_n (pc' := 56) C dX6_goAll_55 rfl rfl ?_
      refine mj_iconst (pc' := 57) (v := (-1)) C dX6_goAll_56 rfl rfl ?_
      refine mj_icmp_ne (tgt := 91) (pc' := 60) C dX6_goAll_57 (by decide) rfl (fun h57 => ?_) (fun h57 => ?_)
      · obtain ⟨b, hb, eg, ego⟩ := hg.resolve_left (fun q => h57 q.1)
        have htc : go = none → mTab μ a (F 0).1 := fun h => by rw [ego] at h; cases h
        have hGc : oG (zQ go a w.length) μ μ := oG.rf
        refine mj_aload_n (pc' := 92) C dX6_goAll_91 rfl rfl ?_
        refine mj_getR (pc' := 95) C dX6_goAll_92 rfl (ci := 6) (f := 24) rfl (by decide) (by decide) (fun _ => rfl) (by decide) kf_X6_83 hC.B.l0 (hC.B.p 24 (by decide) rfl) ?_
        refine mj_iload_n (pc' := 96) C dX6_goAll_95 rfl rfl ?_
        refine mj_ialdV (pc' := 97) C dX6_goAll_96 rfl rfl (by decide) (by decide) (hC.B.l 24 (by decide) rfl) rfl (by omega) hat ?_
        refine mj_iload_n (pc' := 98) C dX6_goAll_97 rfl rfl ?_
        refine mj_icmp_ne (tgt := 120) (pc' := 101) C dX6_goAll_98 (by decide) rfl (fun h98 => ?_) (fun h98 => ?_)
        · rw [show U.2 = (F 0).2 by rw [eF0, eU0, ego]; exact (if_neg (fun q => h98 (by rw [q.1, eg]))).symm]
          exact inner (sn S 1) 0 _ _ (Nat.sub_zero _) (Nat.zero_le _) hGc hat hqq hcc hnx0 hwy hon htc
        · refine mj_aload_n (pc' := 102) C dX6_goAll_101 rfl rfl ?_
          refine mj_getR (pc' := 105) C dX6_goAll_102 rfl (ci := 6) (f := 25) rfl (by decide) (by decide) (fun _ => rfl) (by decide) kf_X6_86 hC.B.l0 (hC.B.p 25 (by decide) rfl) ?_
          refine mj_iload_n (pc' := 106) C dX6_goAll_105 rfl rfl ?_
          refine mj_ialdV (pc' := 107) C dX6_goAll_106 rfl rfl (by decide) (by decide) (hC.B.l 25 (by decide) rfl) rfl (by omega) hqq ?_
          refine mj_iload (pc' := 109) C dX6_goAll_107 rfl rfl ?_
          refine mj_icmp_le (tgt := 120) (pc' := 112) C dX6_goAll_109 (by decide) rfl (fun h109 => ?_) (fun h109 => ?_)
          · rw [show U.2 = (F 0).2 by rw [eF0, eU0, ego]; exact (if_neg (fun q => absurd q.2 (Int32.not_lt.mpr h109))).symm]
            exact inner (sn S 1) 0 _ _ (Nat.sub_zero _) (Nat.zero_le _) hGc hat hqq hcc hnx0 hwy hon htc
          · have exb : x = b := by rw [eg] at h98; exact (nI_eq (by omega) (by omega)).mp h98
            refine mj_aload_n (pc' := 113) C dX6_goAll_112 rfl rfl ?_
            refine mj_getR (pc' := 116) C dX6_goAll_113 rfl (ci := 6) (f := 25) rfl (by decide) (by decide) (fun _ => rfl) (by decide) kf_X6_86 hC.B.l0 (hC.B.p 25 (by decide) rfl) ?_
            refine mj_iload_n (pc' := 117) C dX6_goAll_116 rfl rfl ?_
            refine mj_ialdV (pc' := 118) C dX6_goAll_117 rfl rfl (by decide) (by decide) (hC.B.l 25 (by decide) rfl) rfl (by omega) hqq ?_
            rw [show nI (qN S w 1000) = (F 0).2 by rw [eF0, eU0, ego]; exact (if_pos ⟨exb, Int32.not_le.mp h109⟩).symm]
            refine mj_istore_4 (pc' := 120) C dX6_goAll_118 rfl (by decide) rfl ?_
            exact inner (sn S 1) 0 _ _ (Nat.sub_zero _) (Nat.zero_le _) hGc hat hqq hcc hnx0 hwy hon htc
      · have ego : go = none := by
          rcases hg with q | ⟨b, hb, eg, -⟩
          · exact q.2
          · exact absurd (eg.symm.trans h57) (nI_m1 (by omega))
        have htb := htab ego
        refine mj_aload_n (pc' := 61) C dX6_goAll_60 rfl rfl ?_
        refine mj_bipush (pc' := 63) (v := 10) C dX6_goAll_61 rfl rfl ?_
        refine mj_iload_n (pc' := 64) C dX6_goAll_63 rfl rfl ?_
        refine mj_imul (pc' := 65) C dX6_goAll_64 rfl ?_
        refine mj_aload_n (pc' := 66) C dX6_goAll_65 rfl rfl ?_
        refine mj_getR (pc' := 69) C dX6_goAll_66 rfl (ci := 6) (f := 24) rfl (by decide) (by decide) (fun _ => rfl) (by decide) kf_X6_83 hC.B.l0 (hC.B.p 24 (by decide) rfl) ?_
        refine mj_iload_n (pc' := 70) C dX6_goAll_69 rfl rfl ?_
        refine mj_ialdV (pc' := 71) C dX6_goAll_70 rfl rfl (by decide) (by decide) (hC.B.l 24 (by decide) rfl) rfl (by omega) hat ?_
        refine mj_iadd (pc' := 72) C dX6_goAll_71 rfl ?_
        rw [show (10 : Int32) * nI a + nI x = nI (10 * a + x) from by show nI 10 * nI a + nI x = _; rw [pk_mul, nI_add]]
        refine mj_aload_n (pc' := 73) C dX6_goAll_72 rfl rfl ?_
        refine mj_getR (pc' := 76) C dX6_goAll_73 rfl (ci := 6) (f := 25) rfl (by decide) (by decide) (fun _ => rfl) (by decide) kf_X6_86 hC.B.l0 (hC.B.p 25 (by decide) rfl) ?_
        refine mj_iload_n (pc' := 77) C dX6_goAll_76 rfl rfl ?_
        refine mj_ialdV (pc' := 78) C dX6_goAll_77 rfl rfl (by decide) (by decide) (hC.B.l 25 (by decide) rfl) rfl (by omega) hqq ?_
        refine mj_aload_n (pc' := 79) C dX6_goAll_78 rfl rfl ?_
        refine mj_getR (pc' := 82) C dX6_goAll_79 rfl (ci := 6) (f := 26) rfl (by decide) (by decide) (fun _ => rfl) (by decide) kf_X6_89 hC.B.l0 (hC.B.p 26 (by decide) rfl) ?_
        refine mj_iload_n (pc' := 83) C dX6_goAll_82 rfl rfl ?_
        refine mj_ialdV (pc' := 84) C dX6_goAll_83 rfl rfl (by decide) (by decide) (hC.B.l 26 (by decide) rfl) rfl (by omega) hcc ?_
        refine mj_iload_n (pc' := 85) C dX6_goAll_84 rfl rfl ?_
        refine mj_callVN_4 (ci := 6) (pc' := 88) C (c_X6_offer hst S U.1 a x (nI (qN S w 1000)) (nI (cN S w 0)) w) dX6_goAll_85 rfl km_X6_121 ki_yX6_offer kz_yX6_offer kn_X6 kc_yX6_offer rfl (by decide) (by decide) ⟨rfl, by decide, by decide, by decide +kernel⟩ ⟨by decide, by decide⟩ (Nat.le_of_ble_eq_true rfl) ⟨by exact Nat.le_refl _, by exact Nat.le_refl _⟩ ⟨rfl, hC, ⟨ha, hx, (by omega)⟩, htb, (fun e he => by have q := (htb x hx).2.2.2.1; rw [he] at q; exact q), m1_lt (by have := qN_le S w 1000; omega), hwy⟩ (fun r85 μ85 hq85 hm85 => ?_) (fun _ _ h9 => h9)
        obtain ⟨rfl, hO85, hT85⟩ := hq85
        dsimp only [Option.toList, List.nil_append, List.cons_append]
        have k4 : ∀ kd z, 44 ≤ kd → mI μ85 kd 0 z = mI μ kd 0 z := fun kd z h => hO85.2 kd 0 z (by unfold pQ; omega)
        have hGc : oG (zQ go a w.length) μ μ85 := hO85.up (fun _ _ _ q => Or.inl ⟨ego, pQ_t hx q⟩)
        have hat := (k4 45 _ (by omega)).trans hat
        have hqq := (k4 46 _ (by omega)).trans hqq
        have hcc := (k4 47 _ (by omega)).trans hcc
        have hnx0 := (k4 48 _ (by omega)).trans hnx0
        have hwy := fun i hi => (k4 44 i (by omega)).trans (hwy i hi)
        have hon := fun j hj => (k4 49 j (by omega)).trans (hon j hj)
        have htc : go = none → mTab μ85 a (F 0).1 := fun _ => by rw [eF0, eU0, ego]; exact hT85
        rw [show U.2 = (F 0).2 by rw [eF0, eU0, ego]; rfl]
        refine mj_goto (pc' := 120) C dX6_goAll_88 (by decide) ?_
        exact inner (sn S 1) 0 _ _ (Nat.sub_zero _) (Nat.zero_le _) hGc hat hqq hcc hnx0 hwy hon htc
  show J 0 [some (aR 20 0), some (aI (nI a)), some (aI g), none, none, none] [] μ0 0 0
  have hC := hC0
  refine mj_iconst (pc' := 1) (v := 0) C dX6_goAll_0 rfl rfl ?_
  refine mj_istore_n_3 (pc' := 2) C dX6_goAll_1 rfl (by decide) rfl ?_
  refine mj_iconst (pc' := 3) (v := (-1)) C dX6_goAll_2 rfl rfl ?_
  refine mj_istore_4 (pc' := 5) C dX6_goAll_3 rfl (by decide) rfl ?_
  refine mj_aload_n (pc' := 6) C dX6_goAll_5 rfl rfl ?_
  refine mj_getR (pc' := 9) C dX6_goAll_6 rfl (ci := 6) (f := 24) rfl (by decide) (by decide) (fun _ => rfl) (by decide) kf_X6_83 hC.B.l0 (hC.B.p 24 (by decide) rfl) ?_
  refine mj_iconst (pc' := 10) (v := 0) C dX6_goAll_9 rfl rfl ?_
  refine mj_iload_n (pc' := 11) C dX6_goAll_10 rfl rfl ?_
  refine mj_iast (pc' := 12) C dX6_goAll_11 rfl rfl (by decide) (by decide) (hC.B.l 24 (by decide) rfl) nI_0.symm (by decide) ?_
  refine mj_aload_n (pc' := 13) C dX6_goAll_12 rfl rfl ?_
  refine mj_getR (pc' := 16) C dX6_goAll_13 rfl (ci := 6) (f := 25) rfl (by decide) (by decide) (fun _ => rfl) (by decide) kf_X6_86 hC.B.l0 (hC.B.p 25 (by decide) rfl) ?_
  refine mj_iconst (pc' := 17) (v := 0) C dX6_goAll_16 rfl rfl ?_
  refine mj_sipush (pc' := 20) (v := 1000) C dX6_goAll_17 rfl rfl ?_
  refine mj_iast (pc' := 21) C dX6_goAll_20 rfl rfl (by decide) (by decide) (hC.B.l 25 (by decide) rfl) nI_0.symm (by decide) ?_
  refine mj_aload_n (pc' := 22) C dX6_goAll_21 rfl rfl ?_
  refine mj_getR (pc' := 25) C dX6_goAll_22 rfl (ci := 6) (f := 26) rfl (by decide) (by decide) (fun _ => rfl) (by decide) kf_X6_89 hC.B.l0 (hC.B.p 26 (by decide) rfl) ?_
  refine mj_iconst (pc' := 26) (v := 0) C dX6_goAll_25 rfl rfl ?_
  refine mj_iconst (pc' := 27) (v := 0) C dX6_goAll_26 rfl rfl ?_
  refine mj_iast (pc' := 28) C dX6_goAll_27 rfl rfl (by decide) (by decide) (hC.B.l 26 (by decide) rfl) nI_0.symm (by decide) ?_
  refine mj_aload_n (pc' := 29) C dX6_goAll_28 rfl rfl ?_
  refine mj_getR (pc' := 32) C dX6_goAll_29 rfl (ci := 6) (f := 27) rfl (by decide) (by decide) (fun _ => rfl) (by decide) kf_X6_92 hC.B.l0 (hC.B.p 27 (by decide) rfl) ?_
  refine mj_iconst (pc' := 33) (v := 0) C dX6_goAll_32 rfl rfl ?_
  refine mj_iconst (pc' := 34) (v := 0) C dX6_goAll_33 rfl rfl ?_
  refine mj_iast (pc' := 35) C dX6_goAll_34 rfl rfl (by decide) (by decide) (hC.B.l 27 (by decide) rfl) nI_0.symm (by decide) ?_
  refine mj_aload_n (pc' := 36) C dX6_goAll_35 rfl rfl ?_
  refine mj_getR (pc' := 39) C dX6_goAll_36 rfl (ci := 6) (f := 28) rfl (by decide) (by decide) (fun _ => rfl) (by decide) kf_X6_95 hC.B.l0 (hC.B.p 28 (by decide) rfl) ?_
  refine mj_iload_n (pc' := 40) C dX6_goAll_39 rfl rfl ?_
  refine mj_iconst (pc' := 41) (v := 1) C dX6_goAll_40 rfl rfl ?_
  refine mj_zast (pc' := 42) C dX6_goAll_41 rfl rfl (by decide) (by decide) rfl (hC.B.l 28 (by decide) rfl) rfl (by omega) ?_
  generalize e1 : (sI (sI (sI (sI (sI μ0 45 0 0 (nI a)) 46 0 0 1000) 47 0 0 0) 48 0 0 0) 49 0 a 1) = μ1
  have o1 : oG (zQ go a 0) μ0 μ1 := by rw [← e1]; exact oG_sI (Or.inr (Or.inr rfl)) (oG_sI (Or.inr (Or.inl ⟨by omega, Nat.zero_le _⟩)) (oG_sI (Or.inr (Or.inl ⟨by omega, Nat.zero_le _⟩)) (oG_sI (Or.inr (Or.inl ⟨by omega, Nat.zero_le _⟩)) (oG_sI (Or.inr (Or.inl ⟨by omega, Nat.zero_le _⟩)) oG.rf))))
  have x45 : mI μ1 45 0 0 = nI a := by rw [← e1, mI_sI_n _ _ _ _ _ (by omega), mI_sI_n _ _ _ _ _ (by omega), mI_sI_n _ _ _ _ _ (by omega), mI_sI_n _ _ _ _ _ (by omega), mI_sI_s]
  have x46 : mI μ1 46 0 0 = 1000 := by rw [← e1, mI_sI_n _ _ _ _ _ (by omega), mI_sI_n _ _ _ _ _ (by omega), mI_sI_n _ _ _ _ _ (by omega), mI_sI_s]
  have x47 : mI μ1 47 0 0 = 0 := by rw [← e1, mI_sI_n _ _ _ _ _ (by omega), mI_sI_n _ _ _ _ _ (by omega), mI_sI_s]
  have x48 : mI μ1 48 0 0 = 0 := by rw [← e1, mI_sI_n _ _ _ _ _ (by omega), mI_sI_s]
  have x49 : ∀ j, mI μ1 49 0 j = if j = a then 1 else mI μ0 49 0 j := fun j => by
    rw [← e1, mI_sI, mI_sI_n _ _ _ _ _ (by omega), mI_sI_n _ _ _ _ _ (by omega), mI_sI_n _ _ _ _ _ (by omega), mI_sI_n _ _ _ _ _ (by omega)]
    by_cases e : j = a
    · rw [if_pos ⟨rfl, rfl, e⟩, if_pos e]
    · rw [if_neg (fun q => e q.2.2), if_neg e]
  have x43 : ∀ kd z, kd < 44 → mI μ1 kd 0 z = mI μ0 kd 0 z := fun kd z h => by rw [← e1, mI_sI_n _ _ _ _ _ (by omega), mI_sI_n _ _ _ _ _ (by omega), mI_sI_n _ _ _ _ _ (by omega), mI_sI_n _ _ _ _ _ (by omega), mI_sI_n _ _ _ _ _ (by omega)]
  clear e1
  refine main 9 a [] (T, -1) μ1 _ rfl ha rfl (hC.to (o1.up (fun _ _ _ q => zQ_g q))) x45 x46 x47 x48 (fun i hi => absurd hi (Nat.not_lt_zero i)) (fun j hj => ?_) (fun h => ?_) (fun μ2 c52 hG2 hon2 ht2 => ?_)
  · rw [x49]
    by_cases e : j = a
    · subst e
      rw [if_pos rfl]
      exact (b1_t (List.mem_singleton.mpr rfl)).symm
    · rw [if_neg e, hz0 j hj]
      exact (b1_f (fun q => e (List.mem_singleton.mp q))).symm
  · exact mTab_same (hT0 h) (fun kd z hq => x43 kd z (by unfold tQ at hq; omega))
  · refine mj_iload_n (pc' := 43) C dX6_goAll_42 rfl rfl ?_
    refine mj_if_lt (tgt := 268) (pc' := 46) C dX6_goAll_43 (by decide) rfl (fun _ => ?_) (fun h9 => absurd (by decide) h9)
    refine mj_iload (pc' := 270) C dX6_goAll_268 rfl rfl ?_
    refine mj_iret C dX6_goAll_270 (by decide) (by exact Nat.le_refl _) (by exact Nat.le_refl _) ?_
    refine ⟨rfl, o1.tr hG2, (fun j hj => ?_), ht2⟩
    rw [hon2 j hj, x49]
    by_cases e : j = a
    · rw [if_pos e]
    · rw [if_neg e, if_neg e, hz0 j hj]
