/-! CALLS BY CONTRACT, ENDS, THROWS, ENTRIES -/
section JCALL
variable {l : Launch} {J : Nat → List (Option jV) → List jV → jM → Nat → Nat → Prop} {cc : ByteArray} {nL : Nat} {own : String} {R : Room} {rt : Option FieldType} {md : Nat} {hh : List (Nat × Nat × Nat × Nat)} {ret : Option jV → jM → Prop} {thr : String → jM → Prop} {mc ms : Nat}
variable {pc pc' : Nat} {L : List (Option jV)} {st : List jV} {μ : jM} {k n : Nat}
theorem jPc_blind {D : va_G} {cm : FieldType → ClassId} {ad : Nat → Nat → Nat} {avs : List jV} {sz : Nat} : FrameBlind (jPc D cm ad μ avs sz) := fun a U g mk q => ⟨q.1, q.2.1, q.2.2.1, q.2.2.2.moved (U := U.calling g mk a) (State.WarmedH.refl U) (fun _ _ _ => rfl) (fun _ h => h)⟩
theorem jGoodIn {ws : List Cond} (h : ∀ w ∈ ws, w ∈ jWL ∧ goodWord w = true) : GoodIn jWL ws := fun w hw => ⟨(h w hw).1, good_of_word (h w hw).2⟩
section CORE
variable {p : Program} {e : Env} {s : State} {m : MethodId} {args : Array Value} {below : List Frame} {meth : Method} {c : Code} {H : Heap} {locs : List Loc} {Q : State → Prop} {D : va_G} {cm : FieldType → ClassId} {ad0 ad : Nat → Nat → Nat} {μ0 : jM} {ls : Array Slot} {st0 : List Value} {mc' ms' : Nat} {post : Option jV → jM → Prop} {thr' : String → jM → Prop} {a : Array Value}
theorem jx_back {st₀ t T' : State} {L9 : List Loc} {ad' : Nat → Nat → Nat} {μ' : jM} (h0 : st₀.heap = H) (e1 : T'.heap = t.heap) (hX : jX ad0 μ0 s.heap.size ad μ) (hS : va_S (jA ad0 μ0 s.heap.size) s.heap H locs) (hL9 : ∀ q ∈ L9, jA ad μ H.size q.base) (hT' : jT D cm ad' μ' t.heap) (hX' : jX ad μ st₀.heap.size ad' μ') (hF : va_F (jA ad μ st₀.heap.size) st₀ t) :
    jT D cm ad' μ' T'.heap ∧ jX ad0 μ0 s.heap.size ad' μ' ∧ va_S (jA ad0 μ0 s.heap.size) s.heap T'.heap (locs ++ L9) := by
  have hsub := hX.sub hS.1
  rw [h0] at hX'
  obtain ⟨k1, k2, k3⟩ := vx_keep h0 e1 hS (fun q _ h => hsub q (by rw [h0] at h; exact h)) hsub hL9 hF
  exact ⟨by rw [e1]; exact hT', hX.tr hX' hS.1, k3⟩
theorem jx_st {r : Option jV} {ad' : Nat → Nat → Nat} (ha : ∀ kd i, i < mN μ kd → ad' kd i = ad kd i) (hs : ∀ v ∈ st, jL μ v) : (r.toList ++ st).map (jc ad') = (r.map (jc ad')).toList ++ st.map (jc ad) := by
  rw [List.map_append, jcs_same ha hs]
  cases r <;> rfl
theorem jx_cl {r : Option jV} {μ' : jM} (hm : ∀ x, mN μ x ≤ mN μ' x) (hr : ∀ v ∈ r, jL μ' v) (hs : ∀ v ∈ st, jL μ v) : ∀ v ∈ r.toList ++ st, jL μ' v := fun v hv => by
  rcases List.mem_append.mp hv with h | h
  · exact hr v (by simpa using h)
  · exact jL_mono hm v (hs v h)
theorem jx_run (hr : va_Run p l e R s m args below meth c H locs k n mc' ms' (F0 m pc ls st0) (st.map (jc ad)) (jQ D cm ad μ post a) (jA ad μ H.size)) (hX : jX ad0 μ0 s.heap.size ad μ) (hS : va_S (jA ad0 μ0 s.heap.size) s.heap H locs) (hL : ∀ v, some v ∈ L → jL μ v) (hs : ∀ v ∈ st, jL μ v) (hl : lv_has ls nL (jLs ad 0 L))
    (K : ∀ r μ', post r μ' → (∀ x, mN μ x ≤ mN μ' x) → jJ p l e R s m args below meth c D cm ad0 μ0 nL Q (pc + 3) L (r.toList ++ st) μ' (k + mc') (n + ms')) : W p l e R s m args below meth c H locs k n Q (F0 m pc ls st0) := by
  intro T hT9 Xs
  obtain ⟨v, st₀, t, T', L9, h0, X', hL9, e1, e2, ⟨r, ad', μ', hv, hq, hT', hX', hr', hF⟩, stp⟩ := hr T hT9 Xs
  obtain ⟨k1, k2, k3⟩ := jx_back h0 e1 hX hS hL9 hT' hX' hF
  have ev : v = r.map (jc ad') := Outcome.returned.inj hv
  subst ev
  have k0 := K r μ' hq hX'.1 ad' T'.heap (locs ++ L9) ls k1 k2 k3 (fun v hv => jL_mono hX'.1 v (hL v hv)) (jx_cl hX'.1 hr' hs) (by rw [jLs_same hX'.2.1 L 0 hL]; exact hl)
  rw [jx_st hX'.2.1 hs] at k0
  obtain ⟨t2, a1, b1⟩ := k0 T' rfl X'
  exact ⟨t2, stp t2 a1, b1⟩
theorem jx_vrun (hr : vx_Run p l e R s m args below meth c H locs k n mc' ms' (F0 m pc ls st0) (st.map (jc ad)) (jQ D cm ad μ post a) (jXC D cm ad μ thr') (jA ad μ H.size)) (hX : jX ad0 μ0 s.heap.size ad μ) (hS : va_S (jA ad0 μ0 s.heap.size) s.heap H locs) (hL : ∀ v, some v ∈ L → jL μ v) (hs : ∀ v ∈ st, jL μ v) (hl : lv_has ls nL (jLs ad 0 L))
    (K : ∀ r μ', post r μ' → (∀ x, mN μ x ≤ mN μ' x) → jJ p l e R s m args below meth c D cm ad0 μ0 nL Q (pc + 3) L (r.toList ++ st) μ' (k + mc') (n + ms'))
    (KX : ∀ E ce q9 ad' μ' H1 locs1, thr' E μ' → jT D cm ad' μ' H1 → jX ad0 μ0 s.heap.size ad' μ' → va_S (jA ad0 μ0 s.heap.size) s.heap H1 locs1 → (∀ v, some v ∈ L → jL μ' v) → lv_has ls nL (jLs ad' 0 L) → H1[q9]? = some ce → ce.vm = .none → s.vm.findClass E = some ce.cls → vx_W p l e R s m args below meth c H1 locs1 (k + mc') (n + ms') Q (F0 m pc ls (st.map (jc ad))) q9) : W p l e R s m args below meth c H locs k n Q (F0 m pc ls st0) := by
  intro T hT9 Xs
  rcases hr T hT9 Xs with ⟨v, st₀, t, T', L9, h0, X', hL9, e1, e2, ⟨r, ad', μ', hv, hq, hT', hX', hr', hF⟩, stp⟩ | ⟨q9, st₀, t, T', L9, E, ce, h0, X', hL9, e1, e2, ⟨ad', μ', hq, hT', hX', hF⟩, hce, hcv, hcl, stp⟩
  · obtain ⟨k1, k2, k3⟩ := jx_back h0 e1 hX hS hL9 hT' hX' hF
    have ev : v = r.map (jc ad') := Outcome.returned.inj hv
    subst ev
    have k0 := K r μ' hq hX'.1 ad' T'.heap (locs ++ L9) ls k1 k2 k3 (fun v hv => jL_mono hX'.1 v (hL v hv)) (jx_cl hX'.1 hr' hs) (by rw [jLs_same hX'.2.1 L 0 hL]; exact hl)
    rw [jx_st hX'.2.1 hs] at k0
    obtain ⟨t2, a1, b1⟩ := k0 T' rfl X'
    exact ⟨t2, stp t2 a1, b1⟩
  · obtain ⟨k1, k2, k3⟩ := jx_back h0 e1 hX hS hL9 hT' hX' hF
    obtain ⟨t2, a1, b1⟩ := KX E ce q9 ad' μ' T'.heap (locs ++ L9) hq k1 k2 k3 (fun v hv => jL_mono hX'.1 v (hL v hv)) (by rw [jLs_same hX'.2.1 L 0 hL]; exact hl) (by rw [e1]; exact hce) hcv hcl T' rfl X'
    exact ⟨t2, stp.trans a1, b1⟩
theorem jx_pre (hU : jU D cm (jA ad0 μ0 s.heap.size) s) (hT : jT D cm ad μ H) (hX : jX ad0 μ0 s.heap.size ad μ) (hS : va_S (jA ad0 μ0 s.heap.size) s.heap H locs) (avs : List jV) : ∀ U : State, U.heap = H → s.WarmedH U.vm → jPc D cm ad μ avs H.size (avs.map (jc ad)).toArray U := fun U hUh hW =>
  ⟨rfl, by rw [hUh], by rw [hUh]; exact hT, hU.moved hW (fun q h1 h2 => by rw [hUh]; exact hS.2.1 q h1 h2) (hX.sub hS.1)⟩
theorem jx_out (hE : jEnd 0 hh l s args below meth c D cm ad0 μ0 Q ret thr mc ms) (hlk : meth.locks = false) {E : String} {ce : Cell} {q9 : Addr} {ad' : Nat → Nat → Nat} {μ' : jM} {H1 : Heap} {locs1 : List Loc} {k' n' : Nat} {st9 : List Value} (ht : thr E μ') (k1 : jT D cm ad' μ' H1) (k2 : jX ad0 μ0 s.heap.size ad' μ') (k3 : va_S (jA ad0 μ0 s.heap.size) s.heap H1 locs1) (hce : H1[q9]? = some ce) (hcv : ce.vm = .none) (hcl : s.vm.findClass E = some ce.cls) (hk : k' ≤ mc) (hn : n' ≤ ms) : vx_W p l e R s m args below meth c H1 locs1 k' n' Q (F0 m pc ls st9) q9 := by
  obtain ⟨-, htab, rfl⟩ := hE
  exact vx_out (fun x hx => (htab x hx).elim) hlk hce hcv hcl (fun t ht9 _ => ⟨ad', μ', ht, by rw [ht9]; exact k1, k2, k3.F ht9⟩) k3.2.2 hk hn
end CORE
/-- how a throw of E at pc is caught here: the rows ahead that don't take it, the row that does, the store with which its handler begins, the walk from there -/
def jCatch (J : Nat → List (Option jV) → List jV → jM → Nat → Nat → Prop) (cc : ByteArray) (nL : Nat) (own : String) (hh : List (Nat × Nat × Nat × Nat)) (pc : Nat) (L : List (Option jV)) (k n : Nat) (E : String) (μ : jM) : Prop :=
  ∃ (pre : List (Nat × Nat × Nat × Nat)) (x : Nat × Nat × Nat × Nat) (suf : List (Nat × Nat × Nat × Nat)) (i len : Nat), hh = pre ++ x :: suf ∧ (∀ z ∈ pre, z.2.2.2 ≠ 0 ∧ ∃ nm : String, Cond.classLink own z.2.2.2 nm ∈ jWL ∧ (E, nm) ∈ ([("java/lang/IllegalArgumentException", "java/lang/IndexOutOfBoundsException"), ("java/lang/IllegalStateException", "java/lang/IndexOutOfBoundsException"), ("java/lang/IllegalStateException", "java/lang/IllegalArgumentException")] : List (String × String))) ∧
    (x.1 ≤ pc ∧ pc < x.2.1) ∧ x.2.2.2 ≠ 0 ∧ Cond.classLink own x.2.2.2 E ∈ jWL ∧ Cond.castable E E ∈ jWL ∧ i < nL ∧ i < L.length ∧ (∀ j w, j + 1 = i → L[j]? = some (some w) → jcat w ≠ 2) ∧
    ((decode cc x.2.2.1 = .ok (.astore i, 2) ∧ len = 2) ∨ (∃ k9 : Fin 4, decode cc x.2.2.1 = .ok (.astore_n k9, 1) ∧ (k9 : Nat) = i ∧ len = 1)) ∧ J (x.2.2.1 + len) (L.set i none) [] μ k n
theorem mj_callVXG (C : jCtx l J cc nL own R rt 0 hh ret thr mc ms) {y : MethodName} {bytes : ByteArray} {maxL : Nat} {rt' : Option FieldType} {fr lo mc' ms' : Nat} {pre : List jV → jM → Prop} {post : List jV → jM → Option jV → jM → Prop} {thr' : List jV → jM → String → jM → Prop} (hM : jMet l y bytes maxL rt' fr lo mc' ms' pre post thr') {idx kd i ci : Nat} {avs : List jV} (hdg : decode cc pc = .ok (.invokevirtual idx, 3)) (hp : pc + 3 = pc') (hw1 : Cond.methodLink own idx y ∈ jWL) (hw2 : Cond.instanceMethod y ∈ jWL) (hw3 : Cond.selects (jNm ci) y y ∈ jWL) (hw4 : Cond.initialized (jNm ci) ∈ jWL) (hw5 : Cond.code y bytes maxL rt' ∈ jWL) (hsh : jSh kd = .inl ci) (hc : ci < 6) (h61 : kd ≠ 61) (hd : y.cls = jNm ci ∧ y.cls ≠ "java/lang/invoke/MethodHandle" ∧ y.cls ≠ "java/lang/invoke/VarHandle" ∧ (parseMethodDescriptor y.desc).map (fun d => d.parameters.length) = some avs.length) (hR : fr + 1 ≤ R.frames ∧ 8 + (maxL + 11) + lo ≤ R.locals) (hcat : (st.map jcat).sum ≤ 8) (hroom : k + mc' ≤ R.cells ∧ n + ms' ≤ R.slots)
    (hpre : pre (aR kd i :: avs) μ) (K : ∀ r μ', post (aR kd i :: avs) μ r μ' → (∀ x, mN μ x ≤ mN μ' x) → J pc' L (r.toList ++ st) μ' (k + mc') (n + ms')) (KX : ∀ E μ', thr' (aR kd i :: avs) μ E μ' → thr E μ') (hmc : k + mc' ≤ mc) (hms : n + ms' ≤ ms) : J pc L (avs.reverse ++ aR kd i :: st) μ k n := by
  obtain ⟨p, e, s, m, args, below, meth, c, D, cm, ad0, μ0, Q, rfl, hx, hb, hml, hrt, hown, hlk, hU, hE⟩ := C
  subst hp
  intro ad H locs ls hT hX hS hL hs9 hl
  have hsp : ∀ v ∈ st, jL μ v := fun v hv => hs9 v (List.mem_append_right _ (List.mem_cons_of_mem _ hv))

  have hrec : i < mN μ kd := hs9 (aR kd i) (List.mem_append_right _ List.mem_cons_self)
  have hav : ∀ v ∈ aR kd i :: avs, jL μ v := fun v hv => by
    rcases List.mem_cons.mp hv with rfl | h
    · exact hrec
    · exact hs9 v (List.mem_append_left _ (List.mem_reverse.mpr h))
  obtain ⟨cell, q1, q2, q3, q4⟩ := jAt_obj (hT.1 kd i h61 hrec) hsh
  have hcls := (hU.1.1 ci _ (jCl_at hc)).2
  have hr := vx_runV (meth := meth) (below := below) (args := args) (e := e) (g := F0 m pc ls ((avs.reverse ++ aR kd i :: st).map (jc ad))) (locs := locs) (slots := n) (b := ad kd i) (As := avs.map (jc ad)) (rest := st.map (jc ad)) ⟨hx, hb, hml, hown, fun w h => hU.w h⟩ (hM D cm ad μ (aR kd i :: avs) H.size hav hpre) (cwV (own := own) (C := jNm ci) (index := idx) (y := y) (bytes := bytes) (maxL := maxL) (ret := rt') avs.length (fun w h => hU.w h) (jGoodIn (fun w hw => by
      simp only [wsV, List.cons_append, List.nil_append, List.mem_cons, List.not_mem_nil, or_false] at hw
      rcases hw with rfl | rfl | rfl | rfl | rfl
      · exact ⟨hw1, rfl⟩
      · exact ⟨hw2, rfl⟩
      · exact ⟨hw3, rfl⟩
      · exact ⟨hw4, rfl⟩
      · exact ⟨hw5, rfl⟩)) rfl rfl rfl hd hR) ⟨jPc_blind, ⟨cell, q1, by rw [q3]; rfl, by rw [q2]; exact hcls.1⟩, jx_pre hU hT hX hS (aR kd i :: avs)⟩ rfl (by simp) hl.1 (by simp [jc]) (lv_room (by rw [jc_cats]; exact hcat)) hdg hroom

  exact jx_vrun hr hX hS hL hsp hl (fun r μ' hq hm => K r μ' hq hm) (fun E ce q9 ad' μ' H1 locs1 ht k1 k2 k3 _ _ hce hcv hcl => jx_out hE hlk (KX E μ' ht) k1 k2 k3 hce hcv hcl hmc hms)

theorem mj_callVX_0 (C : jCtx l J cc nL own R rt 0 hh ret thr mc ms) {y : MethodName} {bytes : ByteArray} {maxL : Nat} {rt' : Option FieldType} {fr lo mc' ms' : Nat} {pre : List jV → jM → Prop} {post : List jV → jM → Option jV → jM → Prop} {thr' : List jV → jM → String → jM → Prop} (hM : jMet l y bytes maxL rt' fr lo mc' ms' pre post thr') {idx kd i ci : Nat}  (hdg : decode cc pc = .ok (.invokevirtual idx, 3)) (hp : pc + 3 = pc') (hw1 : Cond.methodLink own idx y ∈ jWL) (hw2 : Cond.instanceMethod y ∈ jWL) (hw3 : Cond.selects (jNm ci) y y ∈ jWL) (hw4 : Cond.initialized (jNm ci) ∈ jWL) (hw5 : Cond.code y bytes maxL rt' ∈ jWL) (hsh : jSh kd = .inl ci) (hc : ci < 6) (h61 : kd ≠ 61) (hd : y.cls = jNm ci ∧ y.cls ≠ "java/lang/invoke/MethodHandle" ∧ y.cls ≠ "java/lang/invoke/VarHandle" ∧ (parseMethodDescriptor y.desc).map (fun d => d.parameters.length) = some 0) (hR : fr + 1 ≤ R.frames ∧ 8 + (maxL + 11) + lo ≤ R.locals) (hcat : (st.map jcat).sum ≤ 8) (hroom : k + mc' ≤ R.cells ∧ n + ms' ≤ R.slots)
    (hpre : pre (aR kd i :: []) μ) (K : ∀ r μ', post (aR kd i :: []) μ r μ' → (∀ x, mN μ x ≤ mN μ' x) → J pc' L (r.toList ++ st) μ' (k + mc') (n + ms')) (KX : ∀ E μ', thr' (aR kd i :: []) μ E μ' → thr E μ') (hmc : k + mc' ≤ mc) (hms : n + ms' ≤ ms) : J pc L (aR kd i :: st) μ k n :=
  mj_callVXG C hM (avs := []) hdg hp hw1 hw2 hw3 hw4 hw5 hsh hc h61 hd hR hcat hroom hpre K KX hmc hms

theorem mj_callVX_1 (C : jCtx l J cc nL own R rt 0 hh ret thr mc ms) {y : MethodName} {bytes : ByteArray} {maxL : Nat} {rt' : Option FieldType} {fr lo mc' ms' : Nat} {pre : List jV → jM → Prop} {post : List jV → jM → Option jV → jM → Prop} {thr' : List jV → jM → String → jM → Prop} (hM : jMet l y bytes maxL rt' fr lo mc' ms' pre post thr') {idx kd i ci : Nat} {v1 : jV} (hdg : decode cc pc = .ok (.invokevirtual idx, 3)) (hp : pc + 3 = pc') (hw1 : Cond.methodLink own idx y ∈ jWL) (hw2 : Cond.instanceMethod y ∈ jWL) (hw3 : Cond.selects (jNm ci) y y ∈ jWL) (hw4 : Cond.initialized (jNm ci) ∈ jWL) (hw5 : Cond.code y bytes maxL rt' ∈ jWL) (hsh : jSh kd = .inl ci) (hc : ci < 6) (h61 : kd ≠ 61) (hd : y.cls = jNm ci ∧ y.cls ≠ "java/lang/invoke/MethodHandle" ∧ y.cls ≠ "java/lang/invoke/VarHandle" ∧ (parseMethodDescriptor y.desc).map (fun d => d.parameters.length) = some 1) (hR : fr + 1 ≤ R.frames ∧ 8 + (maxL + 11) + lo ≤ R.locals) (hcat : (st.map jcat).sum ≤ 8) (hroom : k + mc' ≤ R.cells ∧ n + ms' ≤ R.slots)
    (hpre : pre (aR kd i :: [v1]) μ) (K : ∀ r μ', post (aR kd i :: [v1]) μ r μ' → (∀ x, mN μ x ≤ mN μ' x) → J pc' L (r.toList ++ st) μ' (k + mc') (n + ms')) (KX : ∀ E μ', thr' (aR kd i :: [v1]) μ E μ' → thr E μ') (hmc : k + mc' ≤ mc) (hms : n + ms' ≤ ms) : J pc L (v1 :: aR kd i :: st) μ k n :=
  mj_callVXG C hM (avs := [v1]) hdg hp hw1 hw2 hw3 hw4 hw5 hsh hc h61 hd hR hcat hroom hpre K KX hmc hms

theorem mj_callVX_2 (C : jCtx l J cc nL own R rt 0 hh ret thr mc ms) {y : MethodName} {bytes : ByteArray} {maxL : Nat} {rt' : Option FieldType} {fr lo mc' ms' : Nat} {pre : List jV → jM → Prop} {post : List jV → jM → Option jV → jM → Prop} {thr' : List jV → jM → String → jM → Prop} (hM : jMet l y bytes maxL rt' fr lo mc' ms' pre post thr') {idx kd i ci : Nat} {v1 v2 : jV} (hdg : decode cc pc = .ok (.invokevirtual idx, 3)) (hp : pc + 3 = pc') (hw1 : Cond.methodLink own idx y ∈ jWL) (hw2 : Cond.instanceMethod y ∈ jWL) (hw3 : Cond.selects (jNm ci) y y ∈ jWL) (hw4 : Cond.initialized (jNm ci) ∈ jWL) (hw5 : Cond.code y bytes maxL rt' ∈ jWL) (hsh : jSh kd = .inl ci) (hc : ci < 6) (h61 : kd ≠ 61) (hd : y.cls = jNm ci ∧ y.cls ≠ "java/lang/invoke/MethodHandle" ∧ y.cls ≠ "java/lang/invoke/VarHandle" ∧ (parseMethodDescriptor y.desc).map (fun d => d.parameters.length) = some 2) (hR : fr + 1 ≤ R.frames ∧ 8 + (maxL + 11) + lo ≤ R.locals) (hcat : (st.map jcat).sum ≤ 8) (hroom : k + mc' ≤ R.cells ∧ n + ms' ≤ R.slots)
    (hpre : pre (aR kd i :: [v1, v2]) μ) (K : ∀ r μ', post (aR kd i :: [v1, v2]) μ r μ' → (∀ x, mN μ x ≤ mN μ' x) → J pc' L (r.toList ++ st) μ' (k + mc') (n + ms')) (KX : ∀ E μ', thr' (aR kd i :: [v1, v2]) μ E μ' → thr E μ') (hmc : k + mc' ≤ mc) (hms : n + ms' ≤ ms) : J pc L (v2 :: v1 :: aR kd i :: st) μ k n :=
  mj_callVXG C hM (avs := [v1, v2]) hdg hp hw1 hw2 hw3 hw4 hw5 hsh hc h61 hd hR hcat hroom hpre K KX hmc hms

theorem mj_callVX_3 (C : jCtx l J cc nL own R rt 0 hh ret thr mc ms) {y : MethodName} {bytes : ByteArray} {maxL : Nat} {rt' : Option FieldType} {fr lo mc' ms' : Nat} {pre : List jV → jM → Prop} {post : List jV → jM → Option jV → jM → Prop} {thr' : List jV → jM → String → jM → Prop} (hM : jMet l y bytes maxL rt' fr lo mc' ms' pre post thr') {idx kd i ci : Nat} {v1 v2 v3 : jV} (hdg : decode cc pc = .ok (.invokevirtual idx, 3)) (hp : pc + 3 = pc') (hw1 : Cond.methodLink own idx y ∈ jWL) (hw2 : Cond.instanceMethod y ∈ jWL) (hw3 : Cond.selects (jNm ci) y y ∈ jWL) (hw4 : Cond.initialized (jNm ci) ∈ jWL) (hw5 : Cond.code y bytes maxL rt' ∈ jWL) (hsh : jSh kd = .inl ci) (hc : ci < 6) (h61 : kd ≠ 61) (hd : y.cls = jNm ci ∧ y.cls ≠ "java/lang/invoke/MethodHandle" ∧ y.cls ≠ "java/lang/invoke/VarHandle" ∧ (parseMethodDescriptor y.desc).map (fun d => d.parameters.length) = some 3) (hR : fr + 1 ≤ R.frames ∧ 8 + (maxL + 11) + lo ≤ R.locals) (hcat : (st.map jcat).sum ≤ 8) (hroom : k + mc' ≤ R.cells ∧ n + ms' ≤ R.slots)
    (hpre : pre (aR kd i :: [v1, v2, v3]) μ) (K : ∀ r μ', post (aR kd i :: [v1, v2, v3]) μ r μ' → (∀ x, mN μ x ≤ mN μ' x) → J pc' L (r.toList ++ st) μ' (k + mc') (n + ms')) (KX : ∀ E μ', thr' (aR kd i :: [v1, v2, v3]) μ E μ' → thr E μ') (hmc : k + mc' ≤ mc) (hms : n + ms' ≤ ms) : J pc L (v3 :: v2 :: v1 :: aR kd i :: st) μ k n :=
  mj_callVXG C hM (avs := [v1, v2, v3]) hdg hp hw1 hw2 hw3 hw4 hw5 hsh hc h61 hd hR hcat hroom hpre K KX hmc hms

theorem mj_callVX_4 (C : jCtx l J cc nL own R rt 0 hh ret thr mc ms) {y : MethodName} {bytes : ByteArray} {maxL : Nat} {rt' : Option FieldType} {fr lo mc' ms' : Nat} {pre : List jV → jM → Prop} {post : List jV → jM → Option jV → jM → Prop} {thr' : List jV → jM → String → jM → Prop} (hM : jMet l y bytes maxL rt' fr lo mc' ms' pre post thr') {idx kd i ci : Nat} {v1 v2 v3 v4 : jV} (hdg : decode cc pc = .ok (.invokevirtual idx, 3)) (hp : pc + 3 = pc') (hw1 : Cond.methodLink own idx y ∈ jWL) (hw2 : Cond.instanceMethod y ∈ jWL) (hw3 : Cond.selects (jNm ci) y y ∈ jWL) (hw4 : Cond.initialized (jNm ci) ∈ jWL) (hw5 : Cond.code y bytes maxL rt' ∈ jWL) (hsh : jSh kd = .inl ci) (hc : ci < 6) (h61 : kd ≠ 61) (hd : y.cls = jNm ci ∧ y.cls ≠ "java/lang/invoke/MethodHandle" ∧ y.cls ≠ "java/lang/invoke/VarHandle" ∧ (parseMethodDescriptor y.desc).map (fun d => d.parameters.length) = some 4) (hR : fr + 1 ≤ R.frames ∧ 8 + (maxL + 11) + lo ≤ R.locals) (hcat : (st.map jcat).sum ≤ 8) (hroom : k + mc' ≤ R.cells ∧ n + ms' ≤ R.slots)
    (hpre : pre (aR kd i :: [v1, v2, v3, v4]) μ) (K : ∀ r μ', post (aR kd i :: [v1, v2, v3, v4]) μ r μ' → (∀ x, mN μ x ≤ mN μ' x) → J pc' L (r.toList ++ st) μ' (k + mc') (n + ms')) (KX : ∀ E μ', thr' (aR kd i :: [v1, v2, v3, v4]) μ E μ' → thr E μ') (hmc : k + mc' ≤ mc) (hms : n + ms' ≤ ms) : J pc L (v4 :: v3 :: v2 :: v1 :: aR kd i :: st) μ k n :=
  mj_callVXG C hM (avs := [v1, v2, v3, v4]) hdg hp hw1 hw2 hw3 hw4 hw5 hsh hc h61 hd hR hcat hroom hpre K KX hmc hms

theorem mj_callVX_5 (C : jCtx l J cc nL own R rt 0 hh ret thr mc ms) {y : MethodName} {bytes : ByteArray} {maxL : Nat} {rt' : Option FieldType} {fr lo mc' ms' : Nat} {pre : List jV → jM → Prop} {post : List jV → jM → Option jV → jM → Prop} {thr' : List jV → jM → String → jM → Prop} (hM : jMet l y bytes maxL rt' fr lo mc' ms' pre post thr') {idx kd i ci : Nat} {v1 v2 v3 v4 v5 : jV} (hdg : decode cc pc = .ok (.invokevirtual idx, 3)) (hp : pc + 3 = pc') (hw1 : Cond.methodLink own idx y ∈ jWL) (hw2 : Cond.instanceMethod y ∈ jWL) (hw3 : Cond.selects (jNm ci) y y ∈ jWL) (hw4 : Cond.initialized (jNm ci) ∈ jWL) (hw5 : Cond.code y bytes maxL rt' ∈ jWL) (hsh : jSh kd = .inl ci) (hc : ci < 6) (h61 : kd ≠ 61) (hd : y.cls = jNm ci ∧ y.cls ≠ "java/lang/invoke/MethodHandle" ∧ y.cls ≠ "java/lang/invoke/VarHandle" ∧ (parseMethodDescriptor y.desc).map (fun d => d.parameters.length) = some 5) (hR : fr + 1 ≤ R.frames ∧ 8 + (maxL + 11) + lo ≤ R.locals) (hcat : (st.map jcat).sum ≤ 8) (hroom : k + mc' ≤ R.cells ∧ n + ms' ≤ R.slots)
    (hpre : pre (aR kd i :: [v1, v2, v3, v4, v5]) μ) (K : ∀ r μ', post (aR kd i :: [v1, v2, v3, v4, v5]) μ r μ' → (∀ x, mN μ x ≤ mN μ' x) → J pc' L (r.toList ++ st) μ' (k + mc') (n + ms')) (KX : ∀ E μ', thr' (aR kd i :: [v1, v2, v3, v4, v5]) μ E μ' → thr E μ') (hmc : k + mc' ≤ mc) (hms : n + ms' ≤ ms) : J pc L (v5 :: v4 :: v3 :: v2 :: v1 :: aR kd i :: st) μ k n :=
  mj_callVXG C hM (avs := [v1, v2, v3, v4, v5]) hdg hp hw1 hw2 hw3 hw4 hw5 hsh hc h61 hd hR hcat hroom hpre K KX hmc hms

theorem mj_callVX_6 (C : jCtx l J cc nL own R rt 0 hh ret thr mc ms) {y : MethodName} {bytes : ByteArray} {maxL : Nat} {rt' : Option FieldType} {fr lo mc' ms' : Nat} {pre : List jV → jM → Prop} {post : List jV → jM → Option jV → jM → Prop} {thr' : List jV → jM → String → jM → Prop} (hM : jMet l y bytes maxL rt' fr lo mc' ms' pre post thr') {idx kd i ci : Nat} {v1 v2 v3 v4 v5 v6 : jV} (hdg : decode cc pc = .ok (.invokevirtual idx, 3)) (hp : pc + 3 = pc') (hw1 : Cond.methodLink own idx y ∈ jWL) (hw2 : Cond.instanceMethod y ∈ jWL) (hw3 : Cond.selects (jNm ci) y y ∈ jWL) (hw4 : Cond.initialized (jNm ci) ∈ jWL) (hw5 : Cond.code y bytes maxL rt' ∈ jWL) (hsh : jSh kd = .inl ci) (hc : ci < 6) (h61 : kd ≠ 61) (hd : y.cls = jNm ci ∧ y.cls ≠ "java/lang/invoke/MethodHandle" ∧ y.cls ≠ "java/lang/invoke/VarHandle" ∧ (parseMethodDescriptor y.desc).map (fun d => d.parameters.length) = some 6) (hR : fr + 1 ≤ R.frames ∧ 8 + (maxL + 11) + lo ≤ R.locals) (hcat : (st.map jcat).sum ≤ 8) (hroom : k + mc' ≤ R.cells ∧ n + ms' ≤ R.slots)
    (hpre : pre (aR kd i :: [v1, v2, v3, v4, v5, v6]) μ) (K : ∀ r μ', post (aR kd i :: [v1, v2, v3, v4, v5, v6]) μ r μ' → (∀ x, mN μ x ≤ mN μ' x) → J pc' L (r.toList ++ st) μ' (k + mc') (n + ms')) (KX : ∀ E μ', thr' (aR kd i :: [v1, v2, v3, v4, v5, v6]) μ E μ' → thr E μ') (hmc : k + mc' ≤ mc) (hms : n + ms' ≤ ms) : J pc L (v6 :: v5 :: v4 :: v3 :: v2 :: v1 :: aR kd i :: st) μ k n :=
  mj_callVXG C hM (avs := [v1, v2, v3, v4, v5, v6]) hdg hp hw1 hw2 hw3 hw4 hw5 hsh hc h61 hd hR hcat hroom hpre K KX hmc hms

theorem mj_callVNG (C : jCtx l J cc nL own R rt md hh ret thr mc ms) {y : MethodName} {bytes : ByteArray} {maxL : Nat} {rt' : Option FieldType} {fr lo mc' ms' : Nat} {pre : List jV → jM → Prop} {post : List jV → jM → Option jV → jM → Prop} {thr' : List jV → jM → String → jM → Prop} (hM : jMet l y bytes maxL rt' fr lo mc' ms' pre post thr') {idx kd i ci : Nat} {avs : List jV} (hdg : decode cc pc = .ok (.invokevirtual idx, 3)) (hp : pc + 3 = pc') (hw1 : Cond.methodLink own idx y ∈ jWL) (hw2 : Cond.instanceMethod y ∈ jWL) (hw3 : Cond.selects (jNm ci) y y ∈ jWL) (hw4 : Cond.initialized (jNm ci) ∈ jWL) (hw5 : Cond.code y bytes maxL rt' ∈ jWL) (hsh : jSh kd = .inl ci) (hc : ci < 6) (h61 : kd ≠ 61) (hd : y.cls = jNm ci ∧ y.cls ≠ "java/lang/invoke/MethodHandle" ∧ y.cls ≠ "java/lang/invoke/VarHandle" ∧ (parseMethodDescriptor y.desc).map (fun d => d.parameters.length) = some avs.length) (hR : fr + 1 ≤ R.frames ∧ 8 + (maxL + 11) + lo ≤ R.locals) (hcat : (st.map jcat).sum ≤ 8) (hroom : k + mc' ≤ R.cells ∧ n + ms' ≤ R.slots)
    (hpre : pre (aR kd i :: avs) μ) (K : ∀ r μ', post (aR kd i :: avs) μ r μ' → (∀ x, mN μ x ≤ mN μ' x) → J pc' L (r.toList ++ st) μ' (k + mc') (n + ms')) (KX : ∀ E μ', ¬ thr' (aR kd i :: avs) μ E μ') : J pc L (avs.reverse ++ aR kd i :: st) μ k n := by
  obtain ⟨p, e, s, m, args, below, meth, c, D, cm, ad0, μ0, Q, rfl, hx, hb, hml, hrt, hown, hlk, hU, hE⟩ := C
  subst hp
  intro ad H locs ls hT hX hS hL hs9 hl
  have hsp : ∀ v ∈ st, jL μ v := fun v hv => hs9 v (List.mem_append_right _ (List.mem_cons_of_mem _ hv))

  have hrec : i < mN μ kd := hs9 (aR kd i) (List.mem_append_right _ List.mem_cons_self)
  have hav : ∀ v ∈ aR kd i :: avs, jL μ v := fun v hv => by
    rcases List.mem_cons.mp hv with rfl | h
    · exact hrec
    · exact hs9 v (List.mem_append_left _ (List.mem_reverse.mpr h))
  obtain ⟨cell, q1, q2, q3, q4⟩ := jAt_obj (hT.1 kd i h61 hrec) hsh
  have hcls := (hU.1.1 ci _ (jCl_at hc)).2
  have hr := vx_runV (meth := meth) (below := below) (args := args) (e := e) (g := F0 m pc ls ((avs.reverse ++ aR kd i :: st).map (jc ad))) (locs := locs) (slots := n) (b := ad kd i) (As := avs.map (jc ad)) (rest := st.map (jc ad)) ⟨hx, hb, hml, hown, fun w h => hU.w h⟩ (hM D cm ad μ (aR kd i :: avs) H.size hav hpre) (cwV (own := own) (C := jNm ci) (index := idx) (y := y) (bytes := bytes) (maxL := maxL) (ret := rt') avs.length (fun w h => hU.w h) (jGoodIn (fun w hw => by
      simp only [wsV, List.cons_append, List.nil_append, List.mem_cons, List.not_mem_nil, or_false] at hw
      rcases hw with rfl | rfl | rfl | rfl | rfl
      · exact ⟨hw1, rfl⟩
      · exact ⟨hw2, rfl⟩
      · exact ⟨hw3, rfl⟩
      · exact ⟨hw4, rfl⟩
      · exact ⟨hw5, rfl⟩)) rfl rfl rfl hd hR) ⟨jPc_blind, ⟨cell, q1, by rw [q3]; rfl, by rw [q2]; exact hcls.1⟩, jx_pre hU hT hX hS (aR kd i :: avs)⟩ rfl (by simp) hl.1 (by simp [jc]) (lv_room (by rw [jc_cats]; exact hcat)) hdg hroom

  exact jx_vrun hr hX hS hL hsp hl (fun r μ' hq hm => K r μ' hq hm) (fun E ce q9 ad' μ' H1 locs1 ht _ _ _ _ _ _ _ _ => absurd ht (KX E μ'))

theorem mj_callVN_0 (C : jCtx l J cc nL own R rt md hh ret thr mc ms) {y : MethodName} {bytes : ByteArray} {maxL : Nat} {rt' : Option FieldType} {fr lo mc' ms' : Nat} {pre : List jV → jM → Prop} {post : List jV → jM → Option jV → jM → Prop} {thr' : List jV → jM → String → jM → Prop} (hM : jMet l y bytes maxL rt' fr lo mc' ms' pre post thr') {idx kd i ci : Nat}  (hdg : decode cc pc = .ok (.invokevirtual idx, 3)) (hp : pc + 3 = pc') (hw1 : Cond.methodLink own idx y ∈ jWL) (hw2 : Cond.instanceMethod y ∈ jWL) (hw3 : Cond.selects (jNm ci) y y ∈ jWL) (hw4 : Cond.initialized (jNm ci) ∈ jWL) (hw5 : Cond.code y bytes maxL rt' ∈ jWL) (hsh : jSh kd = .inl ci) (hc : ci < 6) (h61 : kd ≠ 61) (hd : y.cls = jNm ci ∧ y.cls ≠ "java/lang/invoke/MethodHandle" ∧ y.cls ≠ "java/lang/invoke/VarHandle" ∧ (parseMethodDescriptor y.desc).map (fun d => d.parameters.length) = some 0) (hR : fr + 1 ≤ R.frames ∧ 8 + (maxL + 11) + lo ≤ R.locals) (hcat : (st.map jcat).sum ≤ 8) (hroom : k + mc' ≤ R.cells ∧ n + ms' ≤ R.slots)
    (hpre : pre (aR kd i :: []) μ) (K : ∀ r μ', post (aR kd i :: []) μ r μ' → (∀ x, mN μ x ≤ mN μ' x) → J pc' L (r.toList ++ st) μ' (k + mc') (n + ms')) (KX : ∀ E μ', ¬ thr' (aR kd i :: []) μ E μ') : J pc L (aR kd i :: st) μ k n :=
  mj_callVNG C hM (avs := []) hdg hp hw1 hw2 hw3 hw4 hw5 hsh hc h61 hd hR hcat hroom hpre K KX

theorem mj_callVN_1 (C : jCtx l J cc nL own R rt md hh ret thr mc ms) {y : MethodName} {bytes : ByteArray} {maxL : Nat} {rt' : Option FieldType} {fr lo mc' ms' : Nat} {pre : List jV → jM → Prop} {post : List jV → jM → Option jV → jM → Prop} {thr' : List jV → jM → String → jM → Prop} (hM : jMet l y bytes maxL rt' fr lo mc' ms' pre post thr') {idx kd i ci : Nat} {v1 : jV} (hdg : decode cc pc = .ok (.invokevirtual idx, 3)) (hp : pc + 3 = pc') (hw1 : Cond.methodLink own idx y ∈ jWL) (hw2 : Cond.instanceMethod y ∈ jWL) (hw3 : Cond.selects (jNm ci) y y ∈ jWL) (hw4 : Cond.initialized (jNm ci) ∈ jWL) (hw5 : Cond.code y bytes maxL rt' ∈ jWL) (hsh : jSh kd = .inl ci) (hc : ci < 6) (h61 : kd ≠ 61) (hd : y.cls = jNm ci ∧ y.cls ≠ "java/lang/invoke/MethodHandle" ∧ y.cls ≠ "java/lang/invoke/VarHandle" ∧ (parseMethodDescriptor y.desc).map (fun d => d.parameters.length) = some 1) (hR : fr + 1 ≤ R.frames ∧ 8 + (maxL + 11) + lo ≤ R.locals) (hcat : (st.map jcat).sum ≤ 8) (hroom : k + mc' ≤ R.cells ∧ n + ms' ≤ R.slots)
    (hpre : pre (aR kd i :: [v1]) μ) (K : ∀ r μ', post (aR kd i :: [v1]) μ r μ' → (∀ x, mN μ x ≤ mN μ' x) → J pc' L (r.toList ++ st) μ' (k + mc') (n + ms')) (KX : ∀ E μ', ¬ thr' (aR kd i :: [v1]) μ E μ') : J pc L (v1 :: aR kd i :: st) μ k n :=
  mj_callVNG C hM (avs := [v1]) hdg hp hw1 hw2 hw3 hw4 hw5 hsh hc h61 hd hR hcat hroom hpre K KX

theorem mj_callVN_2 (C : jCtx l J cc nL own R rt md hh ret thr mc ms) {y : MethodName} {bytes : ByteArray} {maxL : Nat} {rt' : Option FieldType} {fr lo mc' ms' : Nat} {pre : List jV → jM → Prop} {post : List jV → jM → Option jV → jM → Prop} {thr' : List jV → jM → String → jM → Prop} (hM : jMet l y bytes maxL rt' fr lo mc' ms' pre post thr') {idx kd i ci : Nat} {v1 v2 : jV} (hdg : decode cc pc = .ok (.invokevirtual idx, 3)) (hp : pc + 3 = pc') (hw1 : Cond.methodLink own idx y ∈ jWL) (hw2 : Cond.instanceMethod y ∈ jWL) (hw3 : Cond.selects (jNm ci) y y ∈ jWL) (hw4 : Cond.initialized (jNm ci) ∈ jWL) (hw5 : Cond.code y bytes maxL rt' ∈ jWL) (hsh : jSh kd = .inl ci) (hc : ci < 6) (h61 : kd ≠ 61) (hd : y.cls = jNm ci ∧ y.cls ≠ "java/lang/invoke/MethodHandle" ∧ y.cls ≠ "java/lang/invoke/VarHandle" ∧ (parseMethodDescriptor y.desc).map (fun d => d.parameters.length) = some 2) (hR : fr + 1 ≤ R.frames ∧ 8 + (maxL + 11) + lo ≤ R.locals) (hcat : (st.map jcat).sum ≤ 8) (hroom : k + mc' ≤ R.cells ∧ n + ms' ≤ R.slots)
    (hpre : pre (aR kd i :: [v1, v2]) μ) (K : ∀ r μ', post (aR kd i :: [v1, v2]) μ r μ' → (∀ x, mN μ x ≤ mN μ' x) → J pc' L (r.toList ++ st) μ' (k + mc') (n + ms')) (KX : ∀ E μ', ¬ thr' (aR kd i :: [v1, v2]) μ E μ') : J pc L (v2 :: v1 :: aR kd i :: st) μ k n :=
  mj_callVNG C hM (avs := [v1, v2]) hdg hp hw1 hw2 hw3 hw4 hw5 hsh hc h61 hd hR hcat hroom hpre K KX

theorem mj_callVN_3 (C : jCtx l J cc nL own R rt md hh ret thr mc ms) {y : MethodName} {bytes : ByteArray} {maxL : Nat} {rt' : Option FieldType} {fr lo mc' ms' : Nat} {pre : List jV → jM → Prop} {post : List jV → jM → Option jV → jM → Prop} {thr' : List jV → jM → String → jM → Prop} (hM : jMet l y bytes maxL rt' fr lo mc' ms' pre post thr') {idx kd i ci : Nat} {v1 v2 v3 : jV} (hdg : decode cc pc = .ok (.invokevirtual idx, 3)) (hp : pc + 3 = pc') (hw1 : Cond.methodLink own idx y ∈ jWL) (hw2 : Cond.instanceMethod y ∈ jWL) (hw3 : Cond.selects (jNm ci) y y ∈ jWL) (hw4 : Cond.initialized (jNm ci) ∈ jWL) (hw5 : Cond.code y bytes maxL rt' ∈ jWL) (hsh : jSh kd = .inl ci) (hc : ci < 6) (h61 : kd ≠ 61) (hd : y.cls = jNm ci ∧ y.cls ≠ "java/lang/invoke/MethodHandle" ∧ y.cls ≠ "java/lang/invoke/VarHandle" ∧ (parseMethodDescriptor y.desc).map (fun d => d.parameters.length) = some 3) (hR : fr + 1 ≤ R.frames ∧ 8 + (maxL + 11) + lo ≤ R.locals) (hcat : (st.map jcat).sum ≤ 8) (hroom : k + mc' ≤ R.cells ∧ n + ms' ≤ R.slots)
    (hpre : pre (aR kd i :: [v1, v2, v3]) μ) (K : ∀ r μ', post (aR kd i :: [v1, v2, v3]) μ r μ' → (∀ x, mN μ x ≤ mN μ' x) → J pc' L (r.toList ++ st) μ' (k + mc') (n + ms')) (KX : ∀ E μ', ¬ thr' (aR kd i :: [v1, v2, v3]) μ E μ') : J pc L (v3 :: v2 :: v1 :: aR kd i :: st) μ k n :=
  mj_callVNG C hM (avs := [v1, v2, v3]) hdg hp hw1 hw2 hw3 hw4 hw5 hsh hc h61 hd hR hcat hroom hpre K KX

theorem mj_callVN_4 (C : jCtx l J cc nL own R rt md hh ret thr mc ms) {y : MethodName} {bytes : ByteArray} {maxL : Nat} {rt' : Option FieldType} {fr lo mc' ms' : Nat} {pre : List jV → jM → Prop} {post : List jV → jM → Option jV → jM → Prop} {thr' : List jV → jM → String → jM → Prop} (hM : jMet l y bytes maxL rt' fr lo mc' ms' pre post thr') {idx kd i ci : Nat} {v1 v2 v3 v4 : jV} (hdg : decode cc pc = .ok (.invokevirtual idx, 3)) (hp : pc + 3 = pc') (hw1 : Cond.methodLink own idx y ∈ jWL) (hw2 : Cond.instanceMethod y ∈ jWL) (hw3 : Cond.selects (jNm ci) y y ∈ jWL) (hw4 : Cond.initialized (jNm ci) ∈ jWL) (hw5 : Cond.code y bytes maxL rt' ∈ jWL) (hsh : jSh kd = .inl ci) (hc : ci < 6) (h61 : kd ≠ 61) (hd : y.cls = jNm ci ∧ y.cls ≠ "java/lang/invoke/MethodHandle" ∧ y.cls ≠ "java/lang/invoke/VarHandle" ∧ (parseMethodDescriptor y.desc).map (fun d => d.parameters.length) = some 4) (hR : fr + 1 ≤ R.frames ∧ 8 + (maxL + 11) + lo ≤ R.locals) (hcat : (st.map jcat).sum ≤ 8) (hroom : k + mc' ≤ R.cells ∧ n + ms' ≤ R.slots)
    (hpre : pre (aR kd i :: [v1, v2, v3, v4]) μ) (K : ∀ r μ', post (aR kd i :: [v1, v2, v3, v4]) μ r μ' → (∀ x, mN μ x ≤ mN μ' x) → J pc' L (r.toList ++ st) μ' (k + mc') (n + ms')) (KX : ∀ E μ', ¬ thr' (aR kd i :: [v1, v2, v3, v4]) μ E μ') : J pc L (v4 :: v3 :: v2 :: v1 :: aR kd i :: st) μ k n :=
  mj_callVNG C hM (avs := [v1, v2, v3, v4]) hdg hp hw1 hw2 hw3 hw4 hw5 hsh hc h61 hd hR hcat hroom hpre K KX

theorem mj_callVN_5 (C : jCtx l J cc nL own R rt md hh ret thr mc ms) {y : MethodName} {bytes : ByteArray} {maxL : Nat} {rt' : Option FieldType} {fr lo mc' ms' : Nat} {pre : List jV → jM → Prop} {post : List jV → jM → Option jV → jM → Prop} {thr' : List jV → jM → String → jM → Prop} (hM : jMet l y bytes maxL rt' fr lo mc' ms' pre post thr') {idx kd i ci : Nat} {v1 v2 v3 v4 v5 : jV} (hdg : decode cc pc = .ok (.invokevirtual idx, 3)) (hp : pc + 3 = pc') (hw1 : Cond.methodLink own idx y ∈ jWL) (hw2 : Cond.instanceMethod y ∈ jWL) (hw3 : Cond.selects (jNm ci) y y ∈ jWL) (hw4 : Cond.initialized (jNm ci) ∈ jWL) (hw5 : Cond.code y bytes maxL rt' ∈ jWL) (hsh : jSh kd = .inl ci) (hc : ci < 6) (h61 : kd ≠ 61) (hd : y.cls = jNm ci ∧ y.cls ≠ "java/lang/invoke/MethodHandle" ∧ y.cls ≠ "java/lang/invoke/VarHandle" ∧ (parseMethodDescriptor y.desc).map (fun d => d.parameters.length) = some 5) (hR : fr + 1 ≤ R.frames ∧ 8 + (maxL + 11) + lo ≤ R.locals) (hcat : (st.map jcat).sum ≤ 8) (hroom : k + mc' ≤ R.cells ∧ n + ms' ≤ R.slots)
    (hpre : pre (aR kd i :: [v1, v2, v3, v4, v5]) μ) (K : ∀ r μ', post (aR kd i :: [v1, v2, v3, v4, v5]) μ r μ' → (∀ x, mN μ x ≤ mN μ' x) → J pc' L (r.toList ++ st) μ' (k + mc') (n + ms')) (KX : ∀ E μ', ¬ thr' (aR kd i :: [v1, v2, v3, v4, v5]) μ E μ') : J pc L (v5 :: v4 :: v3 :: v2 :: v1 :: aR kd i :: st) μ k n :=
  mj_callVNG C hM (avs := [v1, v2, v3, v4, v5]) hdg hp hw1 hw2 hw3 hw4 hw5 hsh hc h61 hd hR hcat hroom hpre K KX

theorem mj_callVN_6 (C : jCtx l J cc nL own R rt md hh ret thr mc ms) {y : MethodName} {bytes : ByteArray} {maxL : Nat} {rt' : Option FieldType} {fr lo mc' ms' : Nat} {pre : List jV → jM → Prop} {post : List jV → jM → Option jV → jM → Prop} {thr' : List jV → jM → String → jM → Prop} (hM : jMet l y bytes maxL rt' fr lo mc' ms' pre post thr') {idx kd i ci : Nat} {v1 v2 v3 v4 v5 v6 : jV} (hdg : decode cc pc = .ok (.invokevirtual idx, 3)) (hp : pc + 3 = pc') (hw1 : Cond.methodLink own idx y ∈ jWL) (hw2 : Cond.instanceMethod y ∈ jWL) (hw3 : Cond.selects (jNm ci) y y ∈ jWL) (hw4 : Cond.initialized (jNm ci) ∈ jWL) (hw5 : Cond.code y bytes maxL rt' ∈ jWL) (hsh : jSh kd = .inl ci) (hc : ci < 6) (h61 : kd ≠ 61) (hd : y.cls = jNm ci ∧ y.cls ≠ "java/lang/invoke/MethodHandle" ∧ y.cls ≠ "java/lang/invoke/VarHandle" ∧ (parseMethodDescriptor y.desc).map (fun d => d.parameters.length) = some 6) (hR : fr + 1 ≤ R.frames ∧ 8 + (maxL + 11) + lo ≤ R.locals) (hcat : (st.map jcat).sum ≤ 8) (hroom : k + mc' ≤ R.cells ∧ n + ms' ≤ R.slots)
    (hpre : pre (aR kd i :: [v1, v2, v3, v4, v5, v6]) μ) (K : ∀ r μ', post (aR kd i :: [v1, v2, v3, v4, v5, v6]) μ r μ' → (∀ x, mN μ x ≤ mN μ' x) → J pc' L (r.toList ++ st) μ' (k + mc') (n + ms')) (KX : ∀ E μ', ¬ thr' (aR kd i :: [v1, v2, v3, v4, v5, v6]) μ E μ') : J pc L (v6 :: v5 :: v4 :: v3 :: v2 :: v1 :: aR kd i :: st) μ k n :=
  mj_callVNG C hM (avs := [v1, v2, v3, v4, v5, v6]) hdg hp hw1 hw2 hw3 hw4 hw5 hsh hc h61 hd hR hcat hroom hpre K KX

theorem mj_callSXG (C : jCtx l J cc nL own R rt 0 hh ret thr mc ms) {y : MethodName} {bytes : ByteArray} {maxL : Nat} {rt' : Option FieldType} {fr lo mc' ms' : Nat} {pre : List jV → jM → Prop} {post : List jV → jM → Option jV → jM → Prop} {thr' : List jV → jM → String → jM → Prop} (hM : jMet l y bytes maxL rt' fr lo mc' ms' pre post thr') {idx : Nat} {avs : List jV} (hdg : decode cc pc = .ok (.invokestatic idx, 3)) (hp : pc + 3 = pc') (hw1 : Cond.methodLink own idx y ∈ jWL) (hw2 : Cond.static y ∈ jWL) (hw4 : Cond.initialized y.cls ∈ jWL) (hw5 : Cond.code y bytes maxL rt' ∈ jWL)  (hd : y.cls ≠ "java/lang/invoke/MethodHandle" ∧ y.cls ≠ "java/lang/invoke/VarHandle" ∧ (parseMethodDescriptor y.desc).map (fun d => d.parameters.length) = some avs.length) (hR : fr + 1 ≤ R.frames ∧ 8 + (maxL + 11) + lo ≤ R.locals) (hcat : (st.map jcat).sum ≤ 8) (hroom : k + mc' ≤ R.cells ∧ n + ms' ≤ R.slots)
    (hpre : pre avs μ) (K : ∀ r μ', post avs μ r μ' → (∀ x, mN μ x ≤ mN μ' x) → J pc' L (r.toList ++ st) μ' (k + mc') (n + ms')) (KX : ∀ E μ', thr' avs μ E μ' → thr E μ') (hmc : k + mc' ≤ mc) (hms : n + ms' ≤ ms) : J pc L (avs.reverse ++ st) μ k n := by
  obtain ⟨p, e, s, m, args, below, meth, c, D, cm, ad0, μ0, Q, rfl, hx, hb, hml, hrt, hown, hlk, hU, hE⟩ := C
  subst hp
  intro ad H locs ls hT hX hS hL hs9 hl
  have hsp : ∀ v ∈ st, jL μ v := fun v hv => hs9 v (List.mem_append_right _ hv)

  have hav : ∀ v ∈ avs, jL μ v := fun v hv => hs9 v (List.mem_append_left _ (List.mem_reverse.mpr hv))
  have hr := vx_runS (meth := meth) (below := below) (args := args) (e := e) (g := F0 m pc ls ((avs.reverse ++ st).map (jc ad))) (locs := locs) (slots := n) (As := avs.map (jc ad)) (rest := st.map (jc ad)) ⟨hx, hb, hml, hown, fun w h => hU.w h⟩ (hM D cm ad μ avs H.size hav hpre) ⟨callB_of (own := own) (index := idx) (y := y) (bytes := bytes) (maxL := maxL) (ret := rt') avs.length (fun w h => hU.w h) (jGoodIn (fun w hw => by
      simp only [List.mem_cons, List.not_mem_nil, or_false] at hw
      subst hw
      exact ⟨hw5, rfl⟩)) rfl rfl rfl (hU.w hw4) (hU.w hw1) hd hR, hU.w hw2⟩ ⟨jPc_blind, jx_pre hU hT hX hS avs⟩ rfl (by simp) hl.1 (by simp [jc]) (lv_room (by rw [jc_cats]; exact hcat)) hdg hroom

  exact jx_vrun hr hX hS hL hsp hl (fun r μ' hq hm => K r μ' hq hm) (fun E ce q9 ad' μ' H1 locs1 ht k1 k2 k3 _ _ hce hcv hcl => jx_out hE hlk (KX E μ' ht) k1 k2 k3 hce hcv hcl hmc hms)

theorem mj_callSX_1 (C : jCtx l J cc nL own R rt 0 hh ret thr mc ms) {y : MethodName} {bytes : ByteArray} {maxL : Nat} {rt' : Option FieldType} {fr lo mc' ms' : Nat} {pre : List jV → jM → Prop} {post : List jV → jM → Option jV → jM → Prop} {thr' : List jV → jM → String → jM → Prop} (hM : jMet l y bytes maxL rt' fr lo mc' ms' pre post thr') {idx : Nat} {v1 : jV} (hdg : decode cc pc = .ok (.invokestatic idx, 3)) (hp : pc + 3 = pc') (hw1 : Cond.methodLink own idx y ∈ jWL) (hw2 : Cond.static y ∈ jWL) (hw4 : Cond.initialized y.cls ∈ jWL) (hw5 : Cond.code y bytes maxL rt' ∈ jWL)  (hd : y.cls ≠ "java/lang/invoke/MethodHandle" ∧ y.cls ≠ "java/lang/invoke/VarHandle" ∧ (parseMethodDescriptor y.desc).map (fun d => d.parameters.length) = some 1) (hR : fr + 1 ≤ R.frames ∧ 8 + (maxL + 11) + lo ≤ R.locals) (hcat : (st.map jcat).sum ≤ 8) (hroom : k + mc' ≤ R.cells ∧ n + ms' ≤ R.slots)
    (hpre : pre [v1] μ) (K : ∀ r μ', post [v1] μ r μ' → (∀ x, mN μ x ≤ mN μ' x) → J pc' L (r.toList ++ st) μ' (k + mc') (n + ms')) (KX : ∀ E μ', thr' [v1] μ E μ' → thr E μ') (hmc : k + mc' ≤ mc) (hms : n + ms' ≤ ms) : J pc L (v1 :: st) μ k n :=
  mj_callSXG C hM (avs := [v1]) hdg hp hw1 hw2 hw4 hw5  hd hR hcat hroom hpre K KX hmc hms

theorem mj_callSX_2 (C : jCtx l J cc nL own R rt 0 hh ret thr mc ms) {y : MethodName} {bytes : ByteArray} {maxL : Nat} {rt' : Option FieldType} {fr lo mc' ms' : Nat} {pre : List jV → jM → Prop} {post : List jV → jM → Option jV → jM → Prop} {thr' : List jV → jM → String → jM → Prop} (hM : jMet l y bytes maxL rt' fr lo mc' ms' pre post thr') {idx : Nat} {v1 v2 : jV} (hdg : decode cc pc = .ok (.invokestatic idx, 3)) (hp : pc + 3 = pc') (hw1 : Cond.methodLink own idx y ∈ jWL) (hw2 : Cond.static y ∈ jWL) (hw4 : Cond.initialized y.cls ∈ jWL) (hw5 : Cond.code y bytes maxL rt' ∈ jWL)  (hd : y.cls ≠ "java/lang/invoke/MethodHandle" ∧ y.cls ≠ "java/lang/invoke/VarHandle" ∧ (parseMethodDescriptor y.desc).map (fun d => d.parameters.length) = some 2) (hR : fr + 1 ≤ R.frames ∧ 8 + (maxL + 11) + lo ≤ R.locals) (hcat : (st.map jcat).sum ≤ 8) (hroom : k + mc' ≤ R.cells ∧ n + ms' ≤ R.slots)
    (hpre : pre [v1, v2] μ) (K : ∀ r μ', post [v1, v2] μ r μ' → (∀ x, mN μ x ≤ mN μ' x) → J pc' L (r.toList ++ st) μ' (k + mc') (n + ms')) (KX : ∀ E μ', thr' [v1, v2] μ E μ' → thr E μ') (hmc : k + mc' ≤ mc) (hms : n + ms' ≤ ms) : J pc L (v2 :: v1 :: st) μ k n :=
  mj_callSXG C hM (avs := [v1, v2]) hdg hp hw1 hw2 hw4 hw5  hd hR hcat hroom hpre K KX hmc hms

theorem mj_callSX_3 (C : jCtx l J cc nL own R rt 0 hh ret thr mc ms) {y : MethodName} {bytes : ByteArray} {maxL : Nat} {rt' : Option FieldType} {fr lo mc' ms' : Nat} {pre : List jV → jM → Prop} {post : List jV → jM → Option jV → jM → Prop} {thr' : List jV → jM → String → jM → Prop} (hM : jMet l y bytes maxL rt' fr lo mc' ms' pre post thr') {idx : Nat} {v1 v2 v3 : jV} (hdg : decode cc pc = .ok (.invokestatic idx, 3)) (hp : pc + 3 = pc') (hw1 : Cond.methodLink own idx y ∈ jWL) (hw2 : Cond.static y ∈ jWL) (hw4 : Cond.initialized y.cls ∈ jWL) (hw5 : Cond.code y bytes maxL rt' ∈ jWL)  (hd : y.cls ≠ "java/lang/invoke/MethodHandle" ∧ y.cls ≠ "java/lang/invoke/VarHandle" ∧ (parseMethodDescriptor y.desc).map (fun d => d.parameters.length) = some 3) (hR : fr + 1 ≤ R.frames ∧ 8 + (maxL + 11) + lo ≤ R.locals) (hcat : (st.map jcat).sum ≤ 8) (hroom : k + mc' ≤ R.cells ∧ n + ms' ≤ R.slots)
    (hpre : pre [v1, v2, v3] μ) (K : ∀ r μ', post [v1, v2, v3] μ r μ' → (∀ x, mN μ x ≤ mN μ' x) → J pc' L (r.toList ++ st) μ' (k + mc') (n + ms')) (KX : ∀ E μ', thr' [v1, v2, v3] μ E μ' → thr E μ') (hmc : k + mc' ≤ mc) (hms : n + ms' ≤ ms) : J pc L (v3 :: v2 :: v1 :: st) μ k n :=
  mj_callSXG C hM (avs := [v1, v2, v3]) hdg hp hw1 hw2 hw4 hw5  hd hR hcat hroom hpre K KX hmc hms

theorem mj_callSX_4 (C : jCtx l J cc nL own R rt 0 hh ret thr mc ms) {y : MethodName} {bytes : ByteArray} {maxL : Nat} {rt' : Option FieldType} {fr lo mc' ms' : Nat} {pre : List jV → jM → Prop} {post : List jV → jM → Option jV → jM → Prop} {thr' : List jV → jM → String → jM → Prop} (hM : jMet l y bytes maxL rt' fr lo mc' ms' pre post thr') {idx : Nat} {v1 v2 v3 v4 : jV} (hdg : decode cc pc = .ok (.invokestatic idx, 3)) (hp : pc + 3 = pc') (hw1 : Cond.methodLink own idx y ∈ jWL) (hw2 : Cond.static y ∈ jWL) (hw4 : Cond.initialized y.cls ∈ jWL) (hw5 : Cond.code y bytes maxL rt' ∈ jWL)  (hd : y.cls ≠ "java/lang/invoke/MethodHandle" ∧ y.cls ≠ "java/lang/invoke/VarHandle" ∧ (parseMethodDescriptor y.desc).map (fun d => d.parameters.length) = some 4) (hR : fr + 1 ≤ R.frames ∧ 8 + (maxL + 11) + lo ≤ R.locals) (hcat : (st.map jcat).sum ≤ 8) (hroom : k + mc' ≤ R.cells ∧ n + ms' ≤ R.slots)
    (hpre : pre [v1, v2, v3, v4] μ) (K : ∀ r μ', post [v1, v2, v3, v4] μ r μ' → (∀ x, mN μ x ≤ mN μ' x) → J pc' L (r.toList ++ st) μ' (k + mc') (n + ms')) (KX : ∀ E μ', thr' [v1, v2, v3, v4] μ E μ' → thr E μ') (hmc : k + mc' ≤ mc) (hms : n + ms' ≤ ms) : J pc L (v4 :: v3 :: v2 :: v1 :: st) μ k n :=
  mj_callSXG C hM (avs := [v1, v2, v3, v4]) hdg hp hw1 hw2 hw4 hw5  hd hR hcat hroom hpre K KX hmc hms

theorem mj_callSX_5 (C : jCtx l J cc nL own R rt 0 hh ret thr mc ms) {y : MethodName} {bytes : ByteArray} {maxL : Nat} {rt' : Option FieldType} {fr lo mc' ms' : Nat} {pre : List jV → jM → Prop} {post : List jV → jM → Option jV → jM → Prop} {thr' : List jV → jM → String → jM → Prop} (hM : jMet l y bytes maxL rt' fr lo mc' ms' pre post thr') {idx : Nat} {v1 v2 v3 v4 v5 : jV} (hdg : decode cc pc = .ok (.invokestatic idx, 3)) (hp : pc + 3 = pc') (hw1 : Cond.methodLink own idx y ∈ jWL) (hw2 : Cond.static y ∈ jWL) (hw4 : Cond.initialized y.cls ∈ jWL) (hw5 : Cond.code y bytes maxL rt' ∈ jWL)  (hd : y.cls ≠ "java/lang/invoke/MethodHandle" ∧ y.cls ≠ "java/lang/invoke/VarHandle" ∧ (parseMethodDescriptor y.desc).map (fun d => d.parameters.length) = some 5) (hR : fr + 1 ≤ R.frames ∧ 8 + (maxL + 11) + lo ≤ R.locals) (hcat : (st.map jcat).sum ≤ 8) (hroom : k + mc' ≤ R.cells ∧ n + ms' ≤ R.slots)
    (hpre : pre [v1, v2, v3, v4, v5] μ) (K : ∀ r μ', post [v1, v2, v3, v4, v5] μ r μ' → (∀ x, mN μ x ≤ mN μ' x) → J pc' L (r.toList ++ st) μ' (k + mc') (n + ms')) (KX : ∀ E μ', thr' [v1, v2, v3, v4, v5] μ E μ' → thr E μ') (hmc : k + mc' ≤ mc) (hms : n + ms' ≤ ms) : J pc L (v5 :: v4 :: v3 :: v2 :: v1 :: st) μ k n :=
  mj_callSXG C hM (avs := [v1, v2, v3, v4, v5]) hdg hp hw1 hw2 hw4 hw5  hd hR hcat hroom hpre K KX hmc hms

theorem mj_callSX_6 (C : jCtx l J cc nL own R rt 0 hh ret thr mc ms) {y : MethodName} {bytes : ByteArray} {maxL : Nat} {rt' : Option FieldType} {fr lo mc' ms' : Nat} {pre : List jV → jM → Prop} {post : List jV → jM → Option jV → jM → Prop} {thr' : List jV → jM → String → jM → Prop} (hM : jMet l y bytes maxL rt' fr lo mc' ms' pre post thr') {idx : Nat} {v1 v2 v3 v4 v5 v6 : jV} (hdg : decode cc pc = .ok (.invokestatic idx, 3)) (hp : pc + 3 = pc') (hw1 : Cond.methodLink own idx y ∈ jWL) (hw2 : Cond.static y ∈ jWL) (hw4 : Cond.initialized y.cls ∈ jWL) (hw5 : Cond.code y bytes maxL rt' ∈ jWL)  (hd : y.cls ≠ "java/lang/invoke/MethodHandle" ∧ y.cls ≠ "java/lang/invoke/VarHandle" ∧ (parseMethodDescriptor y.desc).map (fun d => d.parameters.length) = some 6) (hR : fr + 1 ≤ R.frames ∧ 8 + (maxL + 11) + lo ≤ R.locals) (hcat : (st.map jcat).sum ≤ 8) (hroom : k + mc' ≤ R.cells ∧ n + ms' ≤ R.slots)
    (hpre : pre [v1, v2, v3, v4, v5, v6] μ) (K : ∀ r μ', post [v1, v2, v3, v4, v5, v6] μ r μ' → (∀ x, mN μ x ≤ mN μ' x) → J pc' L (r.toList ++ st) μ' (k + mc') (n + ms')) (KX : ∀ E μ', thr' [v1, v2, v3, v4, v5, v6] μ E μ' → thr E μ') (hmc : k + mc' ≤ mc) (hms : n + ms' ≤ ms) : J pc L (v6 :: v5 :: v4 :: v3 :: v2 :: v1 :: st) μ k n :=
  mj_callSXG C hM (avs := [v1, v2, v3, v4, v5, v6]) hdg hp hw1 hw2 hw4 hw5  hd hR hcat hroom hpre K KX hmc hms

theorem mj_callSX_7 (C : jCtx l J cc nL own R rt 0 hh ret thr mc ms) {y : MethodName} {bytes : ByteArray} {maxL : Nat} {rt' : Option FieldType} {fr lo mc' ms' : Nat} {pre : List jV → jM → Prop} {post : List jV → jM → Option jV → jM → Prop} {thr' : List jV → jM → String → jM → Prop} (hM : jMet l y bytes maxL rt' fr lo mc' ms' pre post thr') {idx : Nat} {v1 v2 v3 v4 v5 v6 v7 : jV} (hdg : decode cc pc = .ok (.invokestatic idx, 3)) (hp : pc + 3 = pc') (hw1 : Cond.methodLink own idx y ∈ jWL) (hw2 : Cond.static y ∈ jWL) (hw4 : Cond.initialized y.cls ∈ jWL) (hw5 : Cond.code y bytes maxL rt' ∈ jWL)  (hd : y.cls ≠ "java/lang/invoke/MethodHandle" ∧ y.cls ≠ "java/lang/invoke/VarHandle" ∧ (parseMethodDescriptor y.desc).map (fun d => d.parameters.length) = some 7) (hR : fr + 1 ≤ R.frames ∧ 8 + (maxL + 11) + lo ≤ R.locals) (hcat : (st.map jcat).sum ≤ 8) (hroom : k + mc' ≤ R.cells ∧ n + ms' ≤ R.slots)
    (hpre : pre [v1, v2, v3, v4, v5, v6, v7] μ) (K : ∀ r μ', post [v1, v2, v3, v4, v5, v6, v7] μ r μ' → (∀ x, mN μ x ≤ mN μ' x) → J pc' L (r.toList ++ st) μ' (k + mc') (n + ms')) (KX : ∀ E μ', thr' [v1, v2, v3, v4, v5, v6, v7] μ E μ' → thr E μ') (hmc : k + mc' ≤ mc) (hms : n + ms' ≤ ms) : J pc L (v7 :: v6 :: v5 :: v4 :: v3 :: v2 :: v1 :: st) μ k n :=
  mj_callSXG C hM (avs := [v1, v2, v3, v4, v5, v6, v7]) hdg hp hw1 hw2 hw4 hw5  hd hR hcat hroom hpre K KX hmc hms

theorem mj_callSX_8 (C : jCtx l J cc nL own R rt 0 hh ret thr mc ms) {y : MethodName} {bytes : ByteArray} {maxL : Nat} {rt' : Option FieldType} {fr lo mc' ms' : Nat} {pre : List jV → jM → Prop} {post : List jV → jM → Option jV → jM → Prop} {thr' : List jV → jM → String → jM → Prop} (hM : jMet l y bytes maxL rt' fr lo mc' ms' pre post thr') {idx : Nat} {v1 v2 v3 v4 v5 v6 v7 v8 : jV} (hdg : decode cc pc = .ok (.invokestatic idx, 3)) (hp : pc + 3 = pc') (hw1 : Cond.methodLink own idx y ∈ jWL) (hw2 : Cond.static y ∈ jWL) (hw4 : Cond.initialized y.cls ∈ jWL) (hw5 : Cond.code y bytes maxL rt' ∈ jWL)  (hd : y.cls ≠ "java/lang/invoke/MethodHandle" ∧ y.cls ≠ "java/lang/invoke/VarHandle" ∧ (parseMethodDescriptor y.desc).map (fun d => d.parameters.length) = some 8) (hR : fr + 1 ≤ R.frames ∧ 8 + (maxL + 11) + lo ≤ R.locals) (hcat : (st.map jcat).sum ≤ 8) (hroom : k + mc' ≤ R.cells ∧ n + ms' ≤ R.slots)
    (hpre : pre [v1, v2, v3, v4, v5, v6, v7, v8] μ) (K : ∀ r μ', post [v1, v2, v3, v4, v5, v6, v7, v8] μ r μ' → (∀ x, mN μ x ≤ mN μ' x) → J pc' L (r.toList ++ st) μ' (k + mc') (n + ms')) (KX : ∀ E μ', thr' [v1, v2, v3, v4, v5, v6, v7, v8] μ E μ' → thr E μ') (hmc : k + mc' ≤ mc) (hms : n + ms' ≤ ms) : J pc L (v8 :: v7 :: v6 :: v5 :: v4 :: v3 :: v2 :: v1 :: st) μ k n :=
  mj_callSXG C hM (avs := [v1, v2, v3, v4, v5, v6, v7, v8]) hdg hp hw1 hw2 hw4 hw5  hd hR hcat hroom hpre K KX hmc hms

theorem mj_callSNG (C : jCtx l J cc nL own R rt md hh ret thr mc ms) {y : MethodName} {bytes : ByteArray} {maxL : Nat} {rt' : Option FieldType} {fr lo mc' ms' : Nat} {pre : List jV → jM → Prop} {post : List jV → jM → Option jV → jM → Prop} {thr' : List jV → jM → String → jM → Prop} (hM : jMet l y bytes maxL rt' fr lo mc' ms' pre post thr') {idx : Nat} {avs : List jV} (hdg : decode cc pc = .ok (.invokestatic idx, 3)) (hp : pc + 3 = pc') (hw1 : Cond.methodLink own idx y ∈ jWL) (hw2 : Cond.static y ∈ jWL) (hw4 : Cond.initialized y.cls ∈ jWL) (hw5 : Cond.code y bytes maxL rt' ∈ jWL)  (hd : y.cls ≠ "java/lang/invoke/MethodHandle" ∧ y.cls ≠ "java/lang/invoke/VarHandle" ∧ (parseMethodDescriptor y.desc).map (fun d => d.parameters.length) = some avs.length) (hR : fr + 1 ≤ R.frames ∧ 8 + (maxL + 11) + lo ≤ R.locals) (hcat : (st.map jcat).sum ≤ 8) (hroom : k + mc' ≤ R.cells ∧ n + ms' ≤ R.slots)
    (hpre : pre avs μ) (K : ∀ r μ', post avs μ r μ' → (∀ x, mN μ x ≤ mN μ' x) → J pc' L (r.toList ++ st) μ' (k + mc') (n + ms')) (KX : ∀ E μ', ¬ thr' avs μ E μ') : J pc L (avs.reverse ++ st) μ k n := by
  obtain ⟨p, e, s, m, args, below, meth, c, D, cm, ad0, μ0, Q, rfl, hx, hb, hml, hrt, hown, hlk, hU, hE⟩ := C
  subst hp
  intro ad H locs ls hT hX hS hL hs9 hl
  have hsp : ∀ v ∈ st, jL μ v := fun v hv => hs9 v (List.mem_append_right _ hv)

  have hav : ∀ v ∈ avs, jL μ v := fun v hv => hs9 v (List.mem_append_left _ (List.mem_reverse.mpr hv))
  have hr := vx_runS (meth := meth) (below := below) (args := args) (e := e) (g := F0 m pc ls ((avs.reverse ++ st).map (jc ad))) (locs := locs) (slots := n) (As := avs.map (jc ad)) (rest := st.map (jc ad)) ⟨hx, hb, hml, hown, fun w h => hU.w h⟩ (hM D cm ad μ avs H.size hav hpre) ⟨callB_of (own := own) (index := idx) (y := y) (bytes := bytes) (maxL := maxL) (ret := rt') avs.length (fun w h => hU.w h) (jGoodIn (fun w hw => by
      simp only [List.mem_cons, List.not_mem_nil, or_false] at hw
      subst hw
      exact ⟨hw5, rfl⟩)) rfl rfl rfl (hU.w hw4) (hU.w hw1) hd hR, hU.w hw2⟩ ⟨jPc_blind, jx_pre hU hT hX hS avs⟩ rfl (by simp) hl.1 (by simp [jc]) (lv_room (by rw [jc_cats]; exact hcat)) hdg hroom

  exact jx_vrun hr hX hS hL hsp hl (fun r μ' hq hm => K r μ' hq hm) (fun E ce q9 ad' μ' H1 locs1 ht _ _ _ _ _ _ _ _ => absurd ht (KX E μ'))

theorem mj_callSN_1 (C : jCtx l J cc nL own R rt md hh ret thr mc ms) {y : MethodName} {bytes : ByteArray} {maxL : Nat} {rt' : Option FieldType} {fr lo mc' ms' : Nat} {pre : List jV → jM → Prop} {post : List jV → jM → Option jV → jM → Prop} {thr' : List jV → jM → String → jM → Prop} (hM : jMet l y bytes maxL rt' fr lo mc' ms' pre post thr') {idx : Nat} {v1 : jV} (hdg : decode cc pc = .ok (.invokestatic idx, 3)) (hp : pc + 3 = pc') (hw1 : Cond.methodLink own idx y ∈ jWL) (hw2 : Cond.static y ∈ jWL) (hw4 : Cond.initialized y.cls ∈ jWL) (hw5 : Cond.code y bytes maxL rt' ∈ jWL)  (hd : y.cls ≠ "java/lang/invoke/MethodHandle" ∧ y.cls ≠ "java/lang/invoke/VarHandle" ∧ (parseMethodDescriptor y.desc).map (fun d => d.parameters.length) = some 1) (hR : fr + 1 ≤ R.frames ∧ 8 + (maxL + 11) + lo ≤ R.locals) (hcat : (st.map jcat).sum ≤ 8) (hroom : k + mc' ≤ R.cells ∧ n + ms' ≤ R.slots)
    (hpre : pre [v1] μ) (K : ∀ r μ', post [v1] μ r μ' → (∀ x, mN μ x ≤ mN μ' x) → J pc' L (r.toList ++ st) μ' (k + mc') (n + ms')) (KX : ∀ E μ', ¬ thr' [v1] μ E μ') : J pc L (v1 :: st) μ k n :=
  mj_callSNG C hM (avs := [v1]) hdg hp hw1 hw2 hw4 hw5  hd hR hcat hroom hpre K KX

theorem mj_callSN_2 (C : jCtx l J cc nL own R rt md hh ret thr mc ms) {y : MethodName} {bytes : ByteArray} {maxL : Nat} {rt' : Option FieldType} {fr lo mc' ms' : Nat} {pre : List jV → jM → Prop} {post : List jV → jM → Option jV → jM → Prop} {thr' : List jV → jM → String → jM → Prop} (hM : jMet l y bytes maxL rt' fr lo mc' ms' pre post thr') {idx : Nat} {v1 v2 : jV} (hdg : decode cc pc = .ok (.invokestatic idx, 3)) (hp : pc + 3 = pc') (hw1 : Cond.methodLink own idx y ∈ jWL) (hw2 : Cond.static y ∈ jWL) (hw4 : Cond.initialized y.cls ∈ jWL) (hw5 : Cond.code y bytes maxL rt' ∈ jWL)  (hd : y.cls ≠ "java/lang/invoke/MethodHandle" ∧ y.cls ≠ "java/lang/invoke/VarHandle" ∧ (parseMethodDescriptor y.desc).map (fun d => d.parameters.length) = some 2) (hR : fr + 1 ≤ R.frames ∧ 8 + (maxL + 11) + lo ≤ R.locals) (hcat : (st.map jcat).sum ≤ 8) (hroom : k + mc' ≤ R.cells ∧ n + ms' ≤ R.slots)
    (hpre : pre [v1, v2] μ) (K : ∀ r μ', post [v1, v2] μ r μ' → (∀ x, mN μ x ≤ mN μ' x) → J pc' L (r.toList ++ st) μ' (k + mc') (n + ms')) (KX : ∀ E μ', ¬ thr' [v1, v2] μ E μ') : J pc L (v2 :: v1 :: st) μ k n :=
  mj_callSNG C hM (avs := [v1, v2]) hdg hp hw1 hw2 hw4 hw5  hd hR hcat hroom hpre K KX

theorem mj_callSN_3 (C : jCtx l J cc nL own R rt md hh ret thr mc ms) {y : MethodName} {bytes : ByteArray} {maxL : Nat} {rt' : Option FieldType} {fr lo mc' ms' : Nat} {pre : List jV → jM → Prop} {post : List jV → jM → Option jV → jM → Prop} {thr' : List jV → jM → String → jM → Prop} (hM : jMet l y bytes maxL rt' fr lo mc' ms' pre post thr') {idx : Nat} {v1 v2 v3 : jV} (hdg : decode cc pc = .ok (.invokestatic idx, 3)) (hp : pc + 3 = pc') (hw1 : Cond.methodLink own idx y ∈ jWL) (hw2 : Cond.static y ∈ jWL) (hw4 : Cond.initialized y.cls ∈ jWL) (hw5 : Cond.code y bytes maxL rt' ∈ jWL)  (hd : y.cls ≠ "java/lang/invoke/MethodHandle" ∧ y.cls ≠ "java/lang/invoke/VarHandle" ∧ (parseMethodDescriptor y.desc).map (fun d => d.parameters.length) = some 3) (hR : fr + 1 ≤ R.frames ∧ 8 + (maxL + 11) + lo ≤ R.locals) (hcat : (st.map jcat).sum ≤ 8) (hroom : k + mc' ≤ R.cells ∧ n + ms' ≤ R.slots)
    (hpre : pre [v1, v2, v3] μ) (K : ∀ r μ', post [v1, v2, v3] μ r μ' → (∀ x, mN μ x ≤ mN μ' x) → J pc' L (r.toList ++ st) μ' (k + mc') (n + ms')) (KX : ∀ E μ', ¬ thr' [v1, v2, v3] μ E μ') : J pc L (v3 :: v2 :: v1 :: st) μ k n :=
  mj_callSNG C hM (avs := [v1, v2, v3]) hdg hp hw1 hw2 hw4 hw5  hd hR hcat hroom hpre K KX

theorem mj_callSN_4 (C : jCtx l J cc nL own R rt md hh ret thr mc ms) {y : MethodName} {bytes : ByteArray} {maxL : Nat} {rt' : Option FieldType} {fr lo mc' ms' : Nat} {pre : List jV → jM → Prop} {post : List jV → jM → Option jV → jM → Prop} {thr' : List jV → jM → String → jM → Prop} (hM : jMet l y bytes maxL rt' fr lo mc' ms' pre post thr') {idx : Nat} {v1 v2 v3 v4 : jV} (hdg : decode cc pc = .ok (.invokestatic idx, 3)) (hp : pc + 3 = pc') (hw1 : Cond.methodLink own idx y ∈ jWL) (hw2 : Cond.static y ∈ jWL) (hw4 : Cond.initialized y.cls ∈ jWL) (hw5 : Cond.code y bytes maxL rt' ∈ jWL)  (hd : y.cls ≠ "java/lang/invoke/MethodHandle" ∧ y.cls ≠ "java/lang/invoke/VarHandle" ∧ (parseMethodDescriptor y.desc).map (fun d => d.parameters.length) = some 4) (hR : fr + 1 ≤ R.frames ∧ 8 + (maxL + 11) + lo ≤ R.locals) (hcat : (st.map jcat).sum ≤ 8) (hroom : k + mc' ≤ R.cells ∧ n + ms' ≤ R.slots)
    (hpre : pre [v1, v2, v3, v4] μ) (K : ∀ r μ', post [v1, v2, v3, v4] μ r μ' → (∀ x, mN μ x ≤ mN μ' x) → J pc' L (r.toList ++ st) μ' (k + mc') (n + ms')) (KX : ∀ E μ', ¬ thr' [v1, v2, v3, v4] μ E μ') : J pc L (v4 :: v3 :: v2 :: v1 :: st) μ k n :=
  mj_callSNG C hM (avs := [v1, v2, v3, v4]) hdg hp hw1 hw2 hw4 hw5  hd hR hcat hroom hpre K KX

theorem mj_callSN_5 (C : jCtx l J cc nL own R rt md hh ret thr mc ms) {y : MethodName} {bytes : ByteArray} {maxL : Nat} {rt' : Option FieldType} {fr lo mc' ms' : Nat} {pre : List jV → jM → Prop} {post : List jV → jM → Option jV → jM → Prop} {thr' : List jV → jM → String → jM → Prop} (hM : jMet l y bytes maxL rt' fr lo mc' ms' pre post thr') {idx : Nat} {v1 v2 v3 v4 v5 : jV} (hdg : decode cc pc = .ok (.invokestatic idx, 3)) (hp : pc + 3 = pc') (hw1 : Cond.methodLink own idx y ∈ jWL) (hw2 : Cond.static y ∈ jWL) (hw4 : Cond.initialized y.cls ∈ jWL) (hw5 : Cond.code y bytes maxL rt' ∈ jWL)  (hd : y.cls ≠ "java/lang/invoke/MethodHandle" ∧ y.cls ≠ "java/lang/invoke/VarHandle" ∧ (parseMethodDescriptor y.desc).map (fun d => d.parameters.length) = some 5) (hR : fr + 1 ≤ R.frames ∧ 8 + (maxL + 11) + lo ≤ R.locals) (hcat : (st.map jcat).sum ≤ 8) (hroom : k + mc' ≤ R.cells ∧ n + ms' ≤ R.slots)
    (hpre : pre [v1, v2, v3, v4, v5] μ) (K : ∀ r μ', post [v1, v2, v3, v4, v5] μ r μ' → (∀ x, mN μ x ≤ mN μ' x) → J pc' L (r.toList ++ st) μ' (k + mc') (n + ms')) (KX : ∀ E μ', ¬ thr' [v1, v2, v3, v4, v5] μ E μ') : J pc L (v5 :: v4 :: v3 :: v2 :: v1 :: st) μ k n :=
  mj_callSNG C hM (avs := [v1, v2, v3, v4, v5]) hdg hp hw1 hw2 hw4 hw5  hd hR hcat hroom hpre K KX

theorem mj_callSN_6 (C : jCtx l J cc nL own R rt md hh ret thr mc ms) {y : MethodName} {bytes : ByteArray} {maxL : Nat} {rt' : Option FieldType} {fr lo mc' ms' : Nat} {pre : List jV → jM → Prop} {post : List jV → jM → Option jV → jM → Prop} {thr' : List jV → jM → String → jM → Prop} (hM : jMet l y bytes maxL rt' fr lo mc' ms' pre post thr') {idx : Nat} {v1 v2 v3 v4 v5 v6 : jV} (hdg : decode cc pc = .ok (.invokestatic idx, 3)) (hp : pc + 3 = pc') (hw1 : Cond.methodLink own idx y ∈ jWL) (hw2 : Cond.static y ∈ jWL) (hw4 : Cond.initialized y.cls ∈ jWL) (hw5 : Cond.code y bytes maxL rt' ∈ jWL)  (hd : y.cls ≠ "java/lang/invoke/MethodHandle" ∧ y.cls ≠ "java/lang/invoke/VarHandle" ∧ (parseMethodDescriptor y.desc).map (fun d => d.parameters.length) = some 6) (hR : fr + 1 ≤ R.frames ∧ 8 + (maxL + 11) + lo ≤ R.locals) (hcat : (st.map jcat).sum ≤ 8) (hroom : k + mc' ≤ R.cells ∧ n + ms' ≤ R.slots)
    (hpre : pre [v1, v2, v3, v4, v5, v6] μ) (K : ∀ r μ', post [v1, v2, v3, v4, v5, v6] μ r μ' → (∀ x, mN μ x ≤ mN μ' x) → J pc' L (r.toList ++ st) μ' (k + mc') (n + ms')) (KX : ∀ E μ', ¬ thr' [v1, v2, v3, v4, v5, v6] μ E μ') : J pc L (v6 :: v5 :: v4 :: v3 :: v2 :: v1 :: st) μ k n :=
  mj_callSNG C hM (avs := [v1, v2, v3, v4, v5, v6]) hdg hp hw1 hw2 hw4 hw5  hd hR hcat hroom hpre K KX

theorem mj_callSN_7 (C : jCtx l J cc nL own R rt md hh ret thr mc ms) {y : MethodName} {bytes : ByteArray} {maxL : Nat} {rt' : Option FieldType} {fr lo mc' ms' : Nat} {pre : List jV → jM → Prop} {post : List jV → jM → Option jV → jM → Prop} {thr' : List jV → jM → String → jM → Prop} (hM : jMet l y bytes maxL rt' fr lo mc' ms' pre post thr') {idx : Nat} {v1 v2 v3 v4 v5 v6 v7 : jV} (hdg : decode cc pc = .ok (.invokestatic idx, 3)) (hp : pc + 3 = pc') (hw1 : Cond.methodLink own idx y ∈ jWL) (hw2 : Cond.static y ∈ jWL) (hw4 : Cond.initialized y.cls ∈ jWL) (hw5 : Cond.code y bytes maxL rt' ∈ jWL)  (hd : y.cls ≠ "java/lang/invoke/MethodHandle" ∧ y.cls ≠ "java/lang/invoke/VarHandle" ∧ (parseMethodDescriptor y.desc).map (fun d => d.parameters.length) = some 7) (hR : fr + 1 ≤ R.frames ∧ 8 + (maxL + 11) + lo ≤ R.locals) (hcat : (st.map jcat).sum ≤ 8) (hroom : k + mc' ≤ R.cells ∧ n + ms' ≤ R.slots)
    (hpre : pre [v1, v2, v3, v4, v5, v6, v7] μ) (K : ∀ r μ', post [v1, v2, v3, v4, v5, v6, v7] μ r μ' → (∀ x, mN μ x ≤ mN μ' x) → J pc' L (r.toList ++ st) μ' (k + mc') (n + ms')) (KX : ∀ E μ', ¬ thr' [v1, v2, v3, v4, v5, v6, v7] μ E μ') : J pc L (v7 :: v6 :: v5 :: v4 :: v3 :: v2 :: v1 :: st) μ k n :=
  mj_callSNG C hM (avs := [v1, v2, v3, v4, v5, v6, v7]) hdg hp hw1 hw2 hw4 hw5  hd hR hcat hroom hpre K KX

theorem mj_callSN_8 (C : jCtx l J cc nL own R rt md hh ret thr mc ms) {y : MethodName} {bytes : ByteArray} {maxL : Nat} {rt' : Option FieldType} {fr lo mc' ms' : Nat} {pre : List jV → jM → Prop} {post : List jV → jM → Option jV → jM → Prop} {thr' : List jV → jM → String → jM → Prop} (hM : jMet l y bytes maxL rt' fr lo mc' ms' pre post thr') {idx : Nat} {v1 v2 v3 v4 v5 v6 v7 v8 : jV} (hdg : decode cc pc = .ok (.invokestatic idx, 3)) (hp : pc + 3 = pc') (hw1 : Cond.methodLink own idx y ∈ jWL) (hw2 : Cond.static y ∈ jWL) (hw4 : Cond.initialized y.cls ∈ jWL) (hw5 : Cond.code y bytes maxL rt' ∈ jWL)  (hd : y.cls ≠ "java/lang/invoke/MethodHandle" ∧ y.cls ≠ "java/lang/invoke/VarHandle" ∧ (parseMethodDescriptor y.desc).map (fun d => d.parameters.length) = some 8) (hR : fr + 1 ≤ R.frames ∧ 8 + (maxL + 11) + lo ≤ R.locals) (hcat : (st.map jcat).sum ≤ 8) (hroom : k + mc' ≤ R.cells ∧ n + ms' ≤ R.slots)
    (hpre : pre [v1, v2, v3, v4, v5, v6, v7, v8] μ) (K : ∀ r μ', post [v1, v2, v3, v4, v5, v6, v7, v8] μ r μ' → (∀ x, mN μ x ≤ mN μ' x) → J pc' L (r.toList ++ st) μ' (k + mc') (n + ms')) (KX : ∀ E μ', ¬ thr' [v1, v2, v3, v4, v5, v6, v7, v8] μ E μ') : J pc L (v8 :: v7 :: v6 :: v5 :: v4 :: v3 :: v2 :: v1 :: st) μ k n :=
  mj_callSNG C hM (avs := [v1, v2, v3, v4, v5, v6, v7, v8]) hdg hp hw1 hw2 hw4 hw5  hd hR hcat hroom hpre K KX

theorem mj_callIG (C : jCtx l J cc nL own R rt md hh ret thr mc ms) {y : MethodName} {bytes : ByteArray} {maxL : Nat} {fr lo mc' ms' : Nat} {pre : List jV → jM → Prop} {post : List jV → jM → Option jV → jM → Prop} (hM : jMetN l y (.code y bytes maxL none) fr lo mc' ms' pre post) {idx kd i : Nat} {avs : List jV} (hdg : decode cc pc = .ok (.invokespecial idx, 3)) (hp : pc + 3 = pc') (hw1 : Cond.methodLink own idx y ∈ jWL) (hw2 : Cond.instanceMethod y ∈ jWL) (hw4 : Cond.initialized y.cls ∈ jWL) (hw5 : Cond.code y bytes maxL none ∈ jWL) (hy1 : y.name = "<init>") (hd : y.cls ≠ "java/lang/invoke/MethodHandle" ∧ y.cls ≠ "java/lang/invoke/VarHandle" ∧ (parseMethodDescriptor y.desc).map (fun d => d.parameters.length) = some avs.length) (hR : fr + 1 ≤ R.frames ∧ 8 + (maxL + 11) + lo ≤ R.locals) (hcat : (st.map jcat).sum ≤ 8) (hroom : k + mc' ≤ R.cells ∧ n + ms' ≤ R.slots)
    (hpre : pre (aR kd i :: avs) μ) (K : ∀ r μ', post (aR kd i :: avs) μ r μ' → (∀ x, mN μ x ≤ mN μ' x) → J pc' L (r.toList ++ st) μ' (k + mc') (n + ms')) : J pc L (avs.reverse ++ aR kd i :: st) μ k n := by
  obtain ⟨p, e, s, m, args, below, meth, c, D, cm, ad0, μ0, Q, rfl, hx, hb, hml, hrt, hown, hlk, hU, hE⟩ := C
  subst hp
  intro ad H locs ls hT hX hS hL hs9 hl
  have hsp : ∀ v ∈ st, jL μ v := fun v hv => hs9 v (List.mem_append_right _ (List.mem_cons_of_mem _ hv))
  have hrec : i < mN μ kd := hs9 (aR kd i) (List.mem_append_right _ List.mem_cons_self)
  have hav : ∀ v ∈ aR kd i :: avs, jL μ v := fun v hv => by
    rcases List.mem_cons.mp hv with rfl | h
    · exact hrec
    · exact hs9 v (List.mem_append_left _ (List.mem_reverse.mpr h))
  have hr := va_runI (meth := meth) (below := below) (args := args) (e := e) (g := F0 m pc ls ((avs.reverse ++ aR kd i :: st).map (jc ad))) (locs := locs) (slots := n) (b := ad kd i) (As := avs.map (jc ad)) (rest := st.map (jc ad)) ⟨hx, hb, hml, hown, fun w h => hU.w h⟩ (hM D cm ad μ (aR kd i :: avs) H.size hav hpre) (cwI (own := own) (index := idx) (y := y) (bytes := bytes) (maxL := maxL) avs.length (fun w h => hU.w h) (jGoodIn (fun w hw => by
      simp only [List.mem_cons, List.not_mem_nil, or_false] at hw
      subst hw
      exact ⟨hw5, rfl⟩)) rfl rfl rfl (hU.w hw4) (hU.w hw1) (hU.w hw2) hy1 hd hR) ⟨jPc_blind, jx_pre hU hT hX hS (aR kd i :: avs)⟩ rfl (by simp) hl.1 (by simp [jc]) (lv_room (by rw [jc_cats]; exact hcat)) hdg hroom
  exact jx_run hr hX hS hL hsp hl (fun r μ' hq hm => K r μ' hq hm)

theorem mj_callI_0 (C : jCtx l J cc nL own R rt md hh ret thr mc ms) {y : MethodName} {bytes : ByteArray} {maxL : Nat} {fr lo mc' ms' : Nat} {pre : List jV → jM → Prop} {post : List jV → jM → Option jV → jM → Prop} (hM : jMetN l y (.code y bytes maxL none) fr lo mc' ms' pre post) {idx kd i : Nat}  (hdg : decode cc pc = .ok (.invokespecial idx, 3)) (hp : pc + 3 = pc') (hw1 : Cond.methodLink own idx y ∈ jWL) (hw2 : Cond.instanceMethod y ∈ jWL) (hw4 : Cond.initialized y.cls ∈ jWL) (hw5 : Cond.code y bytes maxL none ∈ jWL) (hy1 : y.name = "<init>") (hd : y.cls ≠ "java/lang/invoke/MethodHandle" ∧ y.cls ≠ "java/lang/invoke/VarHandle" ∧ (parseMethodDescriptor y.desc).map (fun d => d.parameters.length) = some 0) (hR : fr + 1 ≤ R.frames ∧ 8 + (maxL + 11) + lo ≤ R.locals) (hcat : (st.map jcat).sum ≤ 8) (hroom : k + mc' ≤ R.cells ∧ n + ms' ≤ R.slots)
    (hpre : pre (aR kd i :: []) μ) (K : ∀ r μ', post (aR kd i :: []) μ r μ' → (∀ x, mN μ x ≤ mN μ' x) → J pc' L (r.toList ++ st) μ' (k + mc') (n + ms')) : J pc L (aR kd i :: st) μ k n :=
  mj_callIG C hM (avs := []) hdg hp hw1 hw2 hw4 hw5 hy1 hd hR hcat hroom hpre K

theorem mj_callI_1 (C : jCtx l J cc nL own R rt md hh ret thr mc ms) {y : MethodName} {bytes : ByteArray} {maxL : Nat} {fr lo mc' ms' : Nat} {pre : List jV → jM → Prop} {post : List jV → jM → Option jV → jM → Prop} (hM : jMetN l y (.code y bytes maxL none) fr lo mc' ms' pre post) {idx kd i : Nat} {v1 : jV} (hdg : decode cc pc = .ok (.invokespecial idx, 3)) (hp : pc + 3 = pc') (hw1 : Cond.methodLink own idx y ∈ jWL) (hw2 : Cond.instanceMethod y ∈ jWL) (hw4 : Cond.initialized y.cls ∈ jWL) (hw5 : Cond.code y bytes maxL none ∈ jWL) (hy1 : y.name = "<init>") (hd : y.cls ≠ "java/lang/invoke/MethodHandle" ∧ y.cls ≠ "java/lang/invoke/VarHandle" ∧ (parseMethodDescriptor y.desc).map (fun d => d.parameters.length) = some 1) (hR : fr + 1 ≤ R.frames ∧ 8 + (maxL + 11) + lo ≤ R.locals) (hcat : (st.map jcat).sum ≤ 8) (hroom : k + mc' ≤ R.cells ∧ n + ms' ≤ R.slots)
    (hpre : pre (aR kd i :: [v1]) μ) (K : ∀ r μ', post (aR kd i :: [v1]) μ r μ' → (∀ x, mN μ x ≤ mN μ' x) → J pc' L (r.toList ++ st) μ' (k + mc') (n + ms')) : J pc L (v1 :: aR kd i :: st) μ k n :=
  mj_callIG C hM (avs := [v1]) hdg hp hw1 hw2 hw4 hw5 hy1 hd hR hcat hroom hpre K

theorem mj_callI_2 (C : jCtx l J cc nL own R rt md hh ret thr mc ms) {y : MethodName} {bytes : ByteArray} {maxL : Nat} {fr lo mc' ms' : Nat} {pre : List jV → jM → Prop} {post : List jV → jM → Option jV → jM → Prop} (hM : jMetN l y (.code y bytes maxL none) fr lo mc' ms' pre post) {idx kd i : Nat} {v1 v2 : jV} (hdg : decode cc pc = .ok (.invokespecial idx, 3)) (hp : pc + 3 = pc') (hw1 : Cond.methodLink own idx y ∈ jWL) (hw2 : Cond.instanceMethod y ∈ jWL) (hw4 : Cond.initialized y.cls ∈ jWL) (hw5 : Cond.code y bytes maxL none ∈ jWL) (hy1 : y.name = "<init>") (hd : y.cls ≠ "java/lang/invoke/MethodHandle" ∧ y.cls ≠ "java/lang/invoke/VarHandle" ∧ (parseMethodDescriptor y.desc).map (fun d => d.parameters.length) = some 2) (hR : fr + 1 ≤ R.frames ∧ 8 + (maxL + 11) + lo ≤ R.locals) (hcat : (st.map jcat).sum ≤ 8) (hroom : k + mc' ≤ R.cells ∧ n + ms' ≤ R.slots)
    (hpre : pre (aR kd i :: [v1, v2]) μ) (K : ∀ r μ', post (aR kd i :: [v1, v2]) μ r μ' → (∀ x, mN μ x ≤ mN μ' x) → J pc' L (r.toList ++ st) μ' (k + mc') (n + ms')) : J pc L (v2 :: v1 :: aR kd i :: st) μ k n :=
  mj_callIG C hM (avs := [v1, v2]) hdg hp hw1 hw2 hw4 hw5 hy1 hd hR hcat hroom hpre K

theorem mj_callI_3 (C : jCtx l J cc nL own R rt md hh ret thr mc ms) {y : MethodName} {bytes : ByteArray} {maxL : Nat} {fr lo mc' ms' : Nat} {pre : List jV → jM → Prop} {post : List jV → jM → Option jV → jM → Prop} (hM : jMetN l y (.code y bytes maxL none) fr lo mc' ms' pre post) {idx kd i : Nat} {v1 v2 v3 : jV} (hdg : decode cc pc = .ok (.invokespecial idx, 3)) (hp : pc + 3 = pc') (hw1 : Cond.methodLink own idx y ∈ jWL) (hw2 : Cond.instanceMethod y ∈ jWL) (hw4 : Cond.initialized y.cls ∈ jWL) (hw5 : Cond.code y bytes maxL none ∈ jWL) (hy1 : y.name = "<init>") (hd : y.cls ≠ "java/lang/invoke/MethodHandle" ∧ y.cls ≠ "java/lang/invoke/VarHandle" ∧ (parseMethodDescriptor y.desc).map (fun d => d.parameters.length) = some 3) (hR : fr + 1 ≤ R.frames ∧ 8 + (maxL + 11) + lo ≤ R.locals) (hcat : (st.map jcat).sum ≤ 8) (hroom : k + mc' ≤ R.cells ∧ n + ms' ≤ R.slots)
    (hpre : pre (aR kd i :: [v1, v2, v3]) μ) (K : ∀ r μ', post (aR kd i :: [v1, v2, v3]) μ r μ' → (∀ x, mN μ x ≤ mN μ' x) → J pc' L (r.toList ++ st) μ' (k + mc') (n + ms')) : J pc L (v3 :: v2 :: v1 :: aR kd i :: st) μ k n :=
  mj_callIG C hM (avs := [v1, v2, v3]) hdg hp hw1 hw2 hw4 hw5 hy1 hd hR hcat hroom hpre K

theorem mj_callI_4 (C : jCtx l J cc nL own R rt md hh ret thr mc ms) {y : MethodName} {bytes : ByteArray} {maxL : Nat} {fr lo mc' ms' : Nat} {pre : List jV → jM → Prop} {post : List jV → jM → Option jV → jM → Prop} (hM : jMetN l y (.code y bytes maxL none) fr lo mc' ms' pre post) {idx kd i : Nat} {v1 v2 v3 v4 : jV} (hdg : decode cc pc = .ok (.invokespecial idx, 3)) (hp : pc + 3 = pc') (hw1 : Cond.methodLink own idx y ∈ jWL) (hw2 : Cond.instanceMethod y ∈ jWL) (hw4 : Cond.initialized y.cls ∈ jWL) (hw5 : Cond.code y bytes maxL none ∈ jWL) (hy1 : y.name = "<init>") (hd : y.cls ≠ "java/lang/invoke/MethodHandle" ∧ y.cls ≠ "java/lang/invoke/VarHandle" ∧ (parseMethodDescriptor y.desc).map (fun d => d.parameters.length) = some 4) (hR : fr + 1 ≤ R.frames ∧ 8 + (maxL + 11) + lo ≤ R.locals) (hcat : (st.map jcat).sum ≤ 8) (hroom : k + mc' ≤ R.cells ∧ n + ms' ≤ R.slots)
    (hpre : pre (aR kd i :: [v1, v2, v3, v4]) μ) (K : ∀ r μ', post (aR kd i :: [v1, v2, v3, v4]) μ r μ' → (∀ x, mN μ x ≤ mN μ' x) → J pc' L (r.toList ++ st) μ' (k + mc') (n + ms')) : J pc L (v4 :: v3 :: v2 :: v1 :: aR kd i :: st) μ k n :=
  mj_callIG C hM (avs := [v1, v2, v3, v4]) hdg hp hw1 hw2 hw4 hw5 hy1 hd hR hcat hroom hpre K

theorem mj_callI_5 (C : jCtx l J cc nL own R rt md hh ret thr mc ms) {y : MethodName} {bytes : ByteArray} {maxL : Nat} {fr lo mc' ms' : Nat} {pre : List jV → jM → Prop} {post : List jV → jM → Option jV → jM → Prop} (hM : jMetN l y (.code y bytes maxL none) fr lo mc' ms' pre post) {idx kd i : Nat} {v1 v2 v3 v4 v5 : jV} (hdg : decode cc pc = .ok (.invokespecial idx, 3)) (hp : pc + 3 = pc') (hw1 : Cond.methodLink own idx y ∈ jWL) (hw2 : Cond.instanceMethod y ∈ jWL) (hw4 : Cond.initialized y.cls ∈ jWL) (hw5 : Cond.code y bytes maxL none ∈ jWL) (hy1 : y.name = "<init>") (hd : y.cls ≠ "java/lang/invoke/MethodHandle" ∧ y.cls ≠ "java/lang/invoke/VarHandle" ∧ (parseMethodDescriptor y.desc).map (fun d => d.parameters.length) = some 5) (hR : fr + 1 ≤ R.frames ∧ 8 + (maxL + 11) + lo ≤ R.locals) (hcat : (st.map jcat).sum ≤ 8) (hroom : k + mc' ≤ R.cells ∧ n + ms' ≤ R.slots)
    (hpre : pre (aR kd i :: [v1, v2, v3, v4, v5]) μ) (K : ∀ r μ', post (aR kd i :: [v1, v2, v3, v4, v5]) μ r μ' → (∀ x, mN μ x ≤ mN μ' x) → J pc' L (r.toList ++ st) μ' (k + mc') (n + ms')) : J pc L (v5 :: v4 :: v3 :: v2 :: v1 :: aR kd i :: st) μ k n :=
  mj_callIG C hM (avs := [v1, v2, v3, v4, v5]) hdg hp hw1 hw2 hw4 hw5 hy1 hd hR hcat hroom hpre K

theorem mj_callWG (C : jCtx l J cc nL own R rt md hh ret thr mc ms) {y : MethodName} {bytes : ByteArray} {maxL : Nat} {rt' : Option FieldType} {h9 : List (Nat × Nat × Nat × Nat)} {fr lo mc' ms' : Nat} {pre : List jV → jM → Prop} {post : List jV → jM → Option jV → jM → Prop} (hM : jMetN l y (.codeWith y bytes maxL rt' h9) fr lo mc' ms' pre post) {idx : Nat} {avs : List jV} (hdg : decode cc pc = .ok (.invokestatic idx, 3)) (hp : pc + 3 = pc') (hw1 : Cond.methodLink own idx y ∈ jWL) (hw2 : Cond.static y ∈ jWL) (hw4 : Cond.initialized y.cls ∈ jWL) (hw5 : Cond.codeWith y bytes maxL rt' h9 ∈ jWL) (hd : y.cls ≠ "java/lang/invoke/MethodHandle" ∧ y.cls ≠ "java/lang/invoke/VarHandle" ∧ (parseMethodDescriptor y.desc).map (fun d => d.parameters.length) = some avs.length) (hR : fr + 1 ≤ R.frames ∧ 8 + (maxL + 11) + lo ≤ R.locals) (hcat : (st.map jcat).sum ≤ 8) (hroom : k + mc' ≤ R.cells ∧ n + ms' ≤ R.slots)
    (hpre : pre avs μ) (K : ∀ r μ', post avs μ r μ' → (∀ x, mN μ x ≤ mN μ' x) → J pc' L (r.toList ++ st) μ' (k + mc') (n + ms')) : J pc L (avs.reverse ++ st) μ k n := by
  obtain ⟨p, e, s, m, args, below, meth, c, D, cm, ad0, μ0, Q, rfl, hx, hb, hml, hrt, hown, hlk, hU, hE⟩ := C
  subst hp
  intro ad H locs ls hT hX hS hL hs9 hl
  have hsp : ∀ v ∈ st, jL μ v := fun v hv => hs9 v (List.mem_append_right _ hv)
  have hav : ∀ v ∈ avs, jL μ v := fun v hv => hs9 v (List.mem_append_left _ (List.mem_reverse.mpr hv))
  have hr := vx_runSW (meth := meth) (below := below) (args := args) (e := e) (g := F0 m pc ls ((avs.reverse ++ st).map (jc ad))) (locs := locs) (slots := n) (As := avs.map (jc ad)) (rest := st.map (jc ad)) ⟨hx, hb, hml, hown, fun w h => hU.w h⟩ (hM D cm ad μ avs H.size hav hpre) (vx_cwSW (own := own) (index := idx) (y := y) (bytes := bytes) (maxL := maxL) (ret := rt') (hh := h9) avs.length (fun w h => hU.w h) (jGoodIn (fun w hw => by
      simp only [va_wsS, List.cons_append, List.nil_append, List.mem_cons, List.not_mem_nil, or_false] at hw
      rcases hw with rfl | rfl | rfl | rfl
      · exact ⟨hw1, rfl⟩
      · exact ⟨hw2, rfl⟩
      · exact ⟨hw4, rfl⟩
      · exact ⟨hw5, rfl⟩)) rfl rfl rfl hd hR) ⟨jPc_blind, jx_pre hU hT hX hS avs⟩ rfl (by simp) hl.1 (by simp [jc]) (lv_room (by rw [jc_cats]; exact hcat)) hdg hroom
  exact jx_run hr hX hS hL hsp hl (fun r μ' hq hm => K r μ' hq hm)

theorem mj_callW_1 (C : jCtx l J cc nL own R rt md hh ret thr mc ms) {y : MethodName} {bytes : ByteArray} {maxL : Nat} {rt' : Option FieldType} {h9 : List (Nat × Nat × Nat × Nat)} {fr lo mc' ms' : Nat} {pre : List jV → jM → Prop} {post : List jV → jM → Option jV → jM → Prop} (hM : jMetN l y (.codeWith y bytes maxL rt' h9) fr lo mc' ms' pre post) {idx : Nat} {v1 : jV} (hdg : decode cc pc = .ok (.invokestatic idx, 3)) (hp : pc + 3 = pc') (hw1 : Cond.methodLink own idx y ∈ jWL) (hw2 : Cond.static y ∈ jWL) (hw4 : Cond.initialized y.cls ∈ jWL) (hw5 : Cond.codeWith y bytes maxL rt' h9 ∈ jWL) (hd : y.cls ≠ "java/lang/invoke/MethodHandle" ∧ y.cls ≠ "java/lang/invoke/VarHandle" ∧ (parseMethodDescriptor y.desc).map (fun d => d.parameters.length) = some 1) (hR : fr + 1 ≤ R.frames ∧ 8 + (maxL + 11) + lo ≤ R.locals) (hcat : (st.map jcat).sum ≤ 8) (hroom : k + mc' ≤ R.cells ∧ n + ms' ≤ R.slots)
    (hpre : pre [v1] μ) (K : ∀ r μ', post [v1] μ r μ' → (∀ x, mN μ x ≤ mN μ' x) → J pc' L (r.toList ++ st) μ' (k + mc') (n + ms')) : J pc L (v1 :: st) μ k n :=
  mj_callWG C hM (avs := [v1]) hdg hp hw1 hw2 hw4 hw5 hd hR hcat hroom hpre K

theorem mj_callW_2 (C : jCtx l J cc nL own R rt md hh ret thr mc ms) {y : MethodName} {bytes : ByteArray} {maxL : Nat} {rt' : Option FieldType} {h9 : List (Nat × Nat × Nat × Nat)} {fr lo mc' ms' : Nat} {pre : List jV → jM → Prop} {post : List jV → jM → Option jV → jM → Prop} (hM : jMetN l y (.codeWith y bytes maxL rt' h9) fr lo mc' ms' pre post) {idx : Nat} {v1 v2 : jV} (hdg : decode cc pc = .ok (.invokestatic idx, 3)) (hp : pc + 3 = pc') (hw1 : Cond.methodLink own idx y ∈ jWL) (hw2 : Cond.static y ∈ jWL) (hw4 : Cond.initialized y.cls ∈ jWL) (hw5 : Cond.codeWith y bytes maxL rt' h9 ∈ jWL) (hd : y.cls ≠ "java/lang/invoke/MethodHandle" ∧ y.cls ≠ "java/lang/invoke/VarHandle" ∧ (parseMethodDescriptor y.desc).map (fun d => d.parameters.length) = some 2) (hR : fr + 1 ≤ R.frames ∧ 8 + (maxL + 11) + lo ≤ R.locals) (hcat : (st.map jcat).sum ≤ 8) (hroom : k + mc' ≤ R.cells ∧ n + ms' ≤ R.slots)
    (hpre : pre [v1, v2] μ) (K : ∀ r μ', post [v1, v2] μ r μ' → (∀ x, mN μ x ≤ mN μ' x) → J pc' L (r.toList ++ st) μ' (k + mc') (n + ms')) : J pc L (v2 :: v1 :: st) μ k n :=
  mj_callWG C hM (avs := [v1, v2]) hdg hp hw1 hw2 hw4 hw5 hd hR hcat hroom hpre K

theorem mj_callW_3 (C : jCtx l J cc nL own R rt md hh ret thr mc ms) {y : MethodName} {bytes : ByteArray} {maxL : Nat} {rt' : Option FieldType} {h9 : List (Nat × Nat × Nat × Nat)} {fr lo mc' ms' : Nat} {pre : List jV → jM → Prop} {post : List jV → jM → Option jV → jM → Prop} (hM : jMetN l y (.codeWith y bytes maxL rt' h9) fr lo mc' ms' pre post) {idx : Nat} {v1 v2 v3 : jV} (hdg : decode cc pc = .ok (.invokestatic idx, 3)) (hp : pc + 3 = pc') (hw1 : Cond.methodLink own idx y ∈ jWL) (hw2 : Cond.static y ∈ jWL) (hw4 : Cond.initialized y.cls ∈ jWL) (hw5 : Cond.codeWith y bytes maxL rt' h9 ∈ jWL) (hd : y.cls ≠ "java/lang/invoke/MethodHandle" ∧ y.cls ≠ "java/lang/invoke/VarHandle" ∧ (parseMethodDescriptor y.desc).map (fun d => d.parameters.length) = some 3) (hR : fr + 1 ≤ R.frames ∧ 8 + (maxL + 11) + lo ≤ R.locals) (hcat : (st.map jcat).sum ≤ 8) (hroom : k + mc' ≤ R.cells ∧ n + ms' ≤ R.slots)
    (hpre : pre [v1, v2, v3] μ) (K : ∀ r μ', post [v1, v2, v3] μ r μ' → (∀ x, mN μ x ≤ mN μ' x) → J pc' L (r.toList ++ st) μ' (k + mc') (n + ms')) : J pc L (v3 :: v2 :: v1 :: st) μ k n :=
  mj_callWG C hM (avs := [v1, v2, v3]) hdg hp hw1 hw2 hw4 hw5 hd hR hcat hroom hpre K

theorem mj_callW_4 (C : jCtx l J cc nL own R rt md hh ret thr mc ms) {y : MethodName} {bytes : ByteArray} {maxL : Nat} {rt' : Option FieldType} {h9 : List (Nat × Nat × Nat × Nat)} {fr lo mc' ms' : Nat} {pre : List jV → jM → Prop} {post : List jV → jM → Option jV → jM → Prop} (hM : jMetN l y (.codeWith y bytes maxL rt' h9) fr lo mc' ms' pre post) {idx : Nat} {v1 v2 v3 v4 : jV} (hdg : decode cc pc = .ok (.invokestatic idx, 3)) (hp : pc + 3 = pc') (hw1 : Cond.methodLink own idx y ∈ jWL) (hw2 : Cond.static y ∈ jWL) (hw4 : Cond.initialized y.cls ∈ jWL) (hw5 : Cond.codeWith y bytes maxL rt' h9 ∈ jWL) (hd : y.cls ≠ "java/lang/invoke/MethodHandle" ∧ y.cls ≠ "java/lang/invoke/VarHandle" ∧ (parseMethodDescriptor y.desc).map (fun d => d.parameters.length) = some 4) (hR : fr + 1 ≤ R.frames ∧ 8 + (maxL + 11) + lo ≤ R.locals) (hcat : (st.map jcat).sum ≤ 8) (hroom : k + mc' ≤ R.cells ∧ n + ms' ≤ R.slots)
    (hpre : pre [v1, v2, v3, v4] μ) (K : ∀ r μ', post [v1, v2, v3, v4] μ r μ' → (∀ x, mN μ x ≤ mN μ' x) → J pc' L (r.toList ++ st) μ' (k + mc') (n + ms')) : J pc L (v4 :: v3 :: v2 :: v1 :: st) μ k n :=
  mj_callWG C hM (avs := [v1, v2, v3, v4]) hdg hp hw1 hw2 hw4 hw5 hd hR hcat hroom hpre K

theorem mj_callW_5 (C : jCtx l J cc nL own R rt md hh ret thr mc ms) {y : MethodName} {bytes : ByteArray} {maxL : Nat} {rt' : Option FieldType} {h9 : List (Nat × Nat × Nat × Nat)} {fr lo mc' ms' : Nat} {pre : List jV → jM → Prop} {post : List jV → jM → Option jV → jM → Prop} (hM : jMetN l y (.codeWith y bytes maxL rt' h9) fr lo mc' ms' pre post) {idx : Nat} {v1 v2 v3 v4 v5 : jV} (hdg : decode cc pc = .ok (.invokestatic idx, 3)) (hp : pc + 3 = pc') (hw1 : Cond.methodLink own idx y ∈ jWL) (hw2 : Cond.static y ∈ jWL) (hw4 : Cond.initialized y.cls ∈ jWL) (hw5 : Cond.codeWith y bytes maxL rt' h9 ∈ jWL) (hd : y.cls ≠ "java/lang/invoke/MethodHandle" ∧ y.cls ≠ "java/lang/invoke/VarHandle" ∧ (parseMethodDescriptor y.desc).map (fun d => d.parameters.length) = some 5) (hR : fr + 1 ≤ R.frames ∧ 8 + (maxL + 11) + lo ≤ R.locals) (hcat : (st.map jcat).sum ≤ 8) (hroom : k + mc' ≤ R.cells ∧ n + ms' ≤ R.slots)
    (hpre : pre [v1, v2, v3, v4, v5] μ) (K : ∀ r μ', post [v1, v2, v3, v4, v5] μ r μ' → (∀ x, mN μ x ≤ mN μ' x) → J pc' L (r.toList ++ st) μ' (k + mc') (n + ms')) : J pc L (v5 :: v4 :: v3 :: v2 :: v1 :: st) μ k n :=
  mj_callWG C hM (avs := [v1, v2, v3, v4, v5]) hdg hp hw1 hw2 hw4 hw5 hd hR hcat hroom hpre K

theorem mj_callW_6 (C : jCtx l J cc nL own R rt md hh ret thr mc ms) {y : MethodName} {bytes : ByteArray} {maxL : Nat} {rt' : Option FieldType} {h9 : List (Nat × Nat × Nat × Nat)} {fr lo mc' ms' : Nat} {pre : List jV → jM → Prop} {post : List jV → jM → Option jV → jM → Prop} (hM : jMetN l y (.codeWith y bytes maxL rt' h9) fr lo mc' ms' pre post) {idx : Nat} {v1 v2 v3 v4 v5 v6 : jV} (hdg : decode cc pc = .ok (.invokestatic idx, 3)) (hp : pc + 3 = pc') (hw1 : Cond.methodLink own idx y ∈ jWL) (hw2 : Cond.static y ∈ jWL) (hw4 : Cond.initialized y.cls ∈ jWL) (hw5 : Cond.codeWith y bytes maxL rt' h9 ∈ jWL) (hd : y.cls ≠ "java/lang/invoke/MethodHandle" ∧ y.cls ≠ "java/lang/invoke/VarHandle" ∧ (parseMethodDescriptor y.desc).map (fun d => d.parameters.length) = some 6) (hR : fr + 1 ≤ R.frames ∧ 8 + (maxL + 11) + lo ≤ R.locals) (hcat : (st.map jcat).sum ≤ 8) (hroom : k + mc' ≤ R.cells ∧ n + ms' ≤ R.slots)
    (hpre : pre [v1, v2, v3, v4, v5, v6] μ) (K : ∀ r μ', post [v1, v2, v3, v4, v5, v6] μ r μ' → (∀ x, mN μ x ≤ mN μ' x) → J pc' L (r.toList ++ st) μ' (k + mc') (n + ms')) : J pc L (v6 :: v5 :: v4 :: v3 :: v2 :: v1 :: st) μ k n :=
  mj_callWG C hM (avs := [v1, v2, v3, v4, v5, v6]) hdg hp hw1 hw2 hw4 hw5 hd hR hcat hroom hpre K

/-! ends -/
theorem jEnd_ret {p : Program} {e : Env} {s : State} {m : MethodId} {args : Array Value} {below : List Frame} {meth : Method} {c : Code} {H : Heap} {locs : List Loc} {Q : State → Prop} {D : va_G} {cm : FieldType → ClassId} {ad0 : Nat → Nat → Nat} {μ0 : jM} {g : JFrame} (hE : jEnd md hh l s args below meth c D cm ad0 μ0 Q ret thr mc ms) (hm : md < 3) (w : W p l e R s m args below meth c H locs k n (MQ below (jQ D cm ad0 μ0 ret) args s mc ms (jA ad0 μ0 s.heap.size)) g) : W p l e R s m args below meth c H locs k n Q g := by
  match md, hm, hE with
  | 0, _, hE =>
    obtain ⟨-, -, rfl⟩ := hE
    exact vx_ret w
  | 1, _, hE =>
    obtain ⟨-, rfl⟩ := hE
    exact w
  | 2, _, hE =>
    obtain ⟨-, rfl⟩ := hE
    exact w
theorem jq_of {s : State} {D : va_G} {cm : FieldType → ClassId} {ad0 ad : Nat → Nat → Nat} {μ0 : jM} {H : Heap} {locs : List Loc} {a : Array Value} {r : Option jV} {v : Option Value} (hT : jT D cm ad μ H) (hX : jX ad0 μ0 s.heap.size ad μ) (hS : va_S (jA ad0 μ0 s.heap.size) s.heap H locs) (hr : ∀ w ∈ r, jL μ w) (hq : ret r μ) (hv : v = r.map (jc ad)) : ∀ t : State, t.heap = H → s.WarmedH t.vm → jQ D cm ad0 μ0 ret a s (.returned v) t := fun t ht _ =>
  ⟨r, ad, μ, by rw [hv], hq, by rw [ht]; exact hT, hX, hr, hS.F ht⟩

theorem mj_iret (C : jCtx l J cc nL own R (some .int) md hh ret thr mc ms) {x : Int32} (hdg : decode cc pc = .ok (.ireturn, 1)) (hm : md < 3) (hk : k ≤ mc) (hn : n ≤ ms) (hq : ret (some (aI x)) μ) : J pc L [aI x] μ k n := by
  obtain ⟨p, e, s, m, args, below, meth, c, D, cm, ad0, μ0, Q, rfl, hx, hb, hml, hrt, hown, hlk, hU, hE⟩ := C
  intro ad H locs ls hT hX hS hL hs9 hl
  refine jEnd_ret hE hm (W.widen hk hn ?_)
  exact W.iret hx hb hrt (jq_of hT hX hS (fun w hw => by cases hw; trivial) hq rfl) hS.2.2 hdg hlk

theorem mj_zret (C : jCtx l J cc nL own R (some .boolean) md hh ret thr mc ms) {x : Int32} (hz : x &&& 1 = x) (hdg : decode cc pc = .ok (.ireturn, 1)) (hm : md < 3) (hk : k ≤ mc) (hn : n ≤ ms) (hq : ret (some (aI x)) μ) : J pc L [aI x] μ k n := by
  obtain ⟨p, e, s, m, args, below, meth, c, D, cm, ad0, μ0, Q, rfl, hx, hb, hml, hrt, hown, hlk, hU, hE⟩ := C
  intro ad H locs ls hT hX hS hL hs9 hl
  refine jEnd_ret hE hm (W.widen hk hn ?_)
  exact W.zret hx hb hrt (by show Value.int (x &&& 1) = _; rw [hz]) (jq_of hT hX hS (fun w hw => by cases hw; trivial) hq rfl) hS.2.2 hdg hlk

theorem mj_lret (C : jCtx l J cc nL own R (some .long) md hh ret thr mc ms) {x : Int64} (hdg : decode cc pc = .ok (.lreturn, 1)) (hm : md < 3) (hk : k ≤ mc) (hn : n ≤ ms) (hq : ret (some (aL x)) μ) : J pc L [aL x] μ k n := by
  obtain ⟨p, e, s, m, args, below, meth, c, D, cm, ad0, μ0, Q, rfl, hx, hb, hml, hrt, hown, hlk, hU, hE⟩ := C
  intro ad H locs ls hT hX hS hL hs9 hl
  refine jEnd_ret hE hm (W.widen hk hn ?_)
  exact W.lret hx hb hrt (jq_of hT hX hS (fun w hw => by cases hw; trivial) hq rfl) hS.2.2 hdg hlk

theorem mj_vret (C : jCtx l J cc nL own R none md hh ret thr mc ms)  (hdg : decode cc pc = .ok (.return_, 1)) (hm : md < 3) (hk : k ≤ mc) (hn : n ≤ ms) (hq : ret (none) μ) : J pc L [] μ k n := by
  obtain ⟨p, e, s, m, args, below, meth, c, D, cm, ad0, μ0, Q, rfl, hx, hb, hml, hrt, hown, hlk, hU, hE⟩ := C
  intro ad H locs ls hT hX hS hL hs9 hl
  refine jEnd_ret hE hm (W.widen hk hn ?_)
  exact W.vret hx hb hrt (jq_of hT hX hS (fun w hw => by cases hw) hq rfl) hS.2.2 hdg hlk

theorem mj_aret {C9 : String} (C : jCtx l J cc nL own R (some (.object C9)) md hh ret thr mc ms) {kd i : Nat} (hdg : decode cc pc = .ok (.areturn, 1)) (hm : md < 3) (hk : k ≤ mc) (hn : n ≤ ms) (hq : ret (some (aR kd i)) μ) : J pc L [aR kd i] μ k n := by
  obtain ⟨p, e, s, m, args, below, meth, c, D, cm, ad0, μ0, Q, rfl, hx, hb, hml, hrt, hown, hlk, hU, hE⟩ := C
  intro ad H locs ls hT hX hS hL hs9 hl
  refine jEnd_ret hE hm (W.widen hk hn ?_)
  exact W.aret hx hb hrt (Or.inl ⟨_, rfl⟩) (Or.inr ⟨_, rfl⟩) (jq_of hT hX hS (fun w hw => by cases hw; exact jst_h hs9) hq rfl) hS.2.2 hdg hlk

/-- throw new E("text") -/
theorem mj_throw (C : jCtx l J cc nL own R rt 0 hh ret thr mc ms) {cls text : String} {names : List String} {ik is ic : Nat} (d0 : decode cc pc = .ok (.new ik, 3)) (d3 : decode cc (pc + 3) = .ok (.dup, 1)) (d4 : decode cc (pc + 4) = .ok (.ldc is, 2)) (d6 : decode cc (pc + 6) = .ok (.invokespecial ic, 3)) (d9 : decode cc (pc + 9) = .ok (.athrow, 1))
    (hcls : Bundle.fit cls = true) (hnames : names.all Bundle.fit = true) (hw1 : Cond.classLink own ik cls ∈ jWL) (hw2 : Cond.initialized cls ∈ jWL) (hw3 : ∀ w ∈ vx_atS own ic cls names, w ∈ jWL) (hg : (vx_atS own ic cls names).all vx_ot = true) (hs : (own, is, text) ∈ jStrs)
    (hRf : names.length + 3 < R.frames) (hRl : (st.map jcat).sum + (13 * (names.length + 1) + 43) ≤ R.locals) (hRc : k + 1 ≤ R.cells) (hRs : n + 6 ≤ R.slots) (hk : k + 1 ≤ mc) (hn : n + 6 ≤ ms) (hq : thr cls μ) : J pc L st μ k n := by
  obtain ⟨p, e, s, m, args, below, meth, c, D, cm, ad0, μ0, Q, rfl, hx, hb, hml, hrt, hown, hlk, hU, hE⟩ := C
  obtain ⟨hst, htab, rfl⟩ := hE
  intro ad H locs ls hT hX hS hL hs9 hl
  obtain ⟨sa, hsa⟩ := hU.2.2.2.2.1 _ hs
  refine vx_throwS hx hb hst hown hcls (fun z hz => List.all_eq_true.mp hnames z hz) (hU.w hw1) (hU.w hw2) hsa (fun w hw => hU.w (hw3 w hw)) (fun w hw => ?_) hU.2.2.2.2.2.1 hU.2.2.2.2.2.2 hS (hl.1.trans hml.symm) d0 d3 d4 d6 d9 (fun x hx => (htab x hx).elim) hRf (by rw [jc_cats]; exact hRl) hRc hRs hlk (fun t hvm hz ho => ?_) hS.2.2 hk hn
  · rcases List.mem_cons.mp hw with rfl | hw
    · rfl
    · rcases List.mem_cons.mp hw with rfl | hw
      · rfl
      · exact List.all_eq_true.mp hg w hw
  · refine ⟨ad, μ, hq, ⟨fun kd i h61 hi => (hT.1 kd i h61 hi).kept (ho _ (hT.2.2.2 kd i hi)), hT.2.1, hT.2.2.1, fun kd i hi => Nat.lt_of_lt_of_le (hT.2.2.2 kd i hi) hz⟩, hX, ?_⟩
    exact ⟨Nat.le_trans hS.1 hz, fun q h1 h2 => (ho q (Nat.lt_of_lt_of_le h1 hS.1)).trans (hS.2.1 q h1 h2)⟩
/-! entries -/
/-- the arguments as variables -/
def jAr : List jV → List (Option jV)
  | [] => []
  | v :: r => if jcat v = 2 then some v :: none :: jAr r else some v :: jAr r
theorem jAr_sl (ad : Nat → Nat → Nat) : ∀ avs : List jV, (lg_sl (avs.map (jc ad))).length = (jAr avs).length
  | [] => rfl
  | v :: r => by
    have ih := jAr_sl ad r
    unfold lg_sl at ih ⊢
    rw [List.map_cons, List.flatMap_cons, List.length_append, ih, jc_cat]
    show _ = (if jcat v = 2 then some v :: none :: jAr r else some v :: jAr r).length
    split <;> simp <;> omega
theorem jAr_args (ad : Nat → Nat → Nat) : ∀ (avs : List jV) (j : Nat), lv_args j (avs.map (jc ad)) = jLs ad j (jAr avs)
  | [], _ => rfl
  | v :: r, j => by
    show (j, jc ad v) :: lv_args (if (jc ad v).category = 2 then j + 2 else j + 1) (r.map (jc ad)) = jLs ad j (if jcat v = 2 then some v :: none :: jAr r else some v :: jAr r)
    rw [jc_cat]
    split
    · rw [jAr_args ad r (j + 2)]
      rfl
    · rw [jAr_args ad r (j + 1)]
      rfl
theorem jAr_pad (ad : Nat → Nat → Nat) (w : Nat) : ∀ (L : List (Option jV)) (j : Nat), jLs ad j (L ++ List.replicate w none) = jLs ad j L
  | [], j => by
    show jLs ad j (List.replicate w none) = []
    induction w generalizing j with
    | zero => rfl
    | succ w ih => exact ih (j + 1)
  | none :: r, j => jAr_pad ad w r (j + 1)
  | some v :: r, j => congrArg ((j, jc ad v) :: ·) (jAr_pad ad w r (j + 1))
theorem jAr_in : ∀ (avs : List jV) (w : Nat), (∀ v ∈ avs, jL μ v) → ∀ v, some v ∈ jAr avs ++ List.replicate w none → jL μ v
  | [], w, _, v, hv => by simp [jAr] at hv
  | u :: r, w, h, v, hv => by
    have ih := jAr_in r w (fun v hv => h v (List.mem_cons_of_mem _ hv)) v
    rcases List.mem_append.mp hv with h1 | h1
    · have h2 : some v ∈ (if jcat u = 2 then some u :: none :: jAr r else some u :: jAr r) := h1
      split at h2
      · rcases List.mem_cons.mp h2 with h3 | h3
        · cases h3
          exact h _ List.mem_cons_self
        · rcases List.mem_cons.mp h3 with h4 | h4
          · cases h4
          · exact ih (List.mem_append_left _ h4)
      · rcases List.mem_cons.mp h2 with h3 | h3
        · cases h3
          exact h _ List.mem_cons_self
        · exact ih (List.mem_append_left _ h3)
    · exact ih (List.mem_append_right _ h1)
theorem jent {p : Program} {e : Env} {R : Room} {s : State} {m : MethodId} {args : Array Value} {below : List Frame} {meth : Method} {c : Code} {D : va_G} {cm : FieldType → ClassId} {ad : Nat → Nat → Nat} {Q : State → Prop} {avs : List jV} {sz : Nat} (hP : jPc D cm ad μ avs sz args s) (hav : ∀ v ∈ avs, jL μ v) (hlen : (jAr avs).length ≤ nL)
    (K : jJ p l e R s m args below meth c D cm ad μ nL Q 0 (jAr avs ++ List.replicate (nL - (jAr avs).length) none) [] μ 0 0) : W p l e R s m args below meth c s.heap [] 0 0 Q (entryFrame m args nL) := by
  obtain ⟨h1, h2, h3, h4⟩ := hP
  rw [h1, lg_entry_eq]
  rw [h1] at K
  have hl := lv_entry (avs.map (jc ad)) (n := nL) (by rw [jAr_sl]; exact hlen)
  rw [jAr_args, ← jAr_pad ad (nL - (jAr avs).length)] at hl
  exact K ad s.heap [] _ h3 jX.rf va_S.rf (jAr_in avs _ hav) (fun v hv => nomatch hv) hl
theorem jMet_of (hst : l.stackTraces = false) {y : MethodName} {cc : ByteArray} {nL : Nat} {rt : Option FieldType} {fr lo mc ms : Nat} {pre : List jV → jM → Prop} {ret : List jV → jM → Option jV → jM → Prop} {thr : List jV → jM → String → jM → Prop} (hy : plainName y.cls = true)
    (body : ∀ (avs : List jV) (μ : jM) (J : Nat → List (Option jV) → List jV → jM → Nat → Nat → Prop), jCtx l J cc nL y.cls { frames := fr, cells := mc, slots := ms, locals := lo } rt 0 [] (ret avs μ) (thr avs μ) mc ms → (∀ v ∈ avs, jL μ v) → pre avs μ → (jAr avs).length ≤ nL ∧ J 0 (jAr avs ++ List.replicate (nL - (jAr avs).length) none) [] μ 0 0) : jMet l y cc nL rt fr lo mc ms pre ret thr := by
  intro D cm ad μ avs sz hav hpre
  refine vx_ofW (cc := cc) (maxL := nL) (ret := rt) hy rfl ?_
  intro p e s m args below meth c s₁ B hml htab hP
  have hsz : s.heap.size = sz := hP.2.1
  subst hsz
  obtain ⟨h1, h2⟩ := body avs μ _ ⟨p, e, s, m, args, below, meth, c, D, cm, ad, μ, _, rfl, B.exec, B.bytes, hml, B.returns, findClass_of_methodNamed B.named, B.notSynchronized, hP.2.2.2, hst, htab, rfl⟩ hav hpre
  exact jent hP hav h1 h2
theorem jMetI_of {y : MethodName} {cc : ByteArray} {nL : Nat} {fr lo mc ms : Nat} {pre : List jV → jM → Prop} {ret : List jV → jM → Option jV → jM → Prop} (hy : plainName y.cls = true) (hn : y.name = "<init>")
    (body : ∀ (avs : List jV) (μ : jM) (J : Nat → List (Option jV) → List jV → jM → Nat → Nat → Prop), jCtx l J cc nL y.cls { frames := fr, cells := mc, slots := ms, locals := lo } none 1 [] (ret avs μ) (fun _ _ => False) mc ms → (∀ v ∈ avs, jL μ v) → pre avs μ → (jAr avs).length ≤ nL ∧ J 0 (jAr avs ++ List.replicate (nL - (jAr avs).length) none) [] μ 0 0) : jMetN l y (.code y cc nL none) fr lo mc ms pre ret := by
  intro D cm ad μ avs sz hav hpre
  refine Met.ofW (cc := cc) (maxL := nL) (ret := none) hy rfl ?_
  intro p e s m args below meth c s₁ B hml hP
  have hsz : s.heap.size = sz := hP.2.1
  subst hsz
  obtain ⟨h1, h2⟩ := body avs μ _ ⟨p, e, s, m, args, below, meth, c, D, cm, ad, μ, _, rfl, B.exec, B.bytes, hml, B.returns, findClass_of_methodNamed B.named, B.notSynchronized, hP.2.2.2, (name_of_methodNamed B.named B.method).1.trans hn, rfl⟩ hav hpre
  exact jent hP hav h1 h2
theorem jMetW_of {y : MethodName} {cc : ByteArray} {nL : Nat} {rt : Option FieldType} {h9 : List (Nat × Nat × Nat × Nat)} {fr lo mc ms : Nat} {pre : List jV → jM → Prop} {ret : List jV → jM → Option jV → jM → Prop} (hy : plainName y.cls = true) (hg : Cond.codeWith y cc nL rt h9 ∈ jWL)
    (body : ∀ (avs : List jV) (μ : jM) (J : Nat → List (Option jV) → List jV → jM → Nat → Nat → Prop), jCtx l J cc nL y.cls { frames := fr, cells := mc, slots := ms, locals := lo } rt 2 h9 (ret avs μ) (fun _ _ => False) mc ms → (∀ v ∈ avs, jL μ v) → pre avs μ → (jAr avs).length ≤ nL ∧ J 0 (jAr avs ++ List.replicate (nL - (jAr avs).length) none) [] μ 0 0) : jMetN l y (.codeWith y cc nL rt h9) fr lo mc ms pre ret := by
  intro D cm ad μ avs sz hav hpre
  refine MetFree.of_bodyS (code := cc) (maxLocals := nL) (ret := rt) hy ?_ ?_
  · intro args s m h hn
    obtain ⟨m9, meth, c, hn9, h1, h2, h3, h4, -, h5, h6, -⟩ := Cond.codeWith_spec (atoms_spec (ws := [.codeWith y cc nL rt h9]) h _ List.mem_cons_self)
    cases hn.symm.trans hn9
    exact ⟨meth, c, h1, h2, h3, h4, h5, h6⟩
  · intro p e s m args below meth c s₁ B hml hP _
    have hsz : s.heap.size = sz := hP.2.1
    subst hsz
    have hcw : (Cond.codeWith y cc nL rt h9).before args s = true := atoms_spec (ws := [Cond.codeWith y cc nL rt h9]) B.pre _ List.mem_cons_self
    obtain ⟨h1, h2⟩ := body avs μ _ ⟨p, e, s, m, args, below, meth, c, D, cm, ad, μ, _, rfl, B.exec, B.bytes, hml, B.returns, findClass_of_methodNamed B.named, B.notSynchronized, hP.2.2.2, vx_table (x := y) B hcw, rfl⟩ hav hpre
    have hh0 : s₁.heap = s.heap := by rw [B.state]; rfl
    obtain ⟨t, a1, o, b1, b2, b3⟩ := jent hP hav h1 h2 s₁ hh0 (Stand.of_body B)
    exact ⟨t, o, a1, b1, b2, ⟨b3.1, b3.2⟩⟩
end JCALL
