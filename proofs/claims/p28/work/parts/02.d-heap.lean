/-! ROWS OF THE HEAP: fields, rows' elements, what is made -/
theorem jLay {ci : Nat} (h : ci < 6) : ∀ w ∈ u_ws (jNm ci) (jTx ci) (jNf ci), w ∈ jWL := by
  rcases (show ci = 0 ∨ ci = 1 ∨ ci = 2 ∨ ci = 3 ∨ ci = 4 ∨ ci = 5 by omega) with rfl | rfl | rfl | rfl | rfl | rfl <;> decide +kernel
section JHEAP
variable {l : Launch} {J : Nat → List (Option jV) → List jV → jM → Nat → Nat → Prop} {cc : ByteArray} {nL : Nat} {own : String} {R : Room} {rt : Option FieldType} {md : Nat} {hh : List (Nat × Nat × Nat × Nat)} {ret : Option jV → jM → Prop} {thr : String → jM → Prop} {mc ms : Nat}
variable {pc pc' : Nat} {L : List (Option jV)} {st : List jV} {μ : jM} {k n : Nat}
theorem jAt_obj {D : va_G} {cm : FieldType → ClassId} {ad : Nat → Nat → Nat} {H : Heap} {kd i ci : Nat} (h : jAt D cm ad μ H kd i) (hs : jSh kd = .inl ci) : t_OB (ad kd i) (D.1 ci) (jNf ci) (D.2 ci) H (fun k => jv ad μ (jFt ci k) kd i k) := by
  unfold jAt at h
  rw [hs] at h
  exact h
theorem jAt_row {D : va_G} {cm : FieldType → ClassId} {ad : Nat → Nat → Nat} {H : Heap} {kd i N : Nat} {ty : FieldType} (h : jAt D cm ad μ H kd i) (hs : jSh kd = .inr (ty, N)) : H[ad kd i]? = some (arrV (cm ty) N (fun k => jv ad μ ty kd i k)) := by
  unfold jAt at h
  rw [hs] at h
  exact h
theorem jAt_obj' {D : va_G} {cm : FieldType → ClassId} {ad : Nat → Nat → Nat} {H : Heap} {kd i ci : Nat} (hs : jSh kd = .inl ci) (h : t_OB (ad kd i) (D.1 ci) (jNf ci) (D.2 ci) H (fun k => jv ad μ (jFt ci k) kd i k)) : jAt D cm ad μ H kd i := by
  unfold jAt
  rw [hs]
  exact h
theorem jAt_row' {D : va_G} {cm : FieldType → ClassId} {ad : Nat → Nat → Nat} {H : Heap} {kd i N : Nat} {ty : FieldType} (hs : jSh kd = .inr (ty, N)) (h : H[ad kd i]? = some (arrV (cm ty) N (fun k => jv ad μ ty kd i k))) : jAt D cm ad μ H kd i := by
  unfold jAt
  rw [hs]
  exact h
theorem mj_getI (C : jCtx l J cc nL own R rt md hh ret thr mc ms) {idx kd i ci f : Nat} (hdg : decode cc pc = .ok (.getfield idx, 3)) (hp : pc + 3 = pc') (hs : jSh kd = .inl ci) (hc : ci < 6) (hf : f < jNf ci) (hty : ∀ ad, jv ad μ (jFt ci f) kd i f = .int (mI μ kd i f)) (h61 : kd ≠ 61) (hw : Cond.fieldLink own idx (jTx ci f).1 (jTx ci f).2.1 (jTx ci f).2.2.1 ∈ jWL) (hi : i < mN μ kd) (K : J pc' L (aI (mI μ kd i f) :: st) μ k n) : J pc L (aR kd i :: st) μ k n := by
  obtain ⟨p, e, s, m, args, below, meth, c, D, cm, ad0, μ0, Q, rfl, hx, hb, hml, hrt, hown, hlk, hU, hE⟩ := C
  subst hp
  intro ad H locs ls hT hX hS hL hs9 hl
  obtain ⟨cell, q1, q2, q3, q4⟩ := jAt_obj (hT.1 kd i h61 hi) hs
  obtain ⟨hSl, hfc, kC, hkC, hkind⟩ := hU.1.1 ci _ (jCl_at hc)
  obtain ⟨cf, kf, fi, fd, hfi, hsl⟩ := hSl f hf
  refine W.getf hx hb hown (hU.w hw) hfi (u_facts hfc hkC (u_lays (args := args) (fun w h => hU.w h) (jLay hc) hf) hfi).1 q1 (by rw [q3]; exact fun h => by cases h) (v := .int (mI μ kd i f)) ?_ rfl rfl hdg (K ad H locs ls hT hX hS hL (jst_c trivial (jst_t hs9)) hl)
  rw [hsl, q4 f hf]
  exact congrArg some (hty ad)
theorem mj_getR (C : jCtx l J cc nL own R rt md hh ret thr mc ms) {idx kd i ci f : Nat} {r : Option (Nat × Nat)} (hdg : decode cc pc = .ok (.getfield idx, 3)) (hp : pc + 3 = pc') (hs : jSh kd = .inl ci) (hc : ci < 6) (hf : f < jNf ci) (hty : ∀ ad, jv ad μ (jFt ci f) kd i f = jc ad (aO (mP μ kd i f))) (h61 : kd ≠ 61) (hw : Cond.fieldLink own idx (jTx ci f).1 (jTx ci f).2.1 (jTx ci f).2.2.1 ∈ jWL) (hi : i < mN μ kd) (hr : mP μ kd i f = r) (K : J pc' L (aO r :: st) μ k n) : J pc L (aR kd i :: st) μ k n := by
  obtain ⟨p, e, s, m, args, below, meth, c, D, cm, ad0, μ0, Q, rfl, hx, hb, hml, hrt, hown, hlk, hU, hE⟩ := C
  subst hp
  subst hr
  intro ad H locs ls hT hX hS hL hs9 hl
  obtain ⟨cell, q1, q2, q3, q4⟩ := jAt_obj (hT.1 kd i h61 hi) hs
  obtain ⟨hSl, hfc, kC, hkC, hkind⟩ := hU.1.1 ci _ (jCl_at hc)
  obtain ⟨cf, kf, fi, fd, hfi, hsl⟩ := hSl f hf
  refine W.getf hx hb hown (hU.w hw) hfi (u_facts hfc hkC (u_lays (args := args) (fun w h => hU.w h) (jLay hc) hf) hfi).1 q1 (by rw [q3]; exact fun h => by cases h) (v := jc ad (aO (mP μ kd i f))) ?_ rfl rfl hdg (K ad H locs ls hT hX hS hL (jst_c (jL_O (fun q hq => hT.2.2.1 kd i f q hi hq)) (jst_t hs9)) hl)
  rw [hsl, q4 f hf]
  exact congrArg some (hty ad)
/-- the slots of a make are apart -/
theorem japart {D : va_G} {cm : FieldType → ClassId} {A : Nat → Prop} {s : State} (hU : jU D cm A s) {ci : Nat} (hc : ci < 6) : ∀ x y, x < jNf ci → y < jNf ci → x ≠ y → (D.2 ci) x ≠ (D.2 ci) y := by
  intro x y hx hy hne
  obtain ⟨hS, -⟩ := hU.1.1 ci _ (jCl_at hc)
  obtain ⟨_, _, _, fa, hia, ea⟩ := hS x hx
  obtain ⟨_, _, _, fb, hib, eb⟩ := hS y hy
  rw [← ea, ← eb]
  refine u_apart (u_lays (args := #[]) (fun w h => hU.w h) (jLay hc) hx) (u_lays (args := #[]) (fun w h => hU.w h) (jLay hc) hy) hia hib ?_
  rw [(State.fieldFound?_type hia (jTy_ok hc x hx)).1, (State.fieldFound?_type hib (jTy_ok hc y hy)).1]
  exact jNm_ok hc x hx y hy hne
theorem jv_sI {ad : Nat → Nat → Nat} {ty : FieldType} {a b c x y z : Nat} {v : Int32} (h : ¬ (x = a ∧ y = b ∧ z = c)) : jv ad (sI μ a b c v) ty x y z = jv ad μ ty x y z := by
  unfold jv
  rw [mI_sI_n μ a b c v h]
  rfl
theorem jv_sP {ad : Nat → Nat → Nat} {ty : FieldType} {a b c x y z : Nat} {v : Option (Nat × Nat)} (h : ¬ (x = a ∧ y = b ∧ z = c)) : jv ad (sP μ a b c v) ty x y z = jv ad μ ty x y z := by
  unfold jv
  rw [mP_sP_n μ a b c v h]
  rfl
theorem jv_sG {ad : Nat → Nat → Nat} {ty : FieldType} {a b c x y z : Nat} {v : Int64} (h : ¬ (x = a ∧ y = b ∧ z = c)) : jv ad (sG μ a b c v) ty x y z = jv ad μ ty x y z := by
  unfold jv
  rw [mG_sG, if_neg h]
  rfl
theorem jT_sI {D : va_G} {cm : FieldType → ClassId} {ad : Nat → Nat → Nat} {H H1 : Heap} {kd i f : Nat} {x : Int32} (hT : jT D cm ad μ H) (hi : i < mN μ kd) (hz : H1.size = H.size) (oq : ∀ q : Nat, q ≠ ad kd i → H1[q]? = H[q]?) (hat : jAt D cm ad (sI μ kd i f x) H1 kd i) : jT D cm ad (sI μ kd i f x) H1 :=
  hT.put hi hz oq rfl (fun a b h z => ⟨mI_sI_n μ kd i f x (fun h9 => h ⟨h9.1, h9.2.1⟩), rfl, rfl⟩) hat (fun k q hq => hT.2.2.1 kd i k q hi hq)
theorem jT_sG {D : va_G} {cm : FieldType → ClassId} {ad : Nat → Nat → Nat} {H H1 : Heap} {kd i f : Nat} {x : Int64} (hT : jT D cm ad μ H) (hi : i < mN μ kd) (hz : H1.size = H.size) (oq : ∀ q : Nat, q ≠ ad kd i → H1[q]? = H[q]?) (hat : jAt D cm ad (sG μ kd i f x) H1 kd i) : jT D cm ad (sG μ kd i f x) H1 :=
  hT.put hi hz oq rfl (fun a b h z => ⟨rfl, rfl, by rw [mG_sG, if_neg (fun h9 => h ⟨h9.1, h9.2.1⟩)]⟩) hat (fun k q hq => hT.2.2.1 kd i k q hi hq)
theorem jT_sP {D : va_G} {cm : FieldType → ClassId} {ad : Nat → Nat → Nat} {H H1 : Heap} {kd i f : Nat} {r : Option (Nat × Nat)} (hT : jT D cm ad μ H) (hi : i < mN μ kd) (hr : jL μ (aO r)) (hz : H1.size = H.size) (oq : ∀ q : Nat, q ≠ ad kd i → H1[q]? = H[q]?) (hat : jAt D cm ad (sP μ kd i f r) H1 kd i) : jT D cm ad (sP μ kd i f r) H1 :=
  hT.put hi hz oq rfl (fun a b h z => ⟨rfl, mP_sP_n μ kd i f r (fun h9 => h ⟨h9.1, h9.2.1⟩), rfl⟩) hat (fun k q hq => by
    rw [mP_sP] at hq
    split at hq
    · subst hq
      exact hr
    · exact hT.2.2.1 kd i k q hi hq)
/-- a field is written: the object behind it -/
theorem jput_obj {D : va_G} {cm : FieldType → ClassId} {ad : Nat → Nat → Nat} {μ' : jM} {A : Nat → Prop} {s : State} (hU : jU D cm A s) {ci kd i f : Nat} (hc : ci < 6) (hf : f < jNf ci) (hs : jSh kd = .inl ci) {H1 : Heap} {cell : Cell} {v : Value} (e1 : H1[ad kd i]? = some (cell.setSlot (D.2 ci f) v)) (q2 : cell.cls = D.1 ci) (q3 : cell.vm = .none) (q4 : ∀ k, k < jNf ci → cell.slots[D.2 ci k]? = some (jv ad μ (jFt ci k) kd i k))
    (hv : jv ad μ' (jFt ci f) kd i f = v) (ho : ∀ z, z ≠ f → ∀ ty, jv ad μ' ty kd i z = jv ad μ ty kd i z) : jAt D cm ad μ' H1 kd i := by
  refine jAt_obj' hs (t_OB.to (V := updV (fun k => jv ad μ (jFt ci k) kd i k) f v) ⟨_, e1, q2, q3, t_set q4 (japart hU hc) hf v⟩ (fun z _ => ?_))
  by_cases e : z = f
  · subst e
    show updV _ z v z = _
    rw [hv]
    simp [updV]
  · rw [ho z e]
    simp [updV, e]
theorem mj_putI (C : jCtx l J cc nL own R rt md hh ret thr mc ms) {idx kd i ci f : Nat} {x : Int32} (hdg : decode cc pc = .ok (.putfield idx, 3)) (hp : pc + 3 = pc') (hs : jSh kd = .inl ci) (hc : ci < 6) (hf : f < jNf ci) (hfin : (jTx ci f).2.2.2 = false) (hty : ∀ (ad : Nat → Nat → Nat) (μ' : jM), jv ad μ' (jFt ci f) kd i f = .int (mI μ' kd i f)) (h61 : kd ≠ 61) (hw : Cond.fieldLink own idx (jTx ci f).1 (jTx ci f).2.1 (jTx ci f).2.2.1 ∈ jWL) (hn9 : narrow (jFt ci f) (.int x) = .int x) (hfit : fits (jFt ci f) (.int x) = true) (hi : i < mN μ kd) (K : J pc' L st (sI μ kd i f x) k n) : J pc L (aI x :: aR kd i :: st) μ k n := by
  obtain ⟨p, e, s, m, args, below, meth, c, D, cm, ad0, μ0, Q, rfl, hx, hb, hml, hrt, hown, hlk, hU, hE⟩ := C
  subst hp
  intro ad H locs ls hT hX hS hL hs9 hl
  obtain ⟨cell, q1, q2, q3, q4⟩ := jAt_obj (hT.1 kd i h61 hi) hs
  obtain ⟨hSl, hfc, kC, hkC, hkind⟩ := hU.1.1 ci _ (jCl_at hc)
  obtain ⟨cf, kf, fi, fd, hfi, hsl⟩ := hSl f hf
  have hlay := hU.w (args := args) (jLay hc _ (u_in_lay (C := jNm ci) (T := jTx ci) hf))
  unfold u_lay at hlay
  rw [if_neg (by rw [hfin]; decide)] at hlay
  have hst := (u_facts hfc hkC (u_lays (args := args) (fun w h => hU.w h) (jLay hc) hf) hfi).1
  have h6 := u_store hfc hkC hkind hlay hfi (jTy_ok hc f hf) hn9 hfit
  refine W.putK hx hb (f := fd) ⟨hown, hU.w hw, ⟨_, _, _, hfi⟩, hst⟩ (by rw [q2]; exact h6) q1 q3 (by rw [hsl]; exact k2_hasslot (q4 f hf)) rfl rfl hdg fun H' e1 e2 e3 => ?_
  rw [hsl] at e1 ⊢
  refine K ad H' _ ls (jT_sI hT hi e2 e3 ?_) (hX.N rfl) (hS.put e2 e3 (hX.A h61 hi)) (fun v hv => jL_mono (fun _ => Nat.le_refl _) v (hL v hv)) (fun v hv => jL_mono (fun _ => Nat.le_refl _) v (jst_t (jst_t hs9) v hv)) hl
  exact jput_obj hU hc hf hs e1 q2 q3 q4 (by rw [hty, mI_sI_s]; rfl) (fun z hz ty => jv_sI (fun h => hz h.2.2))
theorem mj_putIF (C : jCtx l J cc nL own R rt 1 hh ret thr mc ms) {idx kd i ci f : Nat} {x : Int32} (hdg : decode cc pc = .ok (.putfield idx, 3)) (hp : pc + 3 = pc') (hs : jSh kd = .inl ci) (hc : ci < 6) (hf : f < jNf ci) (hfin : (jTx ci f).2.2.2 = true) (hdecl : (jTx ci f).1 = own) (hty : ∀ (ad : Nat → Nat → Nat) (μ' : jM), jv ad μ' (jFt ci f) kd i f = .int (mI μ' kd i f)) (h61 : kd ≠ 61) (hw : Cond.fieldLink own idx (jTx ci f).1 (jTx ci f).2.1 (jTx ci f).2.2.1 ∈ jWL) (hn9 : narrow (jFt ci f) (.int x) = .int x) (hfit : fits (jFt ci f) (.int x) = true) (hi : i < mN μ kd) (K : J pc' L st (sI μ kd i f x) k n) : J pc L (aI x :: aR kd i :: st) μ k n := by
  obtain ⟨p, e, s, m, args, below, meth, c, D, cm, ad0, μ0, Q, rfl, hx, hb, hml, hrt, hown, hlk, hU, hE⟩ := C
  subst hp
  intro ad H locs ls hT hX hS hL hs9 hl
  obtain ⟨cell, q1, q2, q3, q4⟩ := jAt_obj (hT.1 kd i h61 hi) hs
  obtain ⟨hSl, hfc, kC, hkC, hkind⟩ := hU.1.1 ci _ (jCl_at hc)
  obtain ⟨cf, kf, fi, fd, hfi, hsl⟩ := hSl f hf
  have hlay := hU.w (args := args) (jLay hc _ (u_in_lay (C := jNm ci) (T := jTx ci) hf))
  unfold u_lay at hlay
  rw [if_pos hfin] at hlay
  have hst := (u_facts hfc hkC (u_lays (args := args) (fun w h => hU.w h) (jLay hc) hf) hfi).1
  have hcf : m.cls = cf := by
    obtain ⟨_, _, c', _, _, _, -, -, hf', -, -, -, hown2, -⟩ := Cond.laysFinal_spec hlay
    have e1 : c' = cf := by have := hfi.symm.trans hf'; simp at this; exact this.1.symm
    rw [hdecl] at hown2
    rw [← e1]; exact Option.some.inj (hown.symm.trans hown2)
  have h6 := u_fits hfc hkC hkind (Or.inr hlay) hfi (jTy_ok hc f hf) hn9 hfit
  refine W.putFinK hx hb hown (hU.w hw) hfi hst hcf hE.1 (by rw [q2]; exact h6) q1 q3 (by rw [hsl]; exact k2_hasslot (q4 f hf)) rfl rfl hdg fun H' e1 e2 e3 => ?_
  rw [hsl] at e1 ⊢
  refine K ad H' _ ls (jT_sI hT hi e2 e3 ?_) (hX.N rfl) (hS.put e2 e3 (hX.A h61 hi)) (fun v hv => jL_mono (fun _ => Nat.le_refl _) v (hL v hv)) (fun v hv => jL_mono (fun _ => Nat.le_refl _) v (jst_t (jst_t hs9) v hv)) hl
  exact jput_obj hU hc hf hs e1 q2 q3 q4 (by rw [hty, mI_sI_s]; rfl) (fun z hz ty => jv_sI (fun h => hz h.2.2))
theorem mj_putR (C : jCtx l J cc nL own R rt md hh ret thr mc ms) {idx kd i ci f : Nat} {r : Option (Nat × Nat)} (hdg : decode cc pc = .ok (.putfield idx, 3)) (hp : pc + 3 = pc') (hs : jSh kd = .inl ci) (hc : ci < 6) (hf : f < jNf ci) (hfin : (jTx ci f).2.2.2 = false) (hty : ∀ (ad : Nat → Nat → Nat) (μ' : jM), jv ad μ' (jFt ci f) kd i f = jc ad (aO (mP μ' kd i f))) (h61 : kd ≠ 61) (hw : Cond.fieldLink own idx (jTx ci f).1 (jTx ci f).2.1 (jTx ci f).2.2.1 ∈ jWL) (hn9 : ∀ v, narrow (jFt ci f) v = v) (hfit : fits (jFt ci f) .null = true ∧ ∀ q, fits (jFt ci f) (.ref q) = true) (hi : i < mN μ kd) (K : J pc' L st (sP μ kd i f r) k n) : J pc L (aO r :: aR kd i :: st) μ k n := by
  obtain ⟨p, e, s, m, args, below, meth, c, D, cm, ad0, μ0, Q, rfl, hx, hb, hml, hrt, hown, hlk, hU, hE⟩ := C
  subst hp
  intro ad H locs ls hT hX hS hL hs9 hl
  obtain ⟨cell, q1, q2, q3, q4⟩ := jAt_obj (hT.1 kd i h61 hi) hs
  obtain ⟨hSl, hfc, kC, hkC, hkind⟩ := hU.1.1 ci _ (jCl_at hc)
  obtain ⟨cf, kf, fi, fd, hfi, hsl⟩ := hSl f hf
  have hlay := hU.w (args := args) (jLay hc _ (u_in_lay (C := jNm ci) (T := jTx ci) hf))
  unfold u_lay at hlay
  rw [if_neg (by rw [hfin]; decide)] at hlay
  have hst := (u_facts hfc hkC (u_lays (args := args) (fun w h => hU.w h) (jLay hc) hf) hfi).1
  have hfit9 : fits (jFt ci f) (jc ad (aO r)) = true := by
    cases r with
    | none => exact hfit.1
    | some q => exact hfit.2 _
  have h6 := u_store hfc hkC hkind hlay hfi (jTy_ok hc f hf) (hn9 (jc ad (aO r))) hfit9
  refine W.putK hx hb (f := fd) ⟨hown, hU.w hw, ⟨_, _, _, hfi⟩, hst⟩ (by rw [q2]; exact h6) q1 q3 (by rw [hsl]; exact k2_hasslot (q4 f hf)) rfl rfl hdg fun H' e1 e2 e3 => ?_
  rw [hsl] at e1 ⊢
  refine K ad H' _ ls (jT_sP hT hi (jst_h hs9) e2 e3 ?_) (hX.N rfl) (hS.put e2 e3 (hX.A h61 hi)) (fun v hv => jL_mono (fun _ => Nat.le_refl _) v (hL v hv)) (fun v hv => jL_mono (fun _ => Nat.le_refl _) v (jst_t (jst_t hs9) v hv)) hl
  exact jput_obj hU hc hf hs e1 q2 q3 q4 (by rw [hty, mP_sP_s]) (fun z hz ty => jv_sP (fun h => hz h.2.2))
theorem mj_putRF (C : jCtx l J cc nL own R rt 1 hh ret thr mc ms) {idx kd i ci f : Nat} {r : Option (Nat × Nat)} (hdg : decode cc pc = .ok (.putfield idx, 3)) (hp : pc + 3 = pc') (hs : jSh kd = .inl ci) (hc : ci < 6) (hf : f < jNf ci) (hfin : (jTx ci f).2.2.2 = true) (hdecl : (jTx ci f).1 = own) (hty : ∀ (ad : Nat → Nat → Nat) (μ' : jM), jv ad μ' (jFt ci f) kd i f = jc ad (aO (mP μ' kd i f))) (h61 : kd ≠ 61) (hw : Cond.fieldLink own idx (jTx ci f).1 (jTx ci f).2.1 (jTx ci f).2.2.1 ∈ jWL) (hn9 : ∀ v, narrow (jFt ci f) v = v) (hfit : fits (jFt ci f) .null = true ∧ ∀ q, fits (jFt ci f) (.ref q) = true) (hi : i < mN μ kd) (K : J pc' L st (sP μ kd i f r) k n) : J pc L (aO r :: aR kd i :: st) μ k n := by
  obtain ⟨p, e, s, m, args, below, meth, c, D, cm, ad0, μ0, Q, rfl, hx, hb, hml, hrt, hown, hlk, hU, hE⟩ := C
  subst hp
  intro ad H locs ls hT hX hS hL hs9 hl
  obtain ⟨cell, q1, q2, q3, q4⟩ := jAt_obj (hT.1 kd i h61 hi) hs
  obtain ⟨hSl, hfc, kC, hkC, hkind⟩ := hU.1.1 ci _ (jCl_at hc)
  obtain ⟨cf, kf, fi, fd, hfi, hsl⟩ := hSl f hf
  have hlay := hU.w (args := args) (jLay hc _ (u_in_lay (C := jNm ci) (T := jTx ci) hf))
  unfold u_lay at hlay
  rw [if_pos hfin] at hlay
  have hst := (u_facts hfc hkC (u_lays (args := args) (fun w h => hU.w h) (jLay hc) hf) hfi).1
  have hcf : m.cls = cf := by
    obtain ⟨_, _, c', _, _, _, -, -, hf', -, -, -, hown2, -⟩ := Cond.laysFinal_spec hlay
    have e1 : c' = cf := by have := hfi.symm.trans hf'; simp at this; exact this.1.symm
    rw [hdecl] at hown2
    rw [← e1]; exact Option.some.inj (hown.symm.trans hown2)
  have hfit9 : fits (jFt ci f) (jc ad (aO r)) = true := by
    cases r with
    | none => exact hfit.1
    | some q => exact hfit.2 _
  have h6 := u_fits hfc hkC hkind (Or.inr hlay) hfi (jTy_ok hc f hf) (hn9 (jc ad (aO r))) hfit9
  refine W.putFinK hx hb hown (hU.w hw) hfi hst hcf hE.1 (by rw [q2]; exact h6) q1 q3 (by rw [hsl]; exact k2_hasslot (q4 f hf)) rfl rfl hdg fun H' e1 e2 e3 => ?_
  rw [hsl] at e1 ⊢
  refine K ad H' _ ls (jT_sP hT hi (jst_h hs9) e2 e3 ?_) (hX.N rfl) (hS.put e2 e3 (hX.A h61 hi)) (fun v hv => jL_mono (fun _ => Nat.le_refl _) v (hL v hv)) (fun v hv => jL_mono (fun _ => Nat.le_refl _) v (jst_t (jst_t hs9) v hv)) hl
  exact jput_obj hU hc hf hs e1 q2 q3 q4 (by rw [hty, mP_sP_s]) (fun z hz ty => jv_sP (fun h => hz h.2.2))
/-! rows' elements -/
theorem jin {j N : Nat} (h : j < N) (hN : N < 2 ^ 31) (cI : ClassId) (f : Nat → Value) : ¬ (nI j < 0 ∨ (arrV cI N f).slots.size ≤ (nI j).toNatClampNeg) := by
  rw [arrV_size]
  exact nI_in h hN
theorem mj_iald (C : jCtx l J cc nL own R rt md hh ret thr mc ms) {kd i N j : Nat} {x : Int32} (hdg : decode cc pc = .ok (.iaload, 1)) (hp : pc + 1 = pc') (hs : jSh kd = .inr (.int, N)) (h61 : kd ≠ 61) (hN : N < 2 ^ 31) (hi : i < mN μ kd) (hx9 : x = nI j) (hj : j < N) (K : J pc' L (aI (mI μ kd i j) :: st) μ k n) : J pc L (aI x :: aR kd i :: st) μ k n := by
  obtain ⟨p, e, s, m, args, below, meth, c, D, cm, ad0, μ0, Q, rfl, hx, hb, hml, hrt, hown, hlk, hU, hE⟩ := C
  subst hp
  subst hx9
  intro ad H locs ls hT hX hS hL hs9 hl
  have hat := jAt_row (hT.1 kd i h61 hi) hs
  exact W.iald (v := .int (mI μ kd i j)) hx hb hat ((hU.1.2 .int (by simp [jTys])).1 N _) (fun q => by cases q) (jin hj hN _ _) (by rw [nI_clamp (Nat.lt_trans hj hN), arrV_read _ _ hj]; rfl) rfl rfl hdg (K ad H locs ls hT hX hS hL (jst_c trivial (jst_t (jst_t hs9))) hl)
theorem mj_aald (C : jCtx l J cc nL own R rt md hh ret thr mc ms) {kd i N j : Nat} {x : Int32} {ty : FieldType} {r : Option (Nat × Nat)} (hdg : decode cc pc = .ok (.aaload, 1)) (hp : pc + 1 = pc') (hs : jSh kd = .inr (ty, N)) (hmem : ty ∈ jTys) (href : ty.isReference = true) (hty : ∀ ad z, jv ad μ ty kd i z = jc ad (aO (mP μ kd i z))) (h61 : kd ≠ 61) (hN : N < 2 ^ 31) (hi : i < mN μ kd) (hx9 : x = nI j) (hj : j < N) (hr : mP μ kd i j = r) (K : J pc' L (aO r :: st) μ k n) : J pc L (aI x :: aR kd i :: st) μ k n := by
  obtain ⟨p, e, s, m, args, below, meth, c, D, cm, ad0, μ0, Q, rfl, hx, hb, hml, hrt, hown, hlk, hU, hE⟩ := C
  subst hp
  subst hx9
  subst hr
  intro ad H locs ls hT hX hS hL hs9 hl
  have hat := jAt_row (hT.1 kd i h61 hi) hs
  exact W.aald (v := jc ad (aO (mP μ kd i j))) (ty := ty) hx hb hat ((hU.1.2 ty hmem).1 N _) href (fun q => by cases q) (jin hj hN _ _) (by rw [nI_clamp (Nat.lt_trans hj hN), arrV_read _ _ hj, hty ad j]) rfl rfl hdg (K ad H locs ls hT hX hS hL (jst_c (jL_O (fun q hq => hT.2.2.1 kd i j q hi hq)) (jst_t (jst_t hs9))) hl)
/-- an element is written: the row behind it -/
theorem jput_row {D : va_G} {cm : FieldType → ClassId} {ad : Nat → Nat → Nat} {μ' : jM} {kd i N j : Nat} {ty : FieldType} (hs : jSh kd = .inr (ty, N)) {H1 : Heap} {v : Value} (e1 : H1[ad kd i]? = some ((arrV (cm ty) N (fun k => jv ad μ ty kd i k)).setSlot j v)) (hv : jv ad μ' ty kd i j = v) (ho : ∀ z, z ≠ j → jv ad μ' ty kd i z = jv ad μ ty kd i z) : jAt D cm ad μ' H1 kd i := by
  refine jAt_row' hs ?_
  rw [e1, arrV_store]
  refine congrArg some (congrArg (arrV (cm ty) N) (funext fun z => ?_))
  by_cases e : z = j
  · subst e
    rw [hv]
    simp [updV]
  · rw [ho z e]
    simp [updV, e]
theorem mj_iast (C : jCtx l J cc nL own R rt md hh ret thr mc ms) {kd i N j : Nat} {x v : Int32} (hdg : decode cc pc = .ok (.iastore, 1)) (hp : pc + 1 = pc') (hs : jSh kd = .inr (.int, N)) (h61 : kd ≠ 61) (hN : N < 2 ^ 31) (hi : i < mN μ kd) (hx9 : x = nI j) (hj : j < N) (K : J pc' L st (sI μ kd i j v) k n) : J pc L (aI v :: aI x :: aR kd i :: st) μ k n := by
  obtain ⟨p, e, s, m, args, below, meth, c, D, cm, ad0, μ0, Q, rfl, hx, hb, hml, hrt, hown, hlk, hU, hE⟩ := C
  subst hp
  subst hx9
  intro ad H locs ls hT hX hS hL hs9 hl
  have hat := jAt_row (hT.1 kd i h61 hi) hs
  refine W.iast hx hb hat ((hU.1.2 .int (by simp [jTys])).1 N _) (fun q => by cases q) (jin hj hN _ _) rfl rfl hdg fun H1 e1 z oq => ?_
  rw [nI_clamp (Nat.lt_trans hj hN)] at e1 ⊢
  exact K ad H1 _ ls (jT_sI hT hi z oq (jput_row hs e1 (by show Value.int _ = _; rw [mI_sI_s]) (fun z hz => jv_sI (fun h => hz h.2.2)))) (hX.N rfl) (hS.put z oq (hX.A h61 hi)) (fun v hv => jL_mono (fun _ => Nat.le_refl _) v (hL v hv)) (fun v hv => jL_mono (fun _ => Nat.le_refl _) v (jst_t (jst_t (jst_t hs9)) v hv)) hl
theorem mj_aast (C : jCtx l J cc nL own R rt md hh ret thr mc ms) {kd i N j kv iv ci : Nat} {x : Int32} (hdg : decode cc pc = .ok (.aastore, 1)) (hp : pc + 1 = pc') (hs : jSh kd = .inr (.object (jNm ci), N)) (hmem : FieldType.object (jNm ci) ∈ jTys) (hsv : jSh kv = .inl ci) (hc : ci < 6) (h61 : kd ≠ 61) (h62 : kv ≠ 61) (hN : N < 2 ^ 31) (hi : i < mN μ kd) (hiv : iv < mN μ kv) (hx9 : x = nI j) (hj : j < N) (K : J pc' L st (sP μ kd i j (some (kv, iv))) k n) : J pc L (aR kv iv :: aI x :: aR kd i :: st) μ k n := by
  obtain ⟨p, e, s, m, args, below, meth, c, D, cm, ad0, μ0, Q, rfl, hx, hb, hml, hrt, hown, hlk, hU, hE⟩ := C
  subst hp
  subst hx9
  intro ad H locs ls hT hX hS hL hs9 hl
  have hat := jAt_row (hT.1 kd i h61 hi) hs
  obtain ⟨cellV, g1, g2, g3, -⟩ := jAt_obj (hT.1 kv iv h62 hiv) hsv
  have hcls := (hU.1.1 ci _ (jCl_at hc)).2
  obtain ⟨kA, comp, k1, k2, k3, -⟩ := (hU.1.2 _ hmem).2
  have hcomp : comp = D.1 ci := Option.some.inj (k3.symm.trans hcls.1)
  subst hcomp
  obtain ⟨kC, hkC, -⟩ := hcls.2
  refine W.aast hx hb hat (fun q h => by cases h) (fun h => by cases h) k1 k2 rfl hkC ⟨nI_pos (Nat.lt_trans hj hN), by rw [arrV_size, nI_clamp (Nat.lt_trans hj hN)]; exact hj⟩ g1 (fun q h => by rw [g3] at h; cases h) (by rw [g2]; exact hkC) (by rw [g2]; exact va_assign hcls) rfl rfl hdg fun H1 e1 z oq => ?_
  rw [nI_clamp (Nat.lt_trans hj hN)] at e1 ⊢
  exact K ad H1 _ ls (jT_sP hT hi (jst_h hs9) z oq (jput_row hs e1 (by show jc ad (aO _) = _; rw [mP_sP_s]; rfl) (fun z hz => jv_sP (fun h => hz h.2.2)))) (hX.N rfl) (hS.put z oq (hX.A h61 hi)) (fun v hv => jL_mono (fun _ => Nat.le_refl _) v (hL v hv)) (fun v hv => jL_mono (fun _ => Nat.le_refl _) v (jst_t (jst_t (jst_t hs9)) v hv)) hl
end JHEAP
