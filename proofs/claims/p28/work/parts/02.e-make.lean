/-! WHAT IS MADE -/
section JMAKE
variable {l : Launch} {J : Nat → List (Option jV) → List jV → jM → Nat → Nat → Prop} {cc : ByteArray} {nL : Nat} {own : String} {R : Room} {rt : Option FieldType} {md : Nat} {hh : List (Nat × Nat × Nat × Nat)} {ret : Option jV → jM → Prop} {thr : String → jM → Prop} {mc ms : Nat}
variable {pc pc' : Nat} {L : List (Option jV)} {st : List jV} {μ : jM} {k n : Nat}
theorem jX.new {ad0 ad : Nat → Nat → Nat} {μ0 : jM} {sz kd h : Nat} (hX : jX ad0 μ0 sz ad μ) (hs : sz ≤ h) : jX ad0 μ0 sz (ua ad kd (mN μ kd) h) (nw μ kd) := by
  refine ⟨fun x => ?_, fun x y hy => ?_, fun x y h61 hy hy2 => ?_⟩
  · rw [mN_nw]
    have := hX.1 x
    split
    · rename_i e
      rw [e] at this ⊢
      omega
    · exact this
  · unfold ua
    rw [if_neg]
    · exact hX.2.1 x y hy
    · rintro ⟨rfl, rfl⟩
      have := hX.1 x
      omega
  · unfold ua
    split
    · exact hs
    · rename_i e
      refine hX.2.2 x y h61 hy ?_
      rw [mN_nw] at hy2
      split at hy2
      · rename_i e2
        subst e2
        have : y ≠ mN μ x := fun e3 => e ⟨rfl, e3⟩
        omega
      · exact hy2
theorem nw_mono (μ : jM) (kd : Nat) : ∀ x, mN μ x ≤ mN (nw μ kd) x := fun x => by
  rw [mN_nw]
  split
  · rename_i e
    rw [e]
    omega
  · exact Nat.le_refl _
theorem ua_same {ad : Nat → Nat → Nat} {kd h : Nat} : ∀ x y, y < mN μ x → ua ad kd (mN μ kd) h x y = ad x y := fun x y hy => by
  unfold ua
  rw [if_neg]
  rintro ⟨rfl, rfl⟩
  exact Nat.lt_irrefl _ hy
theorem va_S.grow {A : Nat → Prop} {H0 H H1 : Heap} {locs : List Loc} (h : va_S A H0 H locs) (z : H.size ≤ H1.size) (o : ∀ q, q < H.size → H1[q]? = H[q]?) : va_S A H0 H1 locs :=
  ⟨Nat.le_trans h.1 z, fun q h1 h2 => (o q (Nat.lt_of_lt_of_le h1 h.1)).trans (h.2.1 q h1 h2), h.2.2⟩
theorem jv_new {ad : Nat → Nat → Nat} {kd f : Nat} (ty : FieldType) (h1 : ty ≠ .float) (h2 : ty ≠ .double) : jv ad (nw μ kd) ty kd (mN μ kd) f = defaultValue ty := by
  have q1 : mI (nw μ kd) kd (mN μ kd) f = 0 := by rw [mI_nw, if_pos ⟨rfl, Nat.le_refl _⟩]
  have q2 : mP (nw μ kd) kd (mN μ kd) f = none := by rw [mP_nw, if_pos ⟨rfl, Nat.le_refl _⟩]
  have q3 : mG (nw μ kd) kd (mN μ kd) f = 0 := by rw [mG_nw, if_pos ⟨rfl, Nat.le_refl _⟩]
  unfold jv
  cases ty <;> simp_all [defaultValue, jc]
theorem mj_newa (C : jCtx l J cc nL own R rt md hh ret thr mc ms) {at9 : ArrayType} {ty : FieldType} {kd N : Nat} {x : Int32} (hdg : decode cc pc = .ok (.newarray at9, 2)) (hp : pc + 2 = pc') (hty : newarray.typeOf at9 = ty) (hs : jSh kd = .inr (ty, N)) (h61 : kd ≠ 61) (hmem : ty ∈ jTys) (hd : ty ≠ .float ∧ ty ≠ .double ∧ ∀ C9, ty ≠ .object C9) (hN : N < 2 ^ 31) (hx9 : x = nI N) (hw : Cond.arrayClass ty ∈ jWL) (hb9 : N * componentBytes ty ≤ 536870912) (hk : k + 1 ≤ R.cells) (hn : n + N ≤ R.slots)
    (K : J pc' L (aR kd (mN μ kd) :: st) (nw μ kd) (k + 1) (n + N)) : J pc L (aI x :: st) μ k n := by
  obtain ⟨p, e, s, m, args, below, meth, c, D, cm, ad0, μ0, Q, rfl, hx, hb, hml, hrt, hown, hlk, hU, hE⟩ := C
  subst hp
  subst hx9
  subst hty
  intro ad H locs ls hT hX hS hL hs9 hl
  refine va_newaK hx hb (hU.w hw) rfl hdg rfl (nI_pos hN) (nI_clamp hN) hb9 hk hn rfl fun H' cA f1 f2 f3 f4 f5 => ?_
  have hcA : cA = cm (newarray.typeOf at9) := by
    have h9 := (hU.1.2 _ hmem).2
    generalize newarray.typeOf at9 = ty at h9 f5 hd
    unfold va_RA at h9
    split at h9
    · rename_i C9
      exact absurd rfl (hd.2.2 C9)
    · exact Option.some.inj (f5.symm.trans h9)
  subst hcA
  have hst : aR kd (mN μ kd) :: st = aR kd (mN μ kd) :: st := rfl
  have hu := ua_same (μ := μ) (ad := ad) (kd := kd) (h := H.size)
  have hT' : jT D cm (ua ad kd (mN μ kd) H.size) (nw μ kd) H' := hT.push f2 f3 h61 (jAt_row' hs (by
    have e0 : ua ad kd (mN μ kd) H.size kd (mN μ kd) = H.size := if_pos ⟨rfl, rfl⟩
    rw [e0, f1]
    refine congrArg some (congrArg (arrV _ N) (funext fun z => (jv_new _ hd.1 hd.2.1).symm))))
  have k0 := K (ua ad kd (mN μ kd) H.size) H' locs ls hT' (hX.new hS.1) (hS.grow (by omega) f3) (fun v hv => jL_mono (nw_mono μ kd) v (hL v hv)) (jst_c (by show mN μ kd < mN (nw μ kd) kd; rw [mN_nw, if_pos rfl]; omega) (fun v hv => jL_mono (nw_mono μ kd) v (jst_t hs9 v hv))) (by rw [jLs_same hu L 0 hL]; exact hl)
  have e1 : (aR kd (mN μ kd) :: st).map (jc (ua ad kd (mN μ kd) H.size)) = .ref H.size :: st.map (jc ad) := by
    rw [List.map_cons, jcs_same hu (jst_t hs9)]
    refine congrArg (· :: _) ?_
    show Value.ref (ua ad kd (mN μ kd) H.size kd (mN μ kd)) = _
    rw [show ua ad kd (mN μ kd) H.size kd (mN μ kd) = H.size from if_pos ⟨rfl, rfl⟩]
  rw [e1] at k0
  exact k0
theorem mj_newr (C : jCtx l J cc nL own R rt md hh ret thr mc ms) {idx ci kd N : Nat} {x : Int32} (hdg : decode cc pc = .ok (.anewarray idx, 3)) (hp : pc + 3 = pc') (hs : jSh kd = .inr (.object (jNm ci), N)) (h61 : kd ≠ 61) (hmem : FieldType.object (jNm ci) ∈ jTys) (ho : ∀ U, jOver U → va_AO (jNm ci) U) (hN : N < 2 ^ 31) (hx9 : x = nI N) (hw : Cond.classLink own idx (jNm ci) ∈ jWL) (hb9 : N * 4 ≤ 536870912) (hk : k + 1 ≤ R.cells) (hn : n + N ≤ R.slots)
    (K : J pc' L (aR kd (mN μ kd) :: st) (nw μ kd) (k + 1) (n + N)) : J pc L (aI x :: st) μ k n := by
  obtain ⟨p, e, s, m, args, below, meth, c, D, cm, ad0, μ0, Q, rfl, hx, hb, hml, hrt, hown, hlk, hU, hE⟩ := C
  subst hp
  subst hx9
  intro ad H locs ls hT hX hS hL hs9 hl
  refine W.anew hx hb hown (hU.w hw) (va_AO.use (ho s hU.2.2.1)) rfl hdg rfl (nI_pos hN) (by rw [nI_clamp hN]; exact hb9) hk (by rw [nI_clamp hN]; exact hn) fun cA kA comp f1 f2 f3 f4 => ?_
  rw [nI_clamp hN]
  have hcA : cA = cm (.object (jNm ci)) := by
    obtain ⟨_, _, _, _, _, h9⟩ := (hU.1.2 _ hmem).2
    exact Option.some.inj (f1.symm.trans h9)
  subst hcA
  have hu := ua_same (μ := μ) (ad := ad) (kd := kd) (h := H.size)
  have hz : (H.push ({ cls := cm (.object (jNm ci)), slots := Array.replicate N .null, vm := .none } : Cell)).size = H.size + 1 := Array.size_push ..
  have f3 : ∀ q : Nat, q < H.size → (H.push ({ cls := cm (.object (jNm ci)), slots := Array.replicate N .null, vm := .none } : Cell))[q]? = H[q]? := fun q hq => by rw [Array.getElem?_push, if_neg (Nat.ne_of_lt hq)]
  have f0 : (H.push ({ cls := cm (.object (jNm ci)), slots := Array.replicate N .null, vm := .none } : Cell))[H.size]? = some (arrV (cm (.object (jNm ci))) N (fun _ => .null)) := by rw [← arrV_new]; simp
  generalize H.push ({ cls := cm (.object (jNm ci)), slots := Array.replicate N .null, vm := .none } : Cell) = H' at hz f3 f0
  have hT' : jT D cm (ua ad kd (mN μ kd) H.size) (nw μ kd) H' := hT.push hz f3 h61 (jAt_row' hs (by
    have e0 : ua ad kd (mN μ kd) H.size kd (mN μ kd) = H.size := if_pos ⟨rfl, rfl⟩
    rw [e0, f0]
    refine congrArg some (congrArg (arrV _ N) (funext fun z => (jv_new (FieldType.object (jNm ci)) (fun h => by cases h) (fun h => by cases h)).symm))))
  have k0 := K (ua ad kd (mN μ kd) H.size) H' locs ls hT' (hX.new hS.1) (hS.grow (by omega) f3) (fun v hv => jL_mono (nw_mono μ kd) v (hL v hv)) (jst_c (by show mN μ kd < mN (nw μ kd) kd; rw [mN_nw, if_pos rfl]; omega) (fun v hv => jL_mono (nw_mono μ kd) v (jst_t hs9 v hv))) (by rw [jLs_same hu L 0 hL]; exact hl)
  have e1 : (aR kd (mN μ kd) :: st).map (jc (ua ad kd (mN μ kd) H.size)) = .ref H.size :: st.map (jc ad) := by
    rw [List.map_cons, jcs_same hu (jst_t hs9)]
    refine congrArg (· :: _) ?_
    show Value.ref (ua ad kd (mN μ kd) H.size kd (mN μ kd)) = _
    rw [show ua ad kd (mN μ kd) H.size kd (mN μ kd) = H.size from if_pos ⟨rfl, rfl⟩]
  rw [e1] at k0
  exact k0
theorem jFt_nf {ci : Nat} (h : ci < 6) : ∀ f, f < jNf ci → jFt ci f ≠ .float ∧ jFt ci f ≠ .double := by
  rcases (show ci = 0 ∨ ci = 1 ∨ ci = 2 ∨ ci = 3 ∨ ci = 4 ∨ ci = 5 by omega) with rfl | rfl | rfl | rfl | rfl | rfl <;> decide +kernel
theorem mj_new (C : jCtx l J cc nL own R rt md hh ret thr mc ms) {idx ci kd : Nat} (hdg : decode cc pc = .ok (.new idx, 3)) (hp : pc + 3 = pc') (hs : jSh kd = .inl ci) (hc : ci < 6) (h61 : kd ≠ 61) (hw1 : Cond.classLink own idx (jNm ci) ∈ jWL) (hw2 : Cond.instantiable (jNm ci) (jNf ci) ∈ jWL) (hw3 : Cond.initialized (jNm ci) ∈ jWL) (hk : k + 1 ≤ R.cells) (hn : n + jNf ci ≤ R.slots)
    (K : J pc' L (aR kd (mN μ kd) :: st) (nw μ kd) (k + 1) (n + jNf ci)) : J pc L st μ k n := by
  obtain ⟨p, e, s, m, args, below, meth, c, D, cm, ad0, μ0, Q, rfl, hx, hb, hml, hrt, hown, hlk, hU, hE⟩ := C
  subst hp
  intro ad H locs ls hT hX hS hL hs9 hl
  have hKn := hU.1.1 ci _ (jCl_at hc)
  refine W.newcK hx hb hown (hU.w hw1) (hU.w hw2) (hU.w hw3) rfl hdg hk hn hKn.2.1 rfl fun H' kC hkC f1 f2 f3 => ?_
  have hu := ua_same (μ := μ) (ad := ad) (kd := kd) (h := H.size)
  have hob := u_born (jFt ci) (ws := jWL) (args := args) (fun w h => hU.w h) (jLay hc) hKn hkC f1 (jTy_ok hc)
  have hT' : jT D cm (ua ad kd (mN μ kd) H.size) (nw μ kd) H' := hT.push f2 f3 h61 (jAt_obj' hs (by
    have e0 : ua ad kd (mN μ kd) H.size kd (mN μ kd) = H.size := if_pos ⟨rfl, rfl⟩
    rw [e0]
    exact hob.to (fun z hz => (jv_new _ (jFt_nf hc z hz).1 (jFt_nf hc z hz).2).symm)))
  have k0 := K (ua ad kd (mN μ kd) H.size) H' locs ls hT' (hX.new hS.1) (hS.grow (by omega) f3) (fun v hv => jL_mono (nw_mono μ kd) v (hL v hv)) (jst_c (by show mN μ kd < mN (nw μ kd) kd; rw [mN_nw, if_pos rfl]; omega) (fun v hv => jL_mono (nw_mono μ kd) v (hs9 v hv))) (by rw [jLs_same hu L 0 hL]; exact hl)
  have e1 : (aR kd (mN μ kd) :: st).map (jc (ua ad kd (mN μ kd) H.size)) = .ref H.size :: st.map (jc ad) := by
    rw [List.map_cons, jcs_same hu hs9]
    refine congrArg (· :: _) ?_
    show Value.ref (ua ad kd (mN μ kd) H.size kd (mN μ kd)) = _
    rw [show ua ad kd (mN μ kd) H.size kd (mN μ kd) = H.size from if_pos ⟨rfl, rfl⟩]
  rw [e1] at k0
  exact k0
theorem mj_objInit (C : jCtx l J cc nL own R rt md hh ret thr mc ms) {idx kd i : Nat} (hdg : decode cc pc = .ok (.invokespecial idx, 3)) (hp : pc + 3 = pc') (hw1 : Cond.methodLink own idx Lib.objectInit ∈ jWL) (hw2 : Cond.instanceMethod Lib.objectInit ∈ jWL) (hw3 : Cond.code Lib.objectInit ⟨#[0xb1]⟩ 1 none ∈ jWL) (hf : 1 ≤ R.frames) (hlo : (st.map jcat).sum + 12 ≤ R.locals) (K : J pc' L st μ k n) : J pc L (aR kd i :: st) μ k n := by
  obtain ⟨p, e, s, m, args, below, meth, c, D, cm, ad0, μ0, Q, rfl, hx, hb, hml, hrt, hown, hlk, hU, hE⟩ := C
  subst hp
  intro ad H locs ls hT hX hS hL hs9 hl
  refine W.objInit hx hb hown (hU.w hw1) (hU.w hw2) (hU.w hw3) rfl (hl.1.trans hml.symm) rfl hdg hf ?_ (K ad H locs ls hT hX hS hL (jst_t hs9) hl)
  rw [jc_cats]
  show 2 * 0 + _ + 12 ≤ _
  omega
/-! new T[n][m] -/
def uam (ad : Nat → Nat → Nat) (kO iO kI iI h : Nat) : Nat → Nat → Nat := fun x y => if x = kO ∧ y = iO then h else if x = kI ∧ iI ≤ y then h + 1 + (y - iI) else ad x y
theorem mN_nwm (μ : jM) (a r c x : Nat) (hne : a ≠ r) : mN (nwm μ a r c) x = if x = r then mN μ r + c else if x = a then mN μ a + 1 else mN μ x := by
  show up1 (up1 (mN μ) a (mN μ a + 1)) r (mN μ r + c) x = _
  unfold up1
  rfl
theorem mI_nwm (μ : jM) (a r c x y z : Nat) : mI (nwm μ a r c) x y z = if x = r ∧ mN μ r ≤ y then 0 else if x = a ∧ mN μ a ≤ y then 0 else mI μ x y z := rfl
theorem mG_nwm (μ : jM) (a r c x y z : Nat) : mG (nwm μ a r c) x y z = if x = r ∧ mN μ r ≤ y then 0 else if x = a ∧ mN μ a ≤ y then 0 else mG μ x y z := rfl
theorem mP_nwm (μ : jM) (a r c x y z : Nat) : mP (nwm μ a r c) x y z = if x = a ∧ y = mN μ a ∧ z < c then some (r, mN μ r + z) else if x = r ∧ mN μ r ≤ y then none else if x = a ∧ mN μ a ≤ y then none else mP μ x y z := rfl
theorem nwm_mono (μ : jM) (a r c : Nat) (hne : a ≠ r) : ∀ x, mN μ x ≤ mN (nwm μ a r c) x := fun x => by
  rw [mN_nwm μ a r c x hne]
  split
  · rename_i e; rw [e]; omega
  · split
    · rename_i e; rw [e]; omega
    · omega
theorem uam_same {ad : Nat → Nat → Nat} {a r h : Nat} : ∀ x y, y < mN μ x → uam ad a (mN μ a) r (mN μ r) h x y = ad x y := fun x y hy => by
  unfold uam
  rw [if_neg, if_neg]
  · rintro ⟨rfl, h9⟩
    omega
  · rintro ⟨rfl, rfl⟩
    exact Nat.lt_irrefl _ hy
theorem jT.pushm {D : va_G} {cm : FieldType → ClassId} {ad : Nat → Nat → Nat} {H H1 : Heap} {a r c : Nat} (hT : jT D cm ad μ H) (hne : a ≠ r) (hz : H1.size = H.size + 1 + c) (oq : ∀ q : Nat, q < H.size → H1[q]? = H[q]?)
    (hO : jAt D cm (uam ad a (mN μ a) r (mN μ r) H.size) (nwm μ a r c) H1 a (mN μ a)) (hI : ∀ j, j < c → jAt D cm (uam ad a (mN μ a) r (mN μ r) H.size) (nwm μ a r c) H1 r (mN μ r + j)) : jT D cm (uam ad a (mN μ a) r (mN μ r) H.size) (nwm μ a r c) H1 := by
  obtain ⟨h1, h2, h3, h4⟩ := hT
  have hu := uam_same (μ := μ) (ad := ad) (a := a) (r := r) (h := H.size)
  have key : ∀ x y, y < mN (nwm μ a r c) x → (y < mN μ x ∧ uam ad a (mN μ a) r (mN μ r) H.size x y = ad x y ∧ ad x y < H.size) ∨ (x = a ∧ y = mN μ a ∧ uam ad a (mN μ a) r (mN μ r) H.size x y = H.size) ∨ (x = r ∧ ∃ j, j < c ∧ y = mN μ r + j ∧ uam ad a (mN μ a) r (mN μ r) H.size x y = H.size + 1 + j) := fun x y hy => by
    by_cases e : y < mN μ x
    · exact Or.inl ⟨e, hu x y e, h4 x y e⟩
    · rw [mN_nwm μ a r c x hne] at hy
      split at hy
      · rename_i e2
        subst e2
        refine Or.inr (Or.inr ⟨rfl, y - mN μ x, by omega, by omega, ?_⟩)
        unfold uam
        rw [if_neg (fun h => hne h.1.symm), if_pos ⟨rfl, by omega⟩]
      · split at hy
        · rename_i e2
          subst e2
          refine Or.inr (Or.inl ⟨rfl, by omega, ?_⟩)
          unfold uam
          rw [if_pos ⟨rfl, by omega⟩]
        · exact absurd hy e
  refine ⟨fun x y hx hy => ?_, fun x y x2 y2 ha hb hab => ?_, fun x y k q hy hq => ?_, fun x y hy => ?_⟩
  · rcases key x y hy with ⟨g1, g2, g3⟩ | ⟨rfl, rfl, -⟩ | ⟨rfl, j, hj, rfl, -⟩
    · refine ((h1 x y hx g1).kept (oq _ g3)).to g2 (fun ty k => ?_)
      have e1 : ¬ (x = r ∧ mN μ r ≤ y) := by rintro ⟨rfl, h9⟩; omega
      have e2 : ¬ (x = a ∧ mN μ a ≤ y) := by rintro ⟨rfl, h9⟩; omega
      have e3 : ¬ (x = a ∧ y = mN μ a ∧ k < c) := by rintro ⟨rfl, rfl, h9⟩; omega
      have q1 : mI (nwm μ a r c) x y k = mI μ x y k := by rw [mI_nwm, if_neg e1, if_neg e2]
      have q2 : mP (nwm μ a r c) x y k = mP μ x y k := by rw [mP_nwm, if_neg e3, if_neg e1, if_neg e2]
      have q3 : mG (nwm μ a r c) x y k = mG μ x y k := by rw [mG_nwm, if_neg e1, if_neg e2]
      have q4 := jc_same (μ := μ) hu (aO (mP μ x y k)) (jL_O (fun q hq => h3 x y k q g1 hq))
      unfold jv
      cases ty <;> simp [q1, q2, q3, q4]
    · exact hO
    · exact hI j hj
  · rcases key x y ha with ⟨g1, g2, g3⟩ | ⟨rfl, rfl, g3⟩ | ⟨rfl, j, hj, rfl, g3⟩ <;> rcases key x2 y2 hb with ⟨f1, f2, f3⟩ | ⟨rfl, rfl, f3⟩ | ⟨rfl, j2, hj2, rfl, f3⟩
    · rw [g2, f2] at hab
      exact h2 x y x2 y2 g1 f1 hab
    · rw [g2, f3] at hab
      omega
    · rw [g2, f3] at hab
      omega
    · rw [g3, f2] at hab
      omega
    · exact ⟨rfl, rfl⟩
    · rw [g3, f3] at hab
      omega
    · rw [g3, f2] at hab
      omega
    · rw [g3, f3] at hab
      omega
    · rw [g3, f3] at hab
      exact ⟨rfl, by omega⟩
  · have hmono := nwm_mono μ a r c hne
    rw [mP_nwm] at hq
    split at hq
    · rename_i e
      cases hq
      show mN μ r + k < mN (nwm μ a r c) r
      rw [mN_nwm μ a r c r hne, if_pos rfl]
      omega
    · split at hq
      · cases hq
      · split at hq
        · cases hq
        · rename_i e1 e2 e3
          have hy2 : y < mN μ x := by
            rcases key x y hy with ⟨g1, -⟩ | ⟨g1, g2, -⟩ | ⟨g1, j, -, g2, -⟩
            · exact g1
            · exact absurd ⟨g1, by omega⟩ e3
            · exact absurd ⟨g1, by omega⟩ e2
          exact Nat.lt_of_lt_of_le (h3 x y k q hy2 hq) (hmono q.1)
  · rw [hz]
    rcases key x y hy with ⟨g1, g2, g3⟩ | ⟨rfl, rfl, g3⟩ | ⟨rfl, j, hj, rfl, g3⟩
    · rw [g2]; omega
    · rw [g3]; omega
    · rw [g3]; omega
theorem jX.newm {ad0 ad : Nat → Nat → Nat} {μ0 : jM} {sz a r c h : Nat} (hX : jX ad0 μ0 sz ad μ) (hne : a ≠ r) (hs : sz ≤ h) : jX ad0 μ0 sz (uam ad a (mN μ a) r (mN μ r) h) (nwm μ a r c) := by
  refine ⟨fun x => Nat.le_trans (hX.1 x) (nwm_mono μ a r c hne x), fun x y hy => ?_, fun x y h61 hy hy2 => ?_⟩
  · rw [uam_same x y (Nat.lt_of_lt_of_le hy (hX.1 x))]
    exact hX.2.1 x y hy
  · by_cases e : y < mN μ x
    · rw [uam_same x y e]
      exact hX.2.2 x y h61 hy e
    · unfold uam
      split
      · exact hs
      · split
        · omega
        · rename_i e1 e2
          rw [mN_nwm μ a r c x hne] at hy2
          split at hy2
          · rename_i e3
            subst e3
            exact absurd ⟨rfl, by omega⟩ e2
          · split at hy2
            · rename_i e3
              subst e3
              exact absurd ⟨rfl, by omega⟩ e1
            · exact absurd hy2 e
theorem mj_mnew (C : jCtx l J cc nL own R rt md hh ret thr mc ms) {idx a r N M : Nat} {x y : Int32} (hdg : decode cc pc = .ok (.multianewarray idx 2, 4)) (hp : pc + 4 = pc') (hsO : jSh a = .inr (.array .int, N)) (hsI : jSh r = .inr (.int, M)) (hne : a ≠ r) (hN : N < 2 ^ 20) (hM : M < 2 ^ 20) (hx9 : x = nI N) (hy9 : y = nI M) (hw1 : Cond.classLink own idx ("[" ++ (FieldType.array .int).toString) ∈ jWL) (hw2 : Cond.arrayClass .int ∈ jWL) (hk : k + (1 + N) ≤ R.cells) (hn : n + (N + N * M) ≤ R.slots)
    (K : J pc' L (aR a (mN μ a) :: st) (nwm μ a r N) (k + 1 + N) (n + N + N * M)) : J pc L (aI y :: aI x :: st) μ k n := by
  obtain ⟨p, e, s, m, args, below, meth, c, D, cm, ad0, μ0, Q, rfl, hx, hb, hml, hrt, hown, hlk, hU, hE⟩ := C
  subst hp
  subst hx9
  subst hy9
  intro ad H locs ls hT hX hS hL hs9 hl
  have eN : (nI N).toNatClampNeg = N := nI_clamp (by omega)
  have eM : (nI M).toNatClampNeg = M := nI_clamp (by omega)
  intro T hT9 Xs
  obtain ⟨vm₁, cA, comp, -, fA, fC, -, -, X', step⟩ := Xs.multianewarray2F hx hown (hU.w hw1) (va_AOA.use hU.2.2.1.2.2.2.2) (hU.w hw2) (g := F0 m pc ls (.int (nI M) :: .int (nI N) :: st.map (jc ad))) rfl (by rw [hb]; exact hdg) rfl (nI_pos (by omega)) (nI_pos (by omega)) (by rw [eN]; omega) (by rw [eM]; show M * 4 ≤ _; omega) (by rw [eM]; omega) rfl rfl (by rw [eN]; exact hk) (by rw [eN, eM]; exact hn)
  rw [eN, eM] at X' step
  have hcO : cA = cm (.array .int) := by
    have h9 : s.vm.findClass ("[" ++ (FieldType.array .int).toString) = some (cm (.array .int)) := (hU.1.2 (.array .int) (by simp [jTys])).2
    exact Option.some.inj (fA.symm.trans h9)
  have hcI : comp = cm .int := by
    have h9 : s.vm.findClass ("[" ++ (FieldType.int).toString) = some (cm .int) := (hU.1.2 .int (by simp [jTys])).2
    exact Option.some.inj (fC.symm.trans h9)
  subst hcO
  subst hcI
  have hTh : (T.setVm vm₁).heap = H := hT9
  obtain ⟨f1, f2, -, -⟩ := Jvm.Free.Multi.fill_facts (T.setVm vm₁) (cm (.array .int)) (cm .int) N M (defaultValue .int) N
  have hold : ∀ q : Nat, q < H.size → (Jvm.Free.Multi.fill (T.setVm vm₁) (cm (.array .int)) (cm .int) N M (defaultValue .int) N).heap[q]? = H[q]? := fun q hq => by
    have := Jvm.Free.Multi.fill_old (T.setVm vm₁) (cm (.array .int)) (cm .int) N M (defaultValue .int) (a := q) (by rw [hTh]; exact hq) N
    rw [hTh] at this
    exact this
  have hrow : ∀ j : Nat, j < N → (Jvm.Free.Multi.fill (T.setVm vm₁) (cm (.array .int)) (cm .int) N M (defaultValue .int) N).heap[H.size + 1 + j]? = some (arrV (cm .int) M (fun _ => .int 0)) := fun j hj => by
    have := Jvm.Free.Multi.fill_inner (T.setVm vm₁) (cm (.array .int)) (cm .int) N M (defaultValue .int) N j hj
    rw [hTh] at this
    rw [← arrV_new]
    exact this
  rw [hTh] at f1 f2
  have hout := vr_outer (cm (.array .int)) N H.size N
  rw [hout] at f2
  generalize Jvm.Free.Multi.fill (T.setVm vm₁) (cm (.array .int)) (cm .int) N M (defaultValue .int) N = F at f1 f2 hold hrow X' step
  have hu := uam_same (μ := μ) (ad := ad) (a := a) (r := r) (h := H.size)
  have aO9 : uam ad a (mN μ a) r (mN μ r) H.size a (mN μ a) = H.size := if_pos ⟨rfl, rfl⟩
  have aI9 : ∀ j, uam ad a (mN μ a) r (mN μ r) H.size r (mN μ r + j) = H.size + 1 + j := fun j => by
    unfold uam
    rw [if_neg (fun h => hne h.1.symm), if_pos ⟨rfl, by omega⟩]
    omega
  have hT' : jT D cm (uam ad a (mN μ a) r (mN μ r) H.size) (nwm μ a r N) F.heap := by
    refine hT.pushm hne f1 hold (jAt_row' hsO ?_) (fun j hj => jAt_row' hsI ?_)
    · rw [aO9, f2]
      refine congrArg some (congrArg (arrV _ N) (funext fun z => ?_))
      show _ = jc _ (aO (mP (nwm μ a r N) a (mN μ a) z))
      rw [mP_nwm]
      by_cases hz : z < N
      · rw [if_pos hz, if_pos ⟨rfl, rfl, hz⟩]
        show Value.ref (H.size + 1 + z) = Value.ref (uam ad a (mN μ a) r (mN μ r) H.size r (mN μ r + z))
        rw [aI9]
      · rw [if_neg hz, if_neg (fun h => hz h.2.2), if_neg (fun h => hne h.1), if_pos ⟨rfl, Nat.le_refl _⟩]
        rfl
    · rw [aI9, hrow j hj]
      refine congrArg some (congrArg (arrV _ M) (funext fun z => ?_))
      show _ = Value.int (mI (nwm μ a r N) r (mN μ r + j) z)
      rw [mI_nwm, if_pos ⟨rfl, by omega⟩]
  have k0 := K _ F.heap locs ls hT' (hX.newm hne hS.1) (hS.grow (by omega) hold) (fun v hv => jL_mono (nwm_mono μ a r N hne) v (hL v hv)) (jst_c (by show mN μ a < mN (nwm μ a r N) a; rw [mN_nwm μ a r N a hne, if_neg hne, if_pos rfl]; omega) (fun v hv => jL_mono (nwm_mono μ a r N hne) v (jst_t (jst_t hs9) v hv))) (by rw [jLs_same hu L 0 hL]; exact hl)
  have e1 : (aR a (mN μ a) :: st).map (jc (uam ad a (mN μ a) r (mN μ r) H.size)) = .ref H.size :: st.map (jc ad) := by
    rw [List.map_cons, jcs_same hu (jst_t (jst_t hs9))]
    refine congrArg (· :: _) ?_
    show Value.ref (uam ad a (mN μ a) r (mN μ r) H.size a (mN μ a)) = _
    rw [aO9]
  rw [e1] at k0
  obtain ⟨t, a1, b1⟩ := k0 F rfl X'
  refine ⟨t, step t ?_, b1⟩
  have e : T.heap.size = H.size := by rw [hT9]
  rw [e]
  exact a1
end JMAKE
