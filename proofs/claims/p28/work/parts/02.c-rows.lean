section JROWS
variable {l : Launch} {J : Nat → List (Option jV) → List jV → jM → Nat → Nat → Prop} {cc : ByteArray} {nL : Nat} {own : String} {R : Room} {rt : Option FieldType} {md : Nat} {hh : List (Nat × Nat × Nat × Nat)} {ret : Option jV → jM → Prop} {thr : String → jM → Prop} {mc ms : Nat}
variable {pc pc' : Nat} {L : List (Option jV)} {st : List jV} {μ : jM} {k n : Nat}
theorem jl_at {ad : Nat → Nat → Nat} {ls : Array Slot} {i : Nat} {v : jV} (hl : lv_has ls nL (jLs ad 0 L)) (h : L[i]? = some (some v)) : ls[i]? = some (.val (jc ad v)) := by
  have h1 := hl.2.2 _ (jLs_mem ad L 0 i v h)
  simpa using h1
theorem jl_cl (hL : ∀ v, some v ∈ L → jL μ v) {i : Nat} {v : jV} (h : L[i]? = some (some v)) : jL μ v := hL v (List.mem_of_getElem? h)

theorem mj_iconst (C : jCtx l J cc nL own R rt md hh ret thr mc ms) {i : Int} {v : Int32} (hdg : decode cc pc = .ok (.iconst i, 1)) (hp : pc + 1 = pc') (hv : Int32.ofInt i = v) (K : J pc' L (aI v :: st) μ k n) : J pc L (st) μ k n := by
  obtain ⟨p, e, s, m, args, below, meth, c, D, cm, ad0, μ0, Q, rfl, hx, hb, hml, hrt, hown, hlk, hU, hE⟩ := C
  subst hp
  intro ad H locs ls hT hX hS hL hs hl
  exact lv_iconst hx hb hdg hv (K ad H locs ls hT hX hS hL (jst_c trivial hs) hl)

theorem mj_bipush (C : jCtx l J cc nL own R rt md hh ret thr mc ms) {i : Int} {v : Int32} (hdg : decode cc pc = .ok (.bipush i, 2)) (hp : pc + 2 = pc') (hv : (Int8.ofInt i).toInt32 = v) (K : J pc' L (aI v :: st) μ k n) : J pc L (st) μ k n := by
  obtain ⟨p, e, s, m, args, below, meth, c, D, cm, ad0, μ0, Q, rfl, hx, hb, hml, hrt, hown, hlk, hU, hE⟩ := C
  subst hp
  intro ad H locs ls hT hX hS hL hs hl
  exact lv_bipush hx hb hdg hv (K ad H locs ls hT hX hS hL (jst_c trivial hs) hl)

theorem mj_sipush (C : jCtx l J cc nL own R rt md hh ret thr mc ms) {i : Int} {v : Int32} (hdg : decode cc pc = .ok (.sipush i, 3)) (hp : pc + 3 = pc') (hv : (Int16.ofInt i).toInt32 = v) (K : J pc' L (aI v :: st) μ k n) : J pc L (st) μ k n := by
  obtain ⟨p, e, s, m, args, below, meth, c, D, cm, ad0, μ0, Q, rfl, hx, hb, hml, hrt, hown, hlk, hU, hE⟩ := C
  subst hp
  intro ad H locs ls hT hX hS hL hs hl
  exact lv_sipush hx hb hdg hv (K ad H locs ls hT hX hS hL (jst_c trivial hs) hl)

theorem mj_lconst (C : jCtx l J cc nL own R rt md hh ret thr mc ms) {i : Fin 2} {v : Int64} (hdg : decode cc pc = .ok (.lconst i, 1)) (hp : pc + 1 = pc') (hv : Int64.ofNat (i : Nat) = v) (K : J pc' L (aL v :: st) μ k n) : J pc L (st) μ k n := by
  obtain ⟨p, e, s, m, args, below, meth, c, D, cm, ad0, μ0, Q, rfl, hx, hb, hml, hrt, hown, hlk, hU, hE⟩ := C
  subst hp
  intro ad H locs ls hT hX hS hL hs hl
  exact lv_lconst hx hb hdg hv (K ad H locs ls hT hX hS hL (jst_c trivial hs) hl)

theorem mj_ldc (C : jCtx l J cc nL own R rt md hh ret thr mc ms) {i : Nat} {v : Int32} (hdg : decode cc pc = .ok (.ldc i, 2)) (hp : pc + 2 = pc') (hw : Cond.constant own i v ∈ jWL) (K : J pc' L (aI v :: st) μ k n) : J pc L (st) μ k n := by
  obtain ⟨p, e, s, m, args, below, meth, c, D, cm, ad0, μ0, Q, rfl, hx, hb, hml, hrt, hown, hlk, hU, hE⟩ := C
  subst hp
  intro ad H locs ls hT hX hS hL hs hl
  exact lv_ldc hx hb hown (hU.w hw) hdg (K ad H locs ls hT hX hS hL (jst_c trivial hs) hl)

theorem mj_ldc2 (C : jCtx l J cc nL own R rt md hh ret thr mc ms) {i : Nat} {v : Int64} (hdg : decode cc pc = .ok (.ldc2_w i, 3)) (hp : pc + 3 = pc') (hw : Cond.constantLong own i v ∈ jWL) (K : J pc' L (aL v :: st) μ k n) : J pc L (st) μ k n := by
  obtain ⟨p, e, s, m, args, below, meth, c, D, cm, ad0, μ0, Q, rfl, hx, hb, hml, hrt, hown, hlk, hU, hE⟩ := C
  subst hp
  intro ad H locs ls hT hX hS hL hs hl
  exact lv_ldc2 hx hb hown (hU.w hw) hdg (K ad H locs ls hT hX hS hL (jst_c trivial hs) hl)

theorem mj_iload_n (C : jCtx l J cc nL own R rt md hh ret thr mc ms) {i : Fin 4} {x : Int32} (hdg : decode cc pc = .ok (.iload_n i, 1)) (hp : pc + 1 = pc') (hg : L[(i : Nat)]? = some (some (aI x))) (K : J pc' L (aI x :: st) μ k n) : J pc L (st) μ k n := by
  obtain ⟨p, e, s, m, args, below, meth, c, D, cm, ad0, μ0, Q, rfl, hx, hb, hml, hrt, hown, hlk, hU, hE⟩ := C
  subst hp
  intro ad H locs ls hT hX hS hL hs hl
  exact lv_iload_n hx hb hdg rfl (jl_at hl hg) (K ad H locs ls hT hX hS hL (jst_c trivial hs) hl)

theorem mj_iload (C : jCtx l J cc nL own R rt md hh ret thr mc ms) {i : Nat} {x : Int32} (hdg : decode cc pc = .ok (.iload i, 2)) (hp : pc + 2 = pc') (hg : L[i]? = some (some (aI x))) (K : J pc' L (aI x :: st) μ k n) : J pc L (st) μ k n := by
  obtain ⟨p, e, s, m, args, below, meth, c, D, cm, ad0, μ0, Q, rfl, hx, hb, hml, hrt, hown, hlk, hU, hE⟩ := C
  subst hp
  intro ad H locs ls hT hX hS hL hs hl
  exact lv_iload hx hb hdg (jl_at hl hg) (K ad H locs ls hT hX hS hL (jst_c trivial hs) hl)

theorem mj_lload_n (C : jCtx l J cc nL own R rt md hh ret thr mc ms) {i : Fin 4} {x : Int64} (hdg : decode cc pc = .ok (.lload_n i, 1)) (hp : pc + 1 = pc') (hg : L[(i : Nat)]? = some (some (aL x))) (K : J pc' L (aL x :: st) μ k n) : J pc L (st) μ k n := by
  obtain ⟨p, e, s, m, args, below, meth, c, D, cm, ad0, μ0, Q, rfl, hx, hb, hml, hrt, hown, hlk, hU, hE⟩ := C
  subst hp
  intro ad H locs ls hT hX hS hL hs hl
  exact lv_lload_n hx hb hdg rfl (jl_at hl hg) (K ad H locs ls hT hX hS hL (jst_c trivial hs) hl)

theorem mj_lload (C : jCtx l J cc nL own R rt md hh ret thr mc ms) {i : Nat} {x : Int64} (hdg : decode cc pc = .ok (.lload i, 2)) (hp : pc + 2 = pc') (hg : L[i]? = some (some (aL x))) (K : J pc' L (aL x :: st) μ k n) : J pc L (st) μ k n := by
  obtain ⟨p, e, s, m, args, below, meth, c, D, cm, ad0, μ0, Q, rfl, hx, hb, hml, hrt, hown, hlk, hU, hE⟩ := C
  subst hp
  intro ad H locs ls hT hX hS hL hs hl
  exact lv_lload hx hb hdg (jl_at hl hg) (K ad H locs ls hT hX hS hL (jst_c trivial hs) hl)

theorem mj_aload_n (C : jCtx l J cc nL own R rt md hh ret thr mc ms) {i : Fin 4} {r : Option (Nat × Nat)} (hdg : decode cc pc = .ok (.aload_n i, 1)) (hp : pc + 1 = pc') (hg : L[(i : Nat)]? = some (some (aO r))) (K : J pc' L (aO r :: st) μ k n) : J pc L st μ k n := by
  obtain ⟨p, e, s, m, args, below, meth, c, D, cm, ad0, μ0, Q, rfl, hx, hb, hml, hrt, hown, hlk, hU, hE⟩ := C
  subst hp
  intro ad H locs ls hT hX hS hL hs hl
  cases r with
  | none => exact lv_aload_nN hx hb hdg rfl (jl_at hl hg) (K ad H locs ls hT hX hS hL (jst_c trivial hs) hl)
  | some q => exact lv_aload_n hx hb hdg rfl (jl_at hl hg) (K ad H locs ls hT hX hS hL (jst_c (jl_cl hL hg) hs) hl)

theorem mj_aload (C : jCtx l J cc nL own R rt md hh ret thr mc ms) {i : Nat} {r : Option (Nat × Nat)} (hdg : decode cc pc = .ok (.aload i, 2)) (hp : pc + 2 = pc') (hg : L[i]? = some (some (aO r))) (K : J pc' L (aO r :: st) μ k n) : J pc L st μ k n := by
  obtain ⟨p, e, s, m, args, below, meth, c, D, cm, ad0, μ0, Q, rfl, hx, hb, hml, hrt, hown, hlk, hU, hE⟩ := C
  subst hp
  intro ad H locs ls hT hX hS hL hs hl
  cases r with
  | none => exact lv_aloadN hx hb hdg (jl_at hl hg) (K ad H locs ls hT hX hS hL (jst_c trivial hs) hl)
  | some q => exact lv_aload hx hb hdg (jl_at hl hg) (K ad H locs ls hT hX hS hL (jst_c (jl_cl hL hg) hs) hl)

theorem mj_iadd (C : jCtx l J cc nL own R rt md hh ret thr mc ms) {x y : Int32} (hdg : decode cc pc = .ok (.iadd, 1)) (hp : pc + 1 = pc')  (K : J pc' L (aI (x + y) :: st) μ k n) : J pc L (aI y :: aI x :: st) μ k n := by
  obtain ⟨p, e, s, m, args, below, meth, c, D, cm, ad0, μ0, Q, rfl, hx, hb, hml, hrt, hown, hlk, hU, hE⟩ := C
  subst hp
  intro ad H locs ls hT hX hS hL hs hl
  exact lv_iadd hx hb hdg (K ad H locs ls hT hX hS hL (jst_c trivial (jst_t (jst_t hs))) hl)

theorem mj_isub (C : jCtx l J cc nL own R rt md hh ret thr mc ms) {x y : Int32} (hdg : decode cc pc = .ok (.isub, 1)) (hp : pc + 1 = pc')  (K : J pc' L (aI (x - y) :: st) μ k n) : J pc L (aI y :: aI x :: st) μ k n := by
  obtain ⟨p, e, s, m, args, below, meth, c, D, cm, ad0, μ0, Q, rfl, hx, hb, hml, hrt, hown, hlk, hU, hE⟩ := C
  subst hp
  intro ad H locs ls hT hX hS hL hs hl
  exact lv_isub hx hb hdg (K ad H locs ls hT hX hS hL (jst_c trivial (jst_t (jst_t hs))) hl)

theorem mj_imul (C : jCtx l J cc nL own R rt md hh ret thr mc ms) {x y : Int32} (hdg : decode cc pc = .ok (.imul, 1)) (hp : pc + 1 = pc')  (K : J pc' L (aI (x * y) :: st) μ k n) : J pc L (aI y :: aI x :: st) μ k n := by
  obtain ⟨p, e, s, m, args, below, meth, c, D, cm, ad0, μ0, Q, rfl, hx, hb, hml, hrt, hown, hlk, hU, hE⟩ := C
  subst hp
  intro ad H locs ls hT hX hS hL hs hl
  exact lv_imul hx hb hdg (K ad H locs ls hT hX hS hL (jst_c trivial (jst_t (jst_t hs))) hl)

theorem mj_iand (C : jCtx l J cc nL own R rt md hh ret thr mc ms) {x y : Int32} (hdg : decode cc pc = .ok (.iand, 1)) (hp : pc + 1 = pc')  (K : J pc' L (aI (x &&& y) :: st) μ k n) : J pc L (aI y :: aI x :: st) μ k n := by
  obtain ⟨p, e, s, m, args, below, meth, c, D, cm, ad0, μ0, Q, rfl, hx, hb, hml, hrt, hown, hlk, hU, hE⟩ := C
  subst hp
  intro ad H locs ls hT hX hS hL hs hl
  exact lv_iand hx hb hdg (K ad H locs ls hT hX hS hL (jst_c trivial (jst_t (jst_t hs))) hl)

theorem mj_ior (C : jCtx l J cc nL own R rt md hh ret thr mc ms) {x y : Int32} (hdg : decode cc pc = .ok (.ior, 1)) (hp : pc + 1 = pc')  (K : J pc' L (aI (x ||| y) :: st) μ k n) : J pc L (aI y :: aI x :: st) μ k n := by
  obtain ⟨p, e, s, m, args, below, meth, c, D, cm, ad0, μ0, Q, rfl, hx, hb, hml, hrt, hown, hlk, hU, hE⟩ := C
  subst hp
  intro ad H locs ls hT hX hS hL hs hl
  exact lv_ior hx hb hdg (K ad H locs ls hT hX hS hL (jst_c trivial (jst_t (jst_t hs))) hl)

theorem mj_ixor (C : jCtx l J cc nL own R rt md hh ret thr mc ms) {x y : Int32} (hdg : decode cc pc = .ok (.ixor, 1)) (hp : pc + 1 = pc')  (K : J pc' L (aI (x ^^^ y) :: st) μ k n) : J pc L (aI y :: aI x :: st) μ k n := by
  obtain ⟨p, e, s, m, args, below, meth, c, D, cm, ad0, μ0, Q, rfl, hx, hb, hml, hrt, hown, hlk, hU, hE⟩ := C
  subst hp
  intro ad H locs ls hT hX hS hL hs hl
  exact lv_ixor hx hb hdg (K ad H locs ls hT hX hS hL (jst_c trivial (jst_t (jst_t hs))) hl)

theorem mj_idiv (C : jCtx l J cc nL own R rt md hh ret thr mc ms) {x y : Int32} (hdg : decode cc pc = .ok (.idiv, 1)) (hp : pc + 1 = pc') (hy : ¬ y = 0) (K : J pc' L (aI (x / y) :: st) μ k n) : J pc L (aI y :: aI x :: st) μ k n := by
  obtain ⟨p, e, s, m, args, below, meth, c, D, cm, ad0, μ0, Q, rfl, hx, hb, hml, hrt, hown, hlk, hU, hE⟩ := C
  subst hp
  intro ad H locs ls hT hX hS hL hs hl
  exact lv_idiv hx hb hdg hy (K ad H locs ls hT hX hS hL (jst_c trivial (jst_t (jst_t hs))) hl)

theorem mj_irem (C : jCtx l J cc nL own R rt md hh ret thr mc ms) {x y : Int32} (hdg : decode cc pc = .ok (.irem, 1)) (hp : pc + 1 = pc') (hy : ¬ y = 0) (K : J pc' L (aI (x - x / y * y) :: st) μ k n) : J pc L (aI y :: aI x :: st) μ k n := by
  obtain ⟨p, e, s, m, args, below, meth, c, D, cm, ad0, μ0, Q, rfl, hx, hb, hml, hrt, hown, hlk, hU, hE⟩ := C
  subst hp
  intro ad H locs ls hT hX hS hL hs hl
  exact lv_irem hx hb hdg hy (K ad H locs ls hT hX hS hL (jst_c trivial (jst_t (jst_t hs))) hl)

theorem mj_ishr (C : jCtx l J cc nL own R rt md hh ret thr mc ms) {x y : Int32} (hdg : decode cc pc = .ok (.ishr, 1)) (hp : pc + 1 = pc')  (K : J pc' L (aI (x >>> (y &&& 31)) :: st) μ k n) : J pc L (aI y :: aI x :: st) μ k n := by
  obtain ⟨p, e, s, m, args, below, meth, c, D, cm, ad0, μ0, Q, rfl, hx, hb, hml, hrt, hown, hlk, hU, hE⟩ := C
  subst hp
  intro ad H locs ls hT hX hS hL hs hl
  exact lv_ishr hx hb hdg (K ad H locs ls hT hX hS hL (jst_c trivial (jst_t (jst_t hs))) hl)

theorem mj_ishl (C : jCtx l J cc nL own R rt md hh ret thr mc ms) {x y : Int32} (hdg : decode cc pc = .ok (.ishl, 1)) (hp : pc + 1 = pc')  (K : J pc' L (aI (x <<< (y &&& 31)) :: st) μ k n) : J pc L (aI y :: aI x :: st) μ k n := by
  obtain ⟨p, e, s, m, args, below, meth, c, D, cm, ad0, μ0, Q, rfl, hx, hb, hml, hrt, hown, hlk, hU, hE⟩ := C
  subst hp
  intro ad H locs ls hT hX hS hL hs hl
  exact lv_ishl hx hb hdg (K ad H locs ls hT hX hS hL (jst_c trivial (jst_t (jst_t hs))) hl)

theorem mj_ladd (C : jCtx l J cc nL own R rt md hh ret thr mc ms) {x y : Int64} (hdg : decode cc pc = .ok (.ladd, 1)) (hp : pc + 1 = pc')  (K : J pc' L (aL (x + y) :: st) μ k n) : J pc L (aL y :: aL x :: st) μ k n := by
  obtain ⟨p, e, s, m, args, below, meth, c, D, cm, ad0, μ0, Q, rfl, hx, hb, hml, hrt, hown, hlk, hU, hE⟩ := C
  subst hp
  intro ad H locs ls hT hX hS hL hs hl
  exact lv_ladd hx hb hdg (K ad H locs ls hT hX hS hL (jst_c trivial (jst_t (jst_t hs))) hl)

theorem mj_lsub (C : jCtx l J cc nL own R rt md hh ret thr mc ms) {x y : Int64} (hdg : decode cc pc = .ok (.lsub, 1)) (hp : pc + 1 = pc')  (K : J pc' L (aL (x - y) :: st) μ k n) : J pc L (aL y :: aL x :: st) μ k n := by
  obtain ⟨p, e, s, m, args, below, meth, c, D, cm, ad0, μ0, Q, rfl, hx, hb, hml, hrt, hown, hlk, hU, hE⟩ := C
  subst hp
  intro ad H locs ls hT hX hS hL hs hl
  exact lv_lsub hx hb hdg (K ad H locs ls hT hX hS hL (jst_c trivial (jst_t (jst_t hs))) hl)

theorem mj_land (C : jCtx l J cc nL own R rt md hh ret thr mc ms) {x y : Int64} (hdg : decode cc pc = .ok (.land, 1)) (hp : pc + 1 = pc')  (K : J pc' L (aL (x &&& y) :: st) μ k n) : J pc L (aL y :: aL x :: st) μ k n := by
  obtain ⟨p, e, s, m, args, below, meth, c, D, cm, ad0, μ0, Q, rfl, hx, hb, hml, hrt, hown, hlk, hU, hE⟩ := C
  subst hp
  intro ad H locs ls hT hX hS hL hs hl
  exact lv_land hx hb hdg (K ad H locs ls hT hX hS hL (jst_c trivial (jst_t (jst_t hs))) hl)

theorem mj_lor (C : jCtx l J cc nL own R rt md hh ret thr mc ms) {x y : Int64} (hdg : decode cc pc = .ok (.lor, 1)) (hp : pc + 1 = pc')  (K : J pc' L (aL (x ||| y) :: st) μ k n) : J pc L (aL y :: aL x :: st) μ k n := by
  obtain ⟨p, e, s, m, args, below, meth, c, D, cm, ad0, μ0, Q, rfl, hx, hb, hml, hrt, hown, hlk, hU, hE⟩ := C
  subst hp
  intro ad H locs ls hT hX hS hL hs hl
  exact lv_lor hx hb hdg (K ad H locs ls hT hX hS hL (jst_c trivial (jst_t (jst_t hs))) hl)

theorem mj_lxor (C : jCtx l J cc nL own R rt md hh ret thr mc ms) {x y : Int64} (hdg : decode cc pc = .ok (.lxor, 1)) (hp : pc + 1 = pc')  (K : J pc' L (aL (x ^^^ y) :: st) μ k n) : J pc L (aL y :: aL x :: st) μ k n := by
  obtain ⟨p, e, s, m, args, below, meth, c, D, cm, ad0, μ0, Q, rfl, hx, hb, hml, hrt, hown, hlk, hU, hE⟩ := C
  subst hp
  intro ad H locs ls hT hX hS hL hs hl
  exact lv_lxor hx hb hdg (K ad H locs ls hT hX hS hL (jst_c trivial (jst_t (jst_t hs))) hl)

theorem mj_lshl (C : jCtx l J cc nL own R rt md hh ret thr mc ms) {x : Int64} {y : Int32} (hdg : decode cc pc = .ok (.lshl, 1)) (hp : pc + 1 = pc')  (K : J pc' L (aL (x <<< (y.toInt64 &&& 63)) :: st) μ k n) : J pc L (aI y :: aL x :: st) μ k n := by
  obtain ⟨p, e, s, m, args, below, meth, c, D, cm, ad0, μ0, Q, rfl, hx, hb, hml, hrt, hown, hlk, hU, hE⟩ := C
  subst hp
  intro ad H locs ls hT hX hS hL hs hl
  exact lv_lshl hx hb hdg rfl (K ad H locs ls hT hX hS hL (jst_c trivial (jst_t (jst_t hs))) hl)

theorem mj_lushr (C : jCtx l J cc nL own R rt md hh ret thr mc ms) {x : Int64} {y : Int32} (hdg : decode cc pc = .ok (.lushr, 1)) (hp : pc + 1 = pc')  (K : J pc' L (aL ((x.toUInt64 >>> (y.toInt64.toUInt64 &&& Int64.toUInt64 63)).toInt64) :: st) μ k n) : J pc L (aI y :: aL x :: st) μ k n := by
  obtain ⟨p, e, s, m, args, below, meth, c, D, cm, ad0, μ0, Q, rfl, hx, hb, hml, hrt, hown, hlk, hU, hE⟩ := C
  subst hp
  intro ad H locs ls hT hX hS hL hs hl
  exact lv_lushr hx hb hdg rfl (K ad H locs ls hT hX hS hL (jst_c trivial (jst_t (jst_t hs))) hl)

theorem mj_i2l (C : jCtx l J cc nL own R rt md hh ret thr mc ms) {x : Int32} (hdg : decode cc pc = .ok (.i2l, 1)) (hp : pc + 1 = pc')  (K : J pc' L (aL x.toInt64 :: st) μ k n) : J pc L (aI x :: st) μ k n := by
  obtain ⟨p, e, s, m, args, below, meth, c, D, cm, ad0, μ0, Q, rfl, hx, hb, hml, hrt, hown, hlk, hU, hE⟩ := C
  subst hp
  intro ad H locs ls hT hX hS hL hs hl
  exact lv_i2l hx hb hdg rfl (K ad H locs ls hT hX hS hL (jst_c trivial (jst_t hs)) hl)

theorem mj_l2i (C : jCtx l J cc nL own R rt md hh ret thr mc ms) {x : Int64} (hdg : decode cc pc = .ok (.l2i, 1)) (hp : pc + 1 = pc')  (K : J pc' L (aI x.toInt32 :: st) μ k n) : J pc L (aL x :: st) μ k n := by
  obtain ⟨p, e, s, m, args, below, meth, c, D, cm, ad0, μ0, Q, rfl, hx, hb, hml, hrt, hown, hlk, hU, hE⟩ := C
  subst hp
  intro ad H locs ls hT hX hS hL hs hl
  exact lv_l2i hx hb hdg rfl (K ad H locs ls hT hX hS hL (jst_c trivial (jst_t hs)) hl)

theorem mj_lcmp (C : jCtx l J cc nL own R rt md hh ret thr mc ms) {x y : Int64} (hdg : decode cc pc = .ok (.lcmp, 1)) (hp : pc + 1 = pc')  (K : J pc' L (aI (lg_cmp x y) :: st) μ k n) : J pc L (aL y :: aL x :: st) μ k n := by
  obtain ⟨p, e, s, m, args, below, meth, c, D, cm, ad0, μ0, Q, rfl, hx, hb, hml, hrt, hown, hlk, hU, hE⟩ := C
  subst hp
  intro ad H locs ls hT hX hS hL hs hl
  exact W.lcmp hx hb hdg (K ad H locs ls hT hX hS hL (jst_c trivial (jst_t (jst_t hs))) hl)

theorem mj_dup (C : jCtx l J cc nL own R rt md hh ret thr mc ms) {v : jV} (hdg : decode cc pc = .ok (.dup, 1)) (hp : pc + 1 = pc') (hc : jcat v = 1) (K : J pc' L (v :: v :: st) μ k n) : J pc L (v :: st) μ k n := by
  obtain ⟨p, e, s, m, args, below, meth, c, D, cm, ad0, μ0, Q, rfl, hx, hb, hml, hrt, hown, hlk, hU, hE⟩ := C
  subst hp
  intro ad H locs ls hT hX hS hL hs hl
  exact lv_dup hx hb hdg ((jc_cat ad v).trans hc) (K ad H locs ls hT hX hS hL (jst_c (jst_h hs) hs) hl)

theorem mj_pop (C : jCtx l J cc nL own R rt md hh ret thr mc ms) {v : jV} (hdg : decode cc pc = .ok (.pop, 1)) (hp : pc + 1 = pc') (hc : jcat v = 1) (K : J pc' L st μ k n) : J pc L (v :: st) μ k n := by
  obtain ⟨p, e, s, m, args, below, meth, c, D, cm, ad0, μ0, Q, rfl, hx, hb, hml, hrt, hown, hlk, hU, hE⟩ := C
  subst hp
  intro ad H locs ls hT hX hS hL hs hl
  exact lv_pop hx hb hdg ((jc_cat ad v).trans hc) (K ad H locs ls hT hX hS hL (jst_t hs) hl)

theorem mj_icmp_eq (C : jCtx l J cc nL own R rt md hh ret thr mc ms) {x y : Int32} {off : Int} {tgt : Nat} (hdg : decode cc pc = .ok (.if_icmp .eq off, 3)) (ht : (pc : Int) + off = (tgt : Int)) (hp : pc + 3 = pc') (kt : x = y → J tgt L st μ k n) (kf : ¬ x = y → J pc' L st μ k n) : J pc L (aI y :: aI x :: st) μ k n := by
  obtain ⟨p, e, s, m, args, below, meth, c, D, cm, ad0, μ0, Q, rfl, hx, hb, hml, hrt, hown, hlk, hU, hE⟩ := C
  subst hp
  intro ad H locs ls hT hX hS hL hs hl
  exact lv_icmp_eq hx hb hdg ht (fun h => kt h ad H locs ls hT hX hS hL (jst_t (jst_t hs)) hl) (fun h => kf h ad H locs ls hT hX hS hL (jst_t (jst_t hs)) hl)

theorem mj_if_eq (C : jCtx l J cc nL own R rt md hh ret thr mc ms) {x : Int32} {off : Int} {tgt : Nat} (hdg : decode cc pc = .ok (.ifCond .eq off, 3)) (ht : (pc : Int) + off = (tgt : Int)) (hp : pc + 3 = pc') (kt : x = 0 → J tgt L st μ k n) (kf : ¬ x = 0 → J pc' L st μ k n) : J pc L (aI x :: st) μ k n := by
  obtain ⟨p, e, s, m, args, below, meth, c, D, cm, ad0, μ0, Q, rfl, hx, hb, hml, hrt, hown, hlk, hU, hE⟩ := C
  subst hp
  intro ad H locs ls hT hX hS hL hs hl
  exact lv_if_eq hx hb hdg ht (fun h => kt h ad H locs ls hT hX hS hL (jst_t hs) hl) (fun h => kf h ad H locs ls hT hX hS hL (jst_t hs) hl)

theorem mj_icmp_ne (C : jCtx l J cc nL own R rt md hh ret thr mc ms) {x y : Int32} {off : Int} {tgt : Nat} (hdg : decode cc pc = .ok (.if_icmp .ne off, 3)) (ht : (pc : Int) + off = (tgt : Int)) (hp : pc + 3 = pc') (kt : ¬ x = y → J tgt L st μ k n) (kf : x = y → J pc' L st μ k n) : J pc L (aI y :: aI x :: st) μ k n := by
  obtain ⟨p, e, s, m, args, below, meth, c, D, cm, ad0, μ0, Q, rfl, hx, hb, hml, hrt, hown, hlk, hU, hE⟩ := C
  subst hp
  intro ad H locs ls hT hX hS hL hs hl
  exact lv_icmp_ne hx hb hdg ht (fun h => kt h ad H locs ls hT hX hS hL (jst_t (jst_t hs)) hl) (fun h => kf h ad H locs ls hT hX hS hL (jst_t (jst_t hs)) hl)

theorem mj_if_ne (C : jCtx l J cc nL own R rt md hh ret thr mc ms) {x : Int32} {off : Int} {tgt : Nat} (hdg : decode cc pc = .ok (.ifCond .ne off, 3)) (ht : (pc : Int) + off = (tgt : Int)) (hp : pc + 3 = pc') (kt : ¬ x = 0 → J tgt L st μ k n) (kf : x = 0 → J pc' L st μ k n) : J pc L (aI x :: st) μ k n := by
  obtain ⟨p, e, s, m, args, below, meth, c, D, cm, ad0, μ0, Q, rfl, hx, hb, hml, hrt, hown, hlk, hU, hE⟩ := C
  subst hp
  intro ad H locs ls hT hX hS hL hs hl
  exact lv_if_ne hx hb hdg ht (fun h => kt h ad H locs ls hT hX hS hL (jst_t hs) hl) (fun h => kf h ad H locs ls hT hX hS hL (jst_t hs) hl)

theorem mj_icmp_lt (C : jCtx l J cc nL own R rt md hh ret thr mc ms) {x y : Int32} {off : Int} {tgt : Nat} (hdg : decode cc pc = .ok (.if_icmp .lt off, 3)) (ht : (pc : Int) + off = (tgt : Int)) (hp : pc + 3 = pc') (kt : x < y → J tgt L st μ k n) (kf : ¬ x < y → J pc' L st μ k n) : J pc L (aI y :: aI x :: st) μ k n := by
  obtain ⟨p, e, s, m, args, below, meth, c, D, cm, ad0, μ0, Q, rfl, hx, hb, hml, hrt, hown, hlk, hU, hE⟩ := C
  subst hp
  intro ad H locs ls hT hX hS hL hs hl
  exact lv_icmp_lt hx hb hdg ht (fun h => kt h ad H locs ls hT hX hS hL (jst_t (jst_t hs)) hl) (fun h => kf h ad H locs ls hT hX hS hL (jst_t (jst_t hs)) hl)

theorem mj_if_lt (C : jCtx l J cc nL own R rt md hh ret thr mc ms) {x : Int32} {off : Int} {tgt : Nat} (hdg : decode cc pc = .ok (.ifCond .lt off, 3)) (ht : (pc : Int) + off = (tgt : Int)) (hp : pc + 3 = pc') (kt : x < 0 → J tgt L st μ k n) (kf : ¬ x < 0 → J pc' L st μ k n) : J pc L (aI x :: st) μ k n := by
  obtain ⟨p, e, s, m, args, below, meth, c, D, cm, ad0, μ0, Q, rfl, hx, hb, hml, hrt, hown, hlk, hU, hE⟩ := C
  subst hp
  intro ad H locs ls hT hX hS hL hs hl
  exact lv_if_lt hx hb hdg ht (fun h => kt h ad H locs ls hT hX hS hL (jst_t hs) hl) (fun h => kf h ad H locs ls hT hX hS hL (jst_t hs) hl)

theorem mj_icmp_ge (C : jCtx l J cc nL own R rt md hh ret thr mc ms) {x y : Int32} {off : Int} {tgt : Nat} (hdg : decode cc pc = .ok (.if_icmp .ge off, 3)) (ht : (pc : Int) + off = (tgt : Int)) (hp : pc + 3 = pc') (kt : y ≤ x → J tgt L st μ k n) (kf : ¬ y ≤ x → J pc' L st μ k n) : J pc L (aI y :: aI x :: st) μ k n := by
  obtain ⟨p, e, s, m, args, below, meth, c, D, cm, ad0, μ0, Q, rfl, hx, hb, hml, hrt, hown, hlk, hU, hE⟩ := C
  subst hp
  intro ad H locs ls hT hX hS hL hs hl
  exact lv_icmp_ge hx hb hdg ht (fun h => kt h ad H locs ls hT hX hS hL (jst_t (jst_t hs)) hl) (fun h => kf h ad H locs ls hT hX hS hL (jst_t (jst_t hs)) hl)

theorem mj_if_ge (C : jCtx l J cc nL own R rt md hh ret thr mc ms) {x : Int32} {off : Int} {tgt : Nat} (hdg : decode cc pc = .ok (.ifCond .ge off, 3)) (ht : (pc : Int) + off = (tgt : Int)) (hp : pc + 3 = pc') (kt : 0 ≤ x → J tgt L st μ k n) (kf : ¬ 0 ≤ x → J pc' L st μ k n) : J pc L (aI x :: st) μ k n := by
  obtain ⟨p, e, s, m, args, below, meth, c, D, cm, ad0, μ0, Q, rfl, hx, hb, hml, hrt, hown, hlk, hU, hE⟩ := C
  subst hp
  intro ad H locs ls hT hX hS hL hs hl
  exact lv_if_ge hx hb hdg ht (fun h => kt h ad H locs ls hT hX hS hL (jst_t hs) hl) (fun h => kf h ad H locs ls hT hX hS hL (jst_t hs) hl)

theorem mj_icmp_gt (C : jCtx l J cc nL own R rt md hh ret thr mc ms) {x y : Int32} {off : Int} {tgt : Nat} (hdg : decode cc pc = .ok (.if_icmp .gt off, 3)) (ht : (pc : Int) + off = (tgt : Int)) (hp : pc + 3 = pc') (kt : y < x → J tgt L st μ k n) (kf : ¬ y < x → J pc' L st μ k n) : J pc L (aI y :: aI x :: st) μ k n := by
  obtain ⟨p, e, s, m, args, below, meth, c, D, cm, ad0, μ0, Q, rfl, hx, hb, hml, hrt, hown, hlk, hU, hE⟩ := C
  subst hp
  intro ad H locs ls hT hX hS hL hs hl
  exact lv_icmp_gt hx hb hdg ht (fun h => kt h ad H locs ls hT hX hS hL (jst_t (jst_t hs)) hl) (fun h => kf h ad H locs ls hT hX hS hL (jst_t (jst_t hs)) hl)

theorem mj_if_gt (C : jCtx l J cc nL own R rt md hh ret thr mc ms) {x : Int32} {off : Int} {tgt : Nat} (hdg : decode cc pc = .ok (.ifCond .gt off, 3)) (ht : (pc : Int) + off = (tgt : Int)) (hp : pc + 3 = pc') (kt : 0 < x → J tgt L st μ k n) (kf : ¬ 0 < x → J pc' L st μ k n) : J pc L (aI x :: st) μ k n := by
  obtain ⟨p, e, s, m, args, below, meth, c, D, cm, ad0, μ0, Q, rfl, hx, hb, hml, hrt, hown, hlk, hU, hE⟩ := C
  subst hp
  intro ad H locs ls hT hX hS hL hs hl
  exact lv_if_gt hx hb hdg ht (fun h => kt h ad H locs ls hT hX hS hL (jst_t hs) hl) (fun h => kf h ad H locs ls hT hX hS hL (jst_t hs) hl)

theorem mj_icmp_le (C : jCtx l J cc nL own R rt md hh ret thr mc ms) {x y : Int32} {off : Int} {tgt : Nat} (hdg : decode cc pc = .ok (.if_icmp .le off, 3)) (ht : (pc : Int) + off = (tgt : Int)) (hp : pc + 3 = pc') (kt : x ≤ y → J tgt L st μ k n) (kf : ¬ x ≤ y → J pc' L st μ k n) : J pc L (aI y :: aI x :: st) μ k n := by
  obtain ⟨p, e, s, m, args, below, meth, c, D, cm, ad0, μ0, Q, rfl, hx, hb, hml, hrt, hown, hlk, hU, hE⟩ := C
  subst hp
  intro ad H locs ls hT hX hS hL hs hl
  exact lv_icmp_le hx hb hdg ht (fun h => kt h ad H locs ls hT hX hS hL (jst_t (jst_t hs)) hl) (fun h => kf h ad H locs ls hT hX hS hL (jst_t (jst_t hs)) hl)

theorem mj_if_le (C : jCtx l J cc nL own R rt md hh ret thr mc ms) {x : Int32} {off : Int} {tgt : Nat} (hdg : decode cc pc = .ok (.ifCond .le off, 3)) (ht : (pc : Int) + off = (tgt : Int)) (hp : pc + 3 = pc') (kt : x ≤ 0 → J tgt L st μ k n) (kf : ¬ x ≤ 0 → J pc' L st μ k n) : J pc L (aI x :: st) μ k n := by
  obtain ⟨p, e, s, m, args, below, meth, c, D, cm, ad0, μ0, Q, rfl, hx, hb, hml, hrt, hown, hlk, hU, hE⟩ := C
  subst hp
  intro ad H locs ls hT hX hS hL hs hl
  exact lv_if_le hx hb hdg ht (fun h => kt h ad H locs ls hT hX hS hL (jst_t hs) hl) (fun h => kf h ad H locs ls hT hX hS hL (jst_t hs) hl)

theorem mj_goto (C : jCtx l J cc nL own R rt md hh ret thr mc ms) {off : Int} (hdg : decode cc pc = .ok (.goto off, 3)) (ht : (pc : Int) + off = (pc' : Int)) (K : J pc' L st μ k n) : J pc L st μ k n := by
  obtain ⟨p, e, s, m, args, below, meth, c, D, cm, ad0, μ0, Q, rfl, hx, hb, hml, hrt, hown, hlk, hU, hE⟩ := C
  intro ad H locs ls hT hX hS hL hs hl
  exact lv_goto hx hb hdg ht (K ad H locs ls hT hX hS hL hs hl)

theorem mj_ifnull (C : jCtx l J cc nL own R rt md hh ret thr mc ms) {r : Option (Nat × Nat)} {off : Int} {tgt : Nat} (hdg : decode cc pc = .ok (.ifnull off, 3)) (ht : (pc : Int) + off = (tgt : Int)) (hp : pc + 3 = pc') (kt : r = none → J tgt L st μ k n) (kf : ∀ q, r = some q → J pc' L st μ k n) : J pc L (aO r :: st) μ k n := by
  obtain ⟨p, e, s, m, args, below, meth, c, D, cm, ad0, μ0, Q, rfl, hx, hb, hml, hrt, hown, hlk, hU, hE⟩ := C
  subst hp
  intro ad H locs ls hT hX hS hL hs hl
  cases r with
  | none => exact lv_ifnullN hx hb hdg ht (kt rfl ad H locs ls hT hX hS hL (jst_t hs) hl)
  | some q => exact lv_ifnull hx hb hdg (kf q rfl ad H locs ls hT hX hS hL (jst_t hs) hl)
theorem mj_ifnonnull (C : jCtx l J cc nL own R rt md hh ret thr mc ms) {r : Option (Nat × Nat)} {off : Int} {tgt : Nat} (hdg : decode cc pc = .ok (.ifnonnull off, 3)) (ht : (pc : Int) + off = (tgt : Int)) (hp : pc + 3 = pc') (kt : ∀ q, r = some q → J tgt L st μ k n) (kf : r = none → J pc' L st μ k n) : J pc L (aO r :: st) μ k n := by
  obtain ⟨p, e, s, m, args, below, meth, c, D, cm, ad0, μ0, Q, rfl, hx, hb, hml, hrt, hown, hlk, hU, hE⟩ := C
  subst hp
  intro ad H locs ls hT hX hS hL hs hl
  cases r with
  | none => exact lv_ifnonnullN hx hb hdg (kf rfl ad H locs ls hT hX hS hL (jst_t hs) hl)
  | some q => exact lv_ifnonnull hx hb hdg ht (kt q rfl ad H locs ls hT hX hS hL (jst_t hs) hl)

/-- what a store leaves of the tracked variables -/
theorem jl_set {ad : Nat → Nat → Nat} {i : Nat} {v : jV} {ls' : Array Slot} {x : Value} (hx9 : jc ad v = x) (hi : i < L.length) (hw : ∀ j w, j + 1 = i → L[j]? = some (some w) → jcat w ≠ 2)
    (h : lv_has ls' nL ((i, x) :: (jLs ad 0 L).filter (fun q => !(q.1 == i) && !(q.1 + 1 == i && q.2.category == 2)))) : lv_has ls' nL (jLs ad 0 (L.set i (some v))) := by
  refine ⟨h.1, h.2.1, fun q hq => h.2.2 q ?_⟩
  obtain ⟨j, w, hj, rfl⟩ := jLs_of ad _ 0 q hq
  by_cases e : j = i
  · subst e
    rw [List.getElem?_set_self hi] at hj
    cases hj
    rw [hx9, Nat.zero_add]
    exact List.mem_cons_self
  · rw [List.getElem?_set_ne (Ne.symm e)] at hj
    refine List.mem_cons_of_mem _ (List.mem_filter.mpr ⟨jLs_mem ad L 0 j w hj, ?_⟩)
    have h2 : ¬ (j + 1 = i ∧ (jc ad w).category = 2) := fun z => hw j w z.1 hj (by rw [← jc_cat ad w]; exact z.2)
    simp only [Nat.zero_add, Bool.and_eq_true, Bool.not_eq_true', beq_eq_false_iff_ne, Bool.and_eq_false_iff]
    refine ⟨e, ?_⟩
    by_cases e1 : j + 1 = i
    · exact Or.inr (fun z => h2 ⟨e1, z⟩)
    · exact Or.inl e1
theorem jl_set2 {ad : Nat → Nat → Nat} {i : Nat} {v : jV} {ls' : Array Slot} {x : Value} (hx9 : jc ad v = x) (hi : i + 1 < L.length) (hw : ∀ j w, j + 1 = i → L[j]? = some (some w) → jcat w ≠ 2)
    (h : lv_has ls' nL ((i, x) :: (jLs ad 0 L).filter (fun q => !(q.1 == i) && (!(q.1 == i + 1) && !(q.1 + 1 == i && q.2.category == 2))))) : lv_has ls' nL (jLs ad 0 ((L.set i (some v)).set (i + 1) none)) := by
  refine ⟨h.1, h.2.1, fun q hq => h.2.2 q ?_⟩
  obtain ⟨j, w, hj, rfl⟩ := jLs_of ad _ 0 q hq
  by_cases e2 : j = i + 1
  · subst e2
    rw [List.getElem?_set_self (by rw [List.length_set]; exact hi)] at hj
    cases hj
  · rw [List.getElem?_set_ne (Ne.symm e2)] at hj
    by_cases e : j = i
    · subst e
      rw [List.getElem?_set_self (by omega)] at hj
      cases hj
      rw [hx9, Nat.zero_add]
      exact List.mem_cons_self
    · rw [List.getElem?_set_ne (Ne.symm e)] at hj
      refine List.mem_cons_of_mem _ (List.mem_filter.mpr ⟨jLs_mem ad L 0 j w hj, ?_⟩)
      have h2 : ¬ (j + 1 = i ∧ (jc ad w).category = 2) := fun z => hw j w z.1 hj (by rw [← jc_cat ad w]; exact z.2)
      simp only [Nat.zero_add, Bool.and_eq_true, Bool.not_eq_true', beq_eq_false_iff_ne, Bool.and_eq_false_iff]
      refine ⟨e, e2, ?_⟩
      by_cases e1 : j + 1 = i
      · exact Or.inr (fun z => h2 ⟨e1, z⟩)
      · exact Or.inl e1
theorem jl_setc {i : Nat} {v : jV} (hL : ∀ w, some w ∈ L → jL μ w) (hv : jL μ v) : ∀ w, some w ∈ L.set i (some v) → jL μ w := fun w hw => by
  rcases List.mem_or_eq_of_mem_set hw with h | h
  · exact hL w h
  · cases h
    exact hv
theorem jl_setn {i : Nat} (hL : ∀ w, some w ∈ L → jL μ w) : ∀ w, some w ∈ L.set i none → jL μ w := fun w hw => by
  rcases List.mem_or_eq_of_mem_set hw with h | h
  · exact hL w h
  · cases h
def jw : Option jV → Bool
  | some (Sum.inr (Sum.inl _)) => false
  | _ => true
theorem jw_of {o : Option jV} (h : jw o = true) {w : jV} (e : o = some w) : jcat w ≠ 2 := by
  subst e
  match w, h with
  | .inl _, _ => simp [jcat]
  | .inr (.inr _), _ => simp [jcat]
  | .inr (.inl _), h => simp [jw] at h

theorem mj_istoreG (C : jCtx l J cc nL own R rt md hh ret thr mc ms) {i : Nat} {x : Int32} (hdg : decode cc pc = .ok (.istore i, 2)) (hp : pc + 2 = pc')  (hi : i < L.length) (hn9 : i < nL) (hw : ∀ j w, j + 1 = i → L[j]? = some (some w) → jcat w ≠ 2) (K : J pc' (L.set i (some (aI x))) st μ k n) : J pc L (aI x :: st) μ k n := by
  obtain ⟨p, e, s, m, args, below, meth, c, D, cm, ad0, μ0, Q, rfl, hx, hb, hml, hrt, hown, hlk, hU, hE⟩ := C
  subst hp
  intro ad H locs ls hT hX hS hL hs hl
  exact lv_istore hx hb hdg hl hn9 rfl (fun ls' hl' => K ad H locs ls' hT hX hS (jl_setc hL (jst_h hs)) (jst_t hs) (jl_set rfl hi hw hl'))

theorem mj_istore_0 (C : jCtx l J cc nL own R rt md hh ret thr mc ms) {l0 : Option jV} {x : Int32} (hdg : decode cc pc = .ok (.istore 0, 2)) (hp : pc + 2 = pc') (hn9 : 0 < nL)  (K : J pc' (some (aI x) :: L) st μ k n) : J pc (l0 :: L) (aI x :: st) μ k n :=
  mj_istoreG C (i := 0) hdg hp  (by simp only [List.length_cons]; omega) hn9 (fun j w hj h => by omega) K

theorem mj_istore_1 (C : jCtx l J cc nL own R rt md hh ret thr mc ms) {l0 l1 : Option jV} {x : Int32} (hdg : decode cc pc = .ok (.istore 1, 2)) (hp : pc + 2 = pc') (hn9 : 1 < nL) (hw : jw l0 = true) (K : J pc' (l0 :: some (aI x) :: L) st μ k n) : J pc (l0 :: l1 :: L) (aI x :: st) μ k n :=
  mj_istoreG C (i := 1) hdg hp  (by simp only [List.length_cons]; omega) hn9 (by intro j w hj h; obtain rfl : j = 0 := (by omega); exact jw_of hw (Option.some.inj h)) K

theorem mj_istore_2 (C : jCtx l J cc nL own R rt md hh ret thr mc ms) {l0 l1 l2 : Option jV} {x : Int32} (hdg : decode cc pc = .ok (.istore 2, 2)) (hp : pc + 2 = pc') (hn9 : 2 < nL) (hw : jw l1 = true) (K : J pc' (l0 :: l1 :: some (aI x) :: L) st μ k n) : J pc (l0 :: l1 :: l2 :: L) (aI x :: st) μ k n :=
  mj_istoreG C (i := 2) hdg hp  (by simp only [List.length_cons]; omega) hn9 (by intro j w hj h; obtain rfl : j = 1 := (by omega); exact jw_of hw (Option.some.inj h)) K

theorem mj_istore_3 (C : jCtx l J cc nL own R rt md hh ret thr mc ms) {l0 l1 l2 l3 : Option jV} {x : Int32} (hdg : decode cc pc = .ok (.istore 3, 2)) (hp : pc + 2 = pc') (hn9 : 3 < nL) (hw : jw l2 = true) (K : J pc' (l0 :: l1 :: l2 :: some (aI x) :: L) st μ k n) : J pc (l0 :: l1 :: l2 :: l3 :: L) (aI x :: st) μ k n :=
  mj_istoreG C (i := 3) hdg hp  (by simp only [List.length_cons]; omega) hn9 (by intro j w hj h; obtain rfl : j = 2 := (by omega); exact jw_of hw (Option.some.inj h)) K

theorem mj_istore_4 (C : jCtx l J cc nL own R rt md hh ret thr mc ms) {l0 l1 l2 l3 l4 : Option jV} {x : Int32} (hdg : decode cc pc = .ok (.istore 4, 2)) (hp : pc + 2 = pc') (hn9 : 4 < nL) (hw : jw l3 = true) (K : J pc' (l0 :: l1 :: l2 :: l3 :: some (aI x) :: L) st μ k n) : J pc (l0 :: l1 :: l2 :: l3 :: l4 :: L) (aI x :: st) μ k n :=
  mj_istoreG C (i := 4) hdg hp  (by simp only [List.length_cons]; omega) hn9 (by intro j w hj h; obtain rfl : j = 3 := (by omega); exact jw_of hw (Option.some.inj h)) K

theorem mj_istore_5 (C : jCtx l J cc nL own R rt md hh ret thr mc ms) {l0 l1 l2 l3 l4 l5 : Option jV} {x : Int32} (hdg : decode cc pc = .ok (.istore 5, 2)) (hp : pc + 2 = pc') (hn9 : 5 < nL) (hw : jw l4 = true) (K : J pc' (l0 :: l1 :: l2 :: l3 :: l4 :: some (aI x) :: L) st μ k n) : J pc (l0 :: l1 :: l2 :: l3 :: l4 :: l5 :: L) (aI x :: st) μ k n :=
  mj_istoreG C (i := 5) hdg hp  (by simp only [List.length_cons]; omega) hn9 (by intro j w hj h; obtain rfl : j = 4 := (by omega); exact jw_of hw (Option.some.inj h)) K

theorem mj_istore_6 (C : jCtx l J cc nL own R rt md hh ret thr mc ms) {l0 l1 l2 l3 l4 l5 l6 : Option jV} {x : Int32} (hdg : decode cc pc = .ok (.istore 6, 2)) (hp : pc + 2 = pc') (hn9 : 6 < nL) (hw : jw l5 = true) (K : J pc' (l0 :: l1 :: l2 :: l3 :: l4 :: l5 :: some (aI x) :: L) st μ k n) : J pc (l0 :: l1 :: l2 :: l3 :: l4 :: l5 :: l6 :: L) (aI x :: st) μ k n :=
  mj_istoreG C (i := 6) hdg hp  (by simp only [List.length_cons]; omega) hn9 (by intro j w hj h; obtain rfl : j = 5 := (by omega); exact jw_of hw (Option.some.inj h)) K

theorem mj_istore_7 (C : jCtx l J cc nL own R rt md hh ret thr mc ms) {l0 l1 l2 l3 l4 l5 l6 l7 : Option jV} {x : Int32} (hdg : decode cc pc = .ok (.istore 7, 2)) (hp : pc + 2 = pc') (hn9 : 7 < nL) (hw : jw l6 = true) (K : J pc' (l0 :: l1 :: l2 :: l3 :: l4 :: l5 :: l6 :: some (aI x) :: L) st μ k n) : J pc (l0 :: l1 :: l2 :: l3 :: l4 :: l5 :: l6 :: l7 :: L) (aI x :: st) μ k n :=
  mj_istoreG C (i := 7) hdg hp  (by simp only [List.length_cons]; omega) hn9 (by intro j w hj h; obtain rfl : j = 6 := (by omega); exact jw_of hw (Option.some.inj h)) K

theorem mj_istore_8 (C : jCtx l J cc nL own R rt md hh ret thr mc ms) {l0 l1 l2 l3 l4 l5 l6 l7 l8 : Option jV} {x : Int32} (hdg : decode cc pc = .ok (.istore 8, 2)) (hp : pc + 2 = pc') (hn9 : 8 < nL) (hw : jw l7 = true) (K : J pc' (l0 :: l1 :: l2 :: l3 :: l4 :: l5 :: l6 :: l7 :: some (aI x) :: L) st μ k n) : J pc (l0 :: l1 :: l2 :: l3 :: l4 :: l5 :: l6 :: l7 :: l8 :: L) (aI x :: st) μ k n :=
  mj_istoreG C (i := 8) hdg hp  (by simp only [List.length_cons]; omega) hn9 (by intro j w hj h; obtain rfl : j = 7 := (by omega); exact jw_of hw (Option.some.inj h)) K

theorem mj_istore_9 (C : jCtx l J cc nL own R rt md hh ret thr mc ms) {l0 l1 l2 l3 l4 l5 l6 l7 l8 l9 : Option jV} {x : Int32} (hdg : decode cc pc = .ok (.istore 9, 2)) (hp : pc + 2 = pc') (hn9 : 9 < nL) (hw : jw l8 = true) (K : J pc' (l0 :: l1 :: l2 :: l3 :: l4 :: l5 :: l6 :: l7 :: l8 :: some (aI x) :: L) st μ k n) : J pc (l0 :: l1 :: l2 :: l3 :: l4 :: l5 :: l6 :: l7 :: l8 :: l9 :: L) (aI x :: st) μ k n :=
  mj_istoreG C (i := 9) hdg hp  (by simp only [List.length_cons]; omega) hn9 (by intro j w hj h; obtain rfl : j = 8 := (by omega); exact jw_of hw (Option.some.inj h)) K

theorem mj_istore_10 (C : jCtx l J cc nL own R rt md hh ret thr mc ms) {l0 l1 l2 l3 l4 l5 l6 l7 l8 l9 l10 : Option jV} {x : Int32} (hdg : decode cc pc = .ok (.istore 10, 2)) (hp : pc + 2 = pc') (hn9 : 10 < nL) (hw : jw l9 = true) (K : J pc' (l0 :: l1 :: l2 :: l3 :: l4 :: l5 :: l6 :: l7 :: l8 :: l9 :: some (aI x) :: L) st μ k n) : J pc (l0 :: l1 :: l2 :: l3 :: l4 :: l5 :: l6 :: l7 :: l8 :: l9 :: l10 :: L) (aI x :: st) μ k n :=
  mj_istoreG C (i := 10) hdg hp  (by simp only [List.length_cons]; omega) hn9 (by intro j w hj h; obtain rfl : j = 9 := (by omega); exact jw_of hw (Option.some.inj h)) K

theorem mj_istore_11 (C : jCtx l J cc nL own R rt md hh ret thr mc ms) {l0 l1 l2 l3 l4 l5 l6 l7 l8 l9 l10 l11 : Option jV} {x : Int32} (hdg : decode cc pc = .ok (.istore 11, 2)) (hp : pc + 2 = pc') (hn9 : 11 < nL) (hw : jw l10 = true) (K : J pc' (l0 :: l1 :: l2 :: l3 :: l4 :: l5 :: l6 :: l7 :: l8 :: l9 :: l10 :: some (aI x) :: L) st μ k n) : J pc (l0 :: l1 :: l2 :: l3 :: l4 :: l5 :: l6 :: l7 :: l8 :: l9 :: l10 :: l11 :: L) (aI x :: st) μ k n :=
  mj_istoreG C (i := 11) hdg hp  (by simp only [List.length_cons]; omega) hn9 (by intro j w hj h; obtain rfl : j = 10 := (by omega); exact jw_of hw (Option.some.inj h)) K

theorem mj_istore_12 (C : jCtx l J cc nL own R rt md hh ret thr mc ms) {l0 l1 l2 l3 l4 l5 l6 l7 l8 l9 l10 l11 l12 : Option jV} {x : Int32} (hdg : decode cc pc = .ok (.istore 12, 2)) (hp : pc + 2 = pc') (hn9 : 12 < nL) (hw : jw l11 = true) (K : J pc' (l0 :: l1 :: l2 :: l3 :: l4 :: l5 :: l6 :: l7 :: l8 :: l9 :: l10 :: l11 :: some (aI x) :: L) st μ k n) : J pc (l0 :: l1 :: l2 :: l3 :: l4 :: l5 :: l6 :: l7 :: l8 :: l9 :: l10 :: l11 :: l12 :: L) (aI x :: st) μ k n :=
  mj_istoreG C (i := 12) hdg hp  (by simp only [List.length_cons]; omega) hn9 (by intro j w hj h; obtain rfl : j = 11 := (by omega); exact jw_of hw (Option.some.inj h)) K

theorem mj_istore_13 (C : jCtx l J cc nL own R rt md hh ret thr mc ms) {l0 l1 l2 l3 l4 l5 l6 l7 l8 l9 l10 l11 l12 l13 : Option jV} {x : Int32} (hdg : decode cc pc = .ok (.istore 13, 2)) (hp : pc + 2 = pc') (hn9 : 13 < nL) (hw : jw l12 = true) (K : J pc' (l0 :: l1 :: l2 :: l3 :: l4 :: l5 :: l6 :: l7 :: l8 :: l9 :: l10 :: l11 :: l12 :: some (aI x) :: L) st μ k n) : J pc (l0 :: l1 :: l2 :: l3 :: l4 :: l5 :: l6 :: l7 :: l8 :: l9 :: l10 :: l11 :: l12 :: l13 :: L) (aI x :: st) μ k n :=
  mj_istoreG C (i := 13) hdg hp  (by simp only [List.length_cons]; omega) hn9 (by intro j w hj h; obtain rfl : j = 12 := (by omega); exact jw_of hw (Option.some.inj h)) K

theorem mj_istore_14 (C : jCtx l J cc nL own R rt md hh ret thr mc ms) {l0 l1 l2 l3 l4 l5 l6 l7 l8 l9 l10 l11 l12 l13 l14 : Option jV} {x : Int32} (hdg : decode cc pc = .ok (.istore 14, 2)) (hp : pc + 2 = pc') (hn9 : 14 < nL) (hw : jw l13 = true) (K : J pc' (l0 :: l1 :: l2 :: l3 :: l4 :: l5 :: l6 :: l7 :: l8 :: l9 :: l10 :: l11 :: l12 :: l13 :: some (aI x) :: L) st μ k n) : J pc (l0 :: l1 :: l2 :: l3 :: l4 :: l5 :: l6 :: l7 :: l8 :: l9 :: l10 :: l11 :: l12 :: l13 :: l14 :: L) (aI x :: st) μ k n :=
  mj_istoreG C (i := 14) hdg hp  (by simp only [List.length_cons]; omega) hn9 (by intro j w hj h; obtain rfl : j = 13 := (by omega); exact jw_of hw (Option.some.inj h)) K

theorem mj_istore_15 (C : jCtx l J cc nL own R rt md hh ret thr mc ms) {l0 l1 l2 l3 l4 l5 l6 l7 l8 l9 l10 l11 l12 l13 l14 l15 : Option jV} {x : Int32} (hdg : decode cc pc = .ok (.istore 15, 2)) (hp : pc + 2 = pc') (hn9 : 15 < nL) (hw : jw l14 = true) (K : J pc' (l0 :: l1 :: l2 :: l3 :: l4 :: l5 :: l6 :: l7 :: l8 :: l9 :: l10 :: l11 :: l12 :: l13 :: l14 :: some (aI x) :: L) st μ k n) : J pc (l0 :: l1 :: l2 :: l3 :: l4 :: l5 :: l6 :: l7 :: l8 :: l9 :: l10 :: l11 :: l12 :: l13 :: l14 :: l15 :: L) (aI x :: st) μ k n :=
  mj_istoreG C (i := 15) hdg hp  (by simp only [List.length_cons]; omega) hn9 (by intro j w hj h; obtain rfl : j = 14 := (by omega); exact jw_of hw (Option.some.inj h)) K

theorem mj_istore_16 (C : jCtx l J cc nL own R rt md hh ret thr mc ms) {l0 l1 l2 l3 l4 l5 l6 l7 l8 l9 l10 l11 l12 l13 l14 l15 l16 : Option jV} {x : Int32} (hdg : decode cc pc = .ok (.istore 16, 2)) (hp : pc + 2 = pc') (hn9 : 16 < nL) (hw : jw l15 = true) (K : J pc' (l0 :: l1 :: l2 :: l3 :: l4 :: l5 :: l6 :: l7 :: l8 :: l9 :: l10 :: l11 :: l12 :: l13 :: l14 :: l15 :: some (aI x) :: L) st μ k n) : J pc (l0 :: l1 :: l2 :: l3 :: l4 :: l5 :: l6 :: l7 :: l8 :: l9 :: l10 :: l11 :: l12 :: l13 :: l14 :: l15 :: l16 :: L) (aI x :: st) μ k n :=
  mj_istoreG C (i := 16) hdg hp  (by simp only [List.length_cons]; omega) hn9 (by intro j w hj h; obtain rfl : j = 15 := (by omega); exact jw_of hw (Option.some.inj h)) K

theorem mj_istore_17 (C : jCtx l J cc nL own R rt md hh ret thr mc ms) {l0 l1 l2 l3 l4 l5 l6 l7 l8 l9 l10 l11 l12 l13 l14 l15 l16 l17 : Option jV} {x : Int32} (hdg : decode cc pc = .ok (.istore 17, 2)) (hp : pc + 2 = pc') (hn9 : 17 < nL) (hw : jw l16 = true) (K : J pc' (l0 :: l1 :: l2 :: l3 :: l4 :: l5 :: l6 :: l7 :: l8 :: l9 :: l10 :: l11 :: l12 :: l13 :: l14 :: l15 :: l16 :: some (aI x) :: L) st μ k n) : J pc (l0 :: l1 :: l2 :: l3 :: l4 :: l5 :: l6 :: l7 :: l8 :: l9 :: l10 :: l11 :: l12 :: l13 :: l14 :: l15 :: l16 :: l17 :: L) (aI x :: st) μ k n :=
  mj_istoreG C (i := 17) hdg hp  (by simp only [List.length_cons]; omega) hn9 (by intro j w hj h; obtain rfl : j = 16 := (by omega); exact jw_of hw (Option.some.inj h)) K

theorem mj_istore_18 (C : jCtx l J cc nL own R rt md hh ret thr mc ms) {l0 l1 l2 l3 l4 l5 l6 l7 l8 l9 l10 l11 l12 l13 l14 l15 l16 l17 l18 : Option jV} {x : Int32} (hdg : decode cc pc = .ok (.istore 18, 2)) (hp : pc + 2 = pc') (hn9 : 18 < nL) (hw : jw l17 = true) (K : J pc' (l0 :: l1 :: l2 :: l3 :: l4 :: l5 :: l6 :: l7 :: l8 :: l9 :: l10 :: l11 :: l12 :: l13 :: l14 :: l15 :: l16 :: l17 :: some (aI x) :: L) st μ k n) : J pc (l0 :: l1 :: l2 :: l3 :: l4 :: l5 :: l6 :: l7 :: l8 :: l9 :: l10 :: l11 :: l12 :: l13 :: l14 :: l15 :: l16 :: l17 :: l18 :: L) (aI x :: st) μ k n :=
  mj_istoreG C (i := 18) hdg hp  (by simp only [List.length_cons]; omega) hn9 (by intro j w hj h; obtain rfl : j = 17 := (by omega); exact jw_of hw (Option.some.inj h)) K

theorem mj_istore_19 (C : jCtx l J cc nL own R rt md hh ret thr mc ms) {l0 l1 l2 l3 l4 l5 l6 l7 l8 l9 l10 l11 l12 l13 l14 l15 l16 l17 l18 l19 : Option jV} {x : Int32} (hdg : decode cc pc = .ok (.istore 19, 2)) (hp : pc + 2 = pc') (hn9 : 19 < nL) (hw : jw l18 = true) (K : J pc' (l0 :: l1 :: l2 :: l3 :: l4 :: l5 :: l6 :: l7 :: l8 :: l9 :: l10 :: l11 :: l12 :: l13 :: l14 :: l15 :: l16 :: l17 :: l18 :: some (aI x) :: L) st μ k n) : J pc (l0 :: l1 :: l2 :: l3 :: l4 :: l5 :: l6 :: l7 :: l8 :: l9 :: l10 :: l11 :: l12 :: l13 :: l14 :: l15 :: l16 :: l17 :: l18 :: l19 :: L) (aI x :: st) μ k n :=
  mj_istoreG C (i := 19) hdg hp  (by simp only [List.length_cons]; omega) hn9 (by intro j w hj h; obtain rfl : j = 18 := (by omega); exact jw_of hw (Option.some.inj h)) K

theorem mj_istore_20 (C : jCtx l J cc nL own R rt md hh ret thr mc ms) {l0 l1 l2 l3 l4 l5 l6 l7 l8 l9 l10 l11 l12 l13 l14 l15 l16 l17 l18 l19 l20 : Option jV} {x : Int32} (hdg : decode cc pc = .ok (.istore 20, 2)) (hp : pc + 2 = pc') (hn9 : 20 < nL) (hw : jw l19 = true) (K : J pc' (l0 :: l1 :: l2 :: l3 :: l4 :: l5 :: l6 :: l7 :: l8 :: l9 :: l10 :: l11 :: l12 :: l13 :: l14 :: l15 :: l16 :: l17 :: l18 :: l19 :: some (aI x) :: L) st μ k n) : J pc (l0 :: l1 :: l2 :: l3 :: l4 :: l5 :: l6 :: l7 :: l8 :: l9 :: l10 :: l11 :: l12 :: l13 :: l14 :: l15 :: l16 :: l17 :: l18 :: l19 :: l20 :: L) (aI x :: st) μ k n :=
  mj_istoreG C (i := 20) hdg hp  (by simp only [List.length_cons]; omega) hn9 (by intro j w hj h; obtain rfl : j = 19 := (by omega); exact jw_of hw (Option.some.inj h)) K

theorem mj_istore_21 (C : jCtx l J cc nL own R rt md hh ret thr mc ms) {l0 l1 l2 l3 l4 l5 l6 l7 l8 l9 l10 l11 l12 l13 l14 l15 l16 l17 l18 l19 l20 l21 : Option jV} {x : Int32} (hdg : decode cc pc = .ok (.istore 21, 2)) (hp : pc + 2 = pc') (hn9 : 21 < nL) (hw : jw l20 = true) (K : J pc' (l0 :: l1 :: l2 :: l3 :: l4 :: l5 :: l6 :: l7 :: l8 :: l9 :: l10 :: l11 :: l12 :: l13 :: l14 :: l15 :: l16 :: l17 :: l18 :: l19 :: l20 :: some (aI x) :: L) st μ k n) : J pc (l0 :: l1 :: l2 :: l3 :: l4 :: l5 :: l6 :: l7 :: l8 :: l9 :: l10 :: l11 :: l12 :: l13 :: l14 :: l15 :: l16 :: l17 :: l18 :: l19 :: l20 :: l21 :: L) (aI x :: st) μ k n :=
  mj_istoreG C (i := 21) hdg hp  (by simp only [List.length_cons]; omega) hn9 (by intro j w hj h; obtain rfl : j = 20 := (by omega); exact jw_of hw (Option.some.inj h)) K

theorem mj_istore_22 (C : jCtx l J cc nL own R rt md hh ret thr mc ms) {l0 l1 l2 l3 l4 l5 l6 l7 l8 l9 l10 l11 l12 l13 l14 l15 l16 l17 l18 l19 l20 l21 l22 : Option jV} {x : Int32} (hdg : decode cc pc = .ok (.istore 22, 2)) (hp : pc + 2 = pc') (hn9 : 22 < nL) (hw : jw l21 = true) (K : J pc' (l0 :: l1 :: l2 :: l3 :: l4 :: l5 :: l6 :: l7 :: l8 :: l9 :: l10 :: l11 :: l12 :: l13 :: l14 :: l15 :: l16 :: l17 :: l18 :: l19 :: l20 :: l21 :: some (aI x) :: L) st μ k n) : J pc (l0 :: l1 :: l2 :: l3 :: l4 :: l5 :: l6 :: l7 :: l8 :: l9 :: l10 :: l11 :: l12 :: l13 :: l14 :: l15 :: l16 :: l17 :: l18 :: l19 :: l20 :: l21 :: l22 :: L) (aI x :: st) μ k n :=
  mj_istoreG C (i := 22) hdg hp  (by simp only [List.length_cons]; omega) hn9 (by intro j w hj h; obtain rfl : j = 21 := (by omega); exact jw_of hw (Option.some.inj h)) K

theorem mj_istore_23 (C : jCtx l J cc nL own R rt md hh ret thr mc ms) {l0 l1 l2 l3 l4 l5 l6 l7 l8 l9 l10 l11 l12 l13 l14 l15 l16 l17 l18 l19 l20 l21 l22 l23 : Option jV} {x : Int32} (hdg : decode cc pc = .ok (.istore 23, 2)) (hp : pc + 2 = pc') (hn9 : 23 < nL) (hw : jw l22 = true) (K : J pc' (l0 :: l1 :: l2 :: l3 :: l4 :: l5 :: l6 :: l7 :: l8 :: l9 :: l10 :: l11 :: l12 :: l13 :: l14 :: l15 :: l16 :: l17 :: l18 :: l19 :: l20 :: l21 :: l22 :: some (aI x) :: L) st μ k n) : J pc (l0 :: l1 :: l2 :: l3 :: l4 :: l5 :: l6 :: l7 :: l8 :: l9 :: l10 :: l11 :: l12 :: l13 :: l14 :: l15 :: l16 :: l17 :: l18 :: l19 :: l20 :: l21 :: l22 :: l23 :: L) (aI x :: st) μ k n :=
  mj_istoreG C (i := 23) hdg hp  (by simp only [List.length_cons]; omega) hn9 (by intro j w hj h; obtain rfl : j = 22 := (by omega); exact jw_of hw (Option.some.inj h)) K

theorem mj_istore_24 (C : jCtx l J cc nL own R rt md hh ret thr mc ms) {l0 l1 l2 l3 l4 l5 l6 l7 l8 l9 l10 l11 l12 l13 l14 l15 l16 l17 l18 l19 l20 l21 l22 l23 l24 : Option jV} {x : Int32} (hdg : decode cc pc = .ok (.istore 24, 2)) (hp : pc + 2 = pc') (hn9 : 24 < nL) (hw : jw l23 = true) (K : J pc' (l0 :: l1 :: l2 :: l3 :: l4 :: l5 :: l6 :: l7 :: l8 :: l9 :: l10 :: l11 :: l12 :: l13 :: l14 :: l15 :: l16 :: l17 :: l18 :: l19 :: l20 :: l21 :: l22 :: l23 :: some (aI x) :: L) st μ k n) : J pc (l0 :: l1 :: l2 :: l3 :: l4 :: l5 :: l6 :: l7 :: l8 :: l9 :: l10 :: l11 :: l12 :: l13 :: l14 :: l15 :: l16 :: l17 :: l18 :: l19 :: l20 :: l21 :: l22 :: l23 :: l24 :: L) (aI x :: st) μ k n :=
  mj_istoreG C (i := 24) hdg hp  (by simp only [List.length_cons]; omega) hn9 (by intro j w hj h; obtain rfl : j = 23 := (by omega); exact jw_of hw (Option.some.inj h)) K

theorem mj_istore_25 (C : jCtx l J cc nL own R rt md hh ret thr mc ms) {l0 l1 l2 l3 l4 l5 l6 l7 l8 l9 l10 l11 l12 l13 l14 l15 l16 l17 l18 l19 l20 l21 l22 l23 l24 l25 : Option jV} {x : Int32} (hdg : decode cc pc = .ok (.istore 25, 2)) (hp : pc + 2 = pc') (hn9 : 25 < nL) (hw : jw l24 = true) (K : J pc' (l0 :: l1 :: l2 :: l3 :: l4 :: l5 :: l6 :: l7 :: l8 :: l9 :: l10 :: l11 :: l12 :: l13 :: l14 :: l15 :: l16 :: l17 :: l18 :: l19 :: l20 :: l21 :: l22 :: l23 :: l24 :: some (aI x) :: L) st μ k n) : J pc (l0 :: l1 :: l2 :: l3 :: l4 :: l5 :: l6 :: l7 :: l8 :: l9 :: l10 :: l11 :: l12 :: l13 :: l14 :: l15 :: l16 :: l17 :: l18 :: l19 :: l20 :: l21 :: l22 :: l23 :: l24 :: l25 :: L) (aI x :: st) μ k n :=
  mj_istoreG C (i := 25) hdg hp  (by simp only [List.length_cons]; omega) hn9 (by intro j w hj h; obtain rfl : j = 24 := (by omega); exact jw_of hw (Option.some.inj h)) K

theorem mj_istore_26 (C : jCtx l J cc nL own R rt md hh ret thr mc ms) {l0 l1 l2 l3 l4 l5 l6 l7 l8 l9 l10 l11 l12 l13 l14 l15 l16 l17 l18 l19 l20 l21 l22 l23 l24 l25 l26 : Option jV} {x : Int32} (hdg : decode cc pc = .ok (.istore 26, 2)) (hp : pc + 2 = pc') (hn9 : 26 < nL) (hw : jw l25 = true) (K : J pc' (l0 :: l1 :: l2 :: l3 :: l4 :: l5 :: l6 :: l7 :: l8 :: l9 :: l10 :: l11 :: l12 :: l13 :: l14 :: l15 :: l16 :: l17 :: l18 :: l19 :: l20 :: l21 :: l22 :: l23 :: l24 :: l25 :: some (aI x) :: L) st μ k n) : J pc (l0 :: l1 :: l2 :: l3 :: l4 :: l5 :: l6 :: l7 :: l8 :: l9 :: l10 :: l11 :: l12 :: l13 :: l14 :: l15 :: l16 :: l17 :: l18 :: l19 :: l20 :: l21 :: l22 :: l23 :: l24 :: l25 :: l26 :: L) (aI x :: st) μ k n :=
  mj_istoreG C (i := 26) hdg hp  (by simp only [List.length_cons]; omega) hn9 (by intro j w hj h; obtain rfl : j = 25 := (by omega); exact jw_of hw (Option.some.inj h)) K

theorem mj_istore_27 (C : jCtx l J cc nL own R rt md hh ret thr mc ms) {l0 l1 l2 l3 l4 l5 l6 l7 l8 l9 l10 l11 l12 l13 l14 l15 l16 l17 l18 l19 l20 l21 l22 l23 l24 l25 l26 l27 : Option jV} {x : Int32} (hdg : decode cc pc = .ok (.istore 27, 2)) (hp : pc + 2 = pc') (hn9 : 27 < nL) (hw : jw l26 = true) (K : J pc' (l0 :: l1 :: l2 :: l3 :: l4 :: l5 :: l6 :: l7 :: l8 :: l9 :: l10 :: l11 :: l12 :: l13 :: l14 :: l15 :: l16 :: l17 :: l18 :: l19 :: l20 :: l21 :: l22 :: l23 :: l24 :: l25 :: l26 :: some (aI x) :: L) st μ k n) : J pc (l0 :: l1 :: l2 :: l3 :: l4 :: l5 :: l6 :: l7 :: l8 :: l9 :: l10 :: l11 :: l12 :: l13 :: l14 :: l15 :: l16 :: l17 :: l18 :: l19 :: l20 :: l21 :: l22 :: l23 :: l24 :: l25 :: l26 :: l27 :: L) (aI x :: st) μ k n :=
  mj_istoreG C (i := 27) hdg hp  (by simp only [List.length_cons]; omega) hn9 (by intro j w hj h; obtain rfl : j = 26 := (by omega); exact jw_of hw (Option.some.inj h)) K

theorem mj_istore_28 (C : jCtx l J cc nL own R rt md hh ret thr mc ms) {l0 l1 l2 l3 l4 l5 l6 l7 l8 l9 l10 l11 l12 l13 l14 l15 l16 l17 l18 l19 l20 l21 l22 l23 l24 l25 l26 l27 l28 : Option jV} {x : Int32} (hdg : decode cc pc = .ok (.istore 28, 2)) (hp : pc + 2 = pc') (hn9 : 28 < nL) (hw : jw l27 = true) (K : J pc' (l0 :: l1 :: l2 :: l3 :: l4 :: l5 :: l6 :: l7 :: l8 :: l9 :: l10 :: l11 :: l12 :: l13 :: l14 :: l15 :: l16 :: l17 :: l18 :: l19 :: l20 :: l21 :: l22 :: l23 :: l24 :: l25 :: l26 :: l27 :: some (aI x) :: L) st μ k n) : J pc (l0 :: l1 :: l2 :: l3 :: l4 :: l5 :: l6 :: l7 :: l8 :: l9 :: l10 :: l11 :: l12 :: l13 :: l14 :: l15 :: l16 :: l17 :: l18 :: l19 :: l20 :: l21 :: l22 :: l23 :: l24 :: l25 :: l26 :: l27 :: l28 :: L) (aI x :: st) μ k n :=
  mj_istoreG C (i := 28) hdg hp  (by simp only [List.length_cons]; omega) hn9 (by intro j w hj h; obtain rfl : j = 27 := (by omega); exact jw_of hw (Option.some.inj h)) K

theorem mj_istore_29 (C : jCtx l J cc nL own R rt md hh ret thr mc ms) {l0 l1 l2 l3 l4 l5 l6 l7 l8 l9 l10 l11 l12 l13 l14 l15 l16 l17 l18 l19 l20 l21 l22 l23 l24 l25 l26 l27 l28 l29 : Option jV} {x : Int32} (hdg : decode cc pc = .ok (.istore 29, 2)) (hp : pc + 2 = pc') (hn9 : 29 < nL) (hw : jw l28 = true) (K : J pc' (l0 :: l1 :: l2 :: l3 :: l4 :: l5 :: l6 :: l7 :: l8 :: l9 :: l10 :: l11 :: l12 :: l13 :: l14 :: l15 :: l16 :: l17 :: l18 :: l19 :: l20 :: l21 :: l22 :: l23 :: l24 :: l25 :: l26 :: l27 :: l28 :: some (aI x) :: L) st μ k n) : J pc (l0 :: l1 :: l2 :: l3 :: l4 :: l5 :: l6 :: l7 :: l8 :: l9 :: l10 :: l11 :: l12 :: l13 :: l14 :: l15 :: l16 :: l17 :: l18 :: l19 :: l20 :: l21 :: l22 :: l23 :: l24 :: l25 :: l26 :: l27 :: l28 :: l29 :: L) (aI x :: st) μ k n :=
  mj_istoreG C (i := 29) hdg hp  (by simp only [List.length_cons]; omega) hn9 (by intro j w hj h; obtain rfl : j = 28 := (by omega); exact jw_of hw (Option.some.inj h)) K

theorem mj_istore_30 (C : jCtx l J cc nL own R rt md hh ret thr mc ms) {l0 l1 l2 l3 l4 l5 l6 l7 l8 l9 l10 l11 l12 l13 l14 l15 l16 l17 l18 l19 l20 l21 l22 l23 l24 l25 l26 l27 l28 l29 l30 : Option jV} {x : Int32} (hdg : decode cc pc = .ok (.istore 30, 2)) (hp : pc + 2 = pc') (hn9 : 30 < nL) (hw : jw l29 = true) (K : J pc' (l0 :: l1 :: l2 :: l3 :: l4 :: l5 :: l6 :: l7 :: l8 :: l9 :: l10 :: l11 :: l12 :: l13 :: l14 :: l15 :: l16 :: l17 :: l18 :: l19 :: l20 :: l21 :: l22 :: l23 :: l24 :: l25 :: l26 :: l27 :: l28 :: l29 :: some (aI x) :: L) st μ k n) : J pc (l0 :: l1 :: l2 :: l3 :: l4 :: l5 :: l6 :: l7 :: l8 :: l9 :: l10 :: l11 :: l12 :: l13 :: l14 :: l15 :: l16 :: l17 :: l18 :: l19 :: l20 :: l21 :: l22 :: l23 :: l24 :: l25 :: l26 :: l27 :: l28 :: l29 :: l30 :: L) (aI x :: st) μ k n :=
  mj_istoreG C (i := 30) hdg hp  (by simp only [List.length_cons]; omega) hn9 (by intro j w hj h; obtain rfl : j = 29 := (by omega); exact jw_of hw (Option.some.inj h)) K

theorem mj_istore_31 (C : jCtx l J cc nL own R rt md hh ret thr mc ms) {l0 l1 l2 l3 l4 l5 l6 l7 l8 l9 l10 l11 l12 l13 l14 l15 l16 l17 l18 l19 l20 l21 l22 l23 l24 l25 l26 l27 l28 l29 l30 l31 : Option jV} {x : Int32} (hdg : decode cc pc = .ok (.istore 31, 2)) (hp : pc + 2 = pc') (hn9 : 31 < nL) (hw : jw l30 = true) (K : J pc' (l0 :: l1 :: l2 :: l3 :: l4 :: l5 :: l6 :: l7 :: l8 :: l9 :: l10 :: l11 :: l12 :: l13 :: l14 :: l15 :: l16 :: l17 :: l18 :: l19 :: l20 :: l21 :: l22 :: l23 :: l24 :: l25 :: l26 :: l27 :: l28 :: l29 :: l30 :: some (aI x) :: L) st μ k n) : J pc (l0 :: l1 :: l2 :: l3 :: l4 :: l5 :: l6 :: l7 :: l8 :: l9 :: l10 :: l11 :: l12 :: l13 :: l14 :: l15 :: l16 :: l17 :: l18 :: l19 :: l20 :: l21 :: l22 :: l23 :: l24 :: l25 :: l26 :: l27 :: l28 :: l29 :: l30 :: l31 :: L) (aI x :: st) μ k n :=
  mj_istoreG C (i := 31) hdg hp  (by simp only [List.length_cons]; omega) hn9 (by intro j w hj h; obtain rfl : j = 30 := (by omega); exact jw_of hw (Option.some.inj h)) K

theorem mj_istore_32 (C : jCtx l J cc nL own R rt md hh ret thr mc ms) {l0 l1 l2 l3 l4 l5 l6 l7 l8 l9 l10 l11 l12 l13 l14 l15 l16 l17 l18 l19 l20 l21 l22 l23 l24 l25 l26 l27 l28 l29 l30 l31 l32 : Option jV} {x : Int32} (hdg : decode cc pc = .ok (.istore 32, 2)) (hp : pc + 2 = pc') (hn9 : 32 < nL) (hw : jw l31 = true) (K : J pc' (l0 :: l1 :: l2 :: l3 :: l4 :: l5 :: l6 :: l7 :: l8 :: l9 :: l10 :: l11 :: l12 :: l13 :: l14 :: l15 :: l16 :: l17 :: l18 :: l19 :: l20 :: l21 :: l22 :: l23 :: l24 :: l25 :: l26 :: l27 :: l28 :: l29 :: l30 :: l31 :: some (aI x) :: L) st μ k n) : J pc (l0 :: l1 :: l2 :: l3 :: l4 :: l5 :: l6 :: l7 :: l8 :: l9 :: l10 :: l11 :: l12 :: l13 :: l14 :: l15 :: l16 :: l17 :: l18 :: l19 :: l20 :: l21 :: l22 :: l23 :: l24 :: l25 :: l26 :: l27 :: l28 :: l29 :: l30 :: l31 :: l32 :: L) (aI x :: st) μ k n :=
  mj_istoreG C (i := 32) hdg hp  (by simp only [List.length_cons]; omega) hn9 (by intro j w hj h; obtain rfl : j = 31 := (by omega); exact jw_of hw (Option.some.inj h)) K

theorem mj_istore_33 (C : jCtx l J cc nL own R rt md hh ret thr mc ms) {l0 l1 l2 l3 l4 l5 l6 l7 l8 l9 l10 l11 l12 l13 l14 l15 l16 l17 l18 l19 l20 l21 l22 l23 l24 l25 l26 l27 l28 l29 l30 l31 l32 l33 : Option jV} {x : Int32} (hdg : decode cc pc = .ok (.istore 33, 2)) (hp : pc + 2 = pc') (hn9 : 33 < nL) (hw : jw l32 = true) (K : J pc' (l0 :: l1 :: l2 :: l3 :: l4 :: l5 :: l6 :: l7 :: l8 :: l9 :: l10 :: l11 :: l12 :: l13 :: l14 :: l15 :: l16 :: l17 :: l18 :: l19 :: l20 :: l21 :: l22 :: l23 :: l24 :: l25 :: l26 :: l27 :: l28 :: l29 :: l30 :: l31 :: l32 :: some (aI x) :: L) st μ k n) : J pc (l0 :: l1 :: l2 :: l3 :: l4 :: l5 :: l6 :: l7 :: l8 :: l9 :: l10 :: l11 :: l12 :: l13 :: l14 :: l15 :: l16 :: l17 :: l18 :: l19 :: l20 :: l21 :: l22 :: l23 :: l24 :: l25 :: l26 :: l27 :: l28 :: l29 :: l30 :: l31 :: l32 :: l33 :: L) (aI x :: st) μ k n :=
  mj_istoreG C (i := 33) hdg hp  (by simp only [List.length_cons]; omega) hn9 (by intro j w hj h; obtain rfl : j = 32 := (by omega); exact jw_of hw (Option.some.inj h)) K

theorem mj_istore_34 (C : jCtx l J cc nL own R rt md hh ret thr mc ms) {l0 l1 l2 l3 l4 l5 l6 l7 l8 l9 l10 l11 l12 l13 l14 l15 l16 l17 l18 l19 l20 l21 l22 l23 l24 l25 l26 l27 l28 l29 l30 l31 l32 l33 l34 : Option jV} {x : Int32} (hdg : decode cc pc = .ok (.istore 34, 2)) (hp : pc + 2 = pc') (hn9 : 34 < nL) (hw : jw l33 = true) (K : J pc' (l0 :: l1 :: l2 :: l3 :: l4 :: l5 :: l6 :: l7 :: l8 :: l9 :: l10 :: l11 :: l12 :: l13 :: l14 :: l15 :: l16 :: l17 :: l18 :: l19 :: l20 :: l21 :: l22 :: l23 :: l24 :: l25 :: l26 :: l27 :: l28 :: l29 :: l30 :: l31 :: l32 :: l33 :: some (aI x) :: L) st μ k n) : J pc (l0 :: l1 :: l2 :: l3 :: l4 :: l5 :: l6 :: l7 :: l8 :: l9 :: l10 :: l11 :: l12 :: l13 :: l14 :: l15 :: l16 :: l17 :: l18 :: l19 :: l20 :: l21 :: l22 :: l23 :: l24 :: l25 :: l26 :: l27 :: l28 :: l29 :: l30 :: l31 :: l32 :: l33 :: l34 :: L) (aI x :: st) μ k n :=
  mj_istoreG C (i := 34) hdg hp  (by simp only [List.length_cons]; omega) hn9 (by intro j w hj h; obtain rfl : j = 33 := (by omega); exact jw_of hw (Option.some.inj h)) K

theorem mj_istore_35 (C : jCtx l J cc nL own R rt md hh ret thr mc ms) {l0 l1 l2 l3 l4 l5 l6 l7 l8 l9 l10 l11 l12 l13 l14 l15 l16 l17 l18 l19 l20 l21 l22 l23 l24 l25 l26 l27 l28 l29 l30 l31 l32 l33 l34 l35 : Option jV} {x : Int32} (hdg : decode cc pc = .ok (.istore 35, 2)) (hp : pc + 2 = pc') (hn9 : 35 < nL) (hw : jw l34 = true) (K : J pc' (l0 :: l1 :: l2 :: l3 :: l4 :: l5 :: l6 :: l7 :: l8 :: l9 :: l10 :: l11 :: l12 :: l13 :: l14 :: l15 :: l16 :: l17 :: l18 :: l19 :: l20 :: l21 :: l22 :: l23 :: l24 :: l25 :: l26 :: l27 :: l28 :: l29 :: l30 :: l31 :: l32 :: l33 :: l34 :: some (aI x) :: L) st μ k n) : J pc (l0 :: l1 :: l2 :: l3 :: l4 :: l5 :: l6 :: l7 :: l8 :: l9 :: l10 :: l11 :: l12 :: l13 :: l14 :: l15 :: l16 :: l17 :: l18 :: l19 :: l20 :: l21 :: l22 :: l23 :: l24 :: l25 :: l26 :: l27 :: l28 :: l29 :: l30 :: l31 :: l32 :: l33 :: l34 :: l35 :: L) (aI x :: st) μ k n :=
  mj_istoreG C (i := 35) hdg hp  (by simp only [List.length_cons]; omega) hn9 (by intro j w hj h; obtain rfl : j = 34 := (by omega); exact jw_of hw (Option.some.inj h)) K

theorem mj_istore_nG (C : jCtx l J cc nL own R rt md hh ret thr mc ms) {k9 : Fin 4} {i : Nat} {x : Int32} (hdg : decode cc pc = .ok (.istore_n k9, 1)) (hp : pc + 1 = pc') (hk : (k9 : Nat) = i) (hi : i < L.length) (hn9 : i < nL) (hw : ∀ j w, j + 1 = i → L[j]? = some (some w) → jcat w ≠ 2) (K : J pc' (L.set i (some (aI x))) st μ k n) : J pc L (aI x :: st) μ k n := by
  obtain ⟨p, e, s, m, args, below, meth, c, D, cm, ad0, μ0, Q, rfl, hx, hb, hml, hrt, hown, hlk, hU, hE⟩ := C
  subst hp
  intro ad H locs ls hT hX hS hL hs hl
  exact lv_istore_n hx hb hdg hk hl hn9 rfl (fun ls' hl' => K ad H locs ls' hT hX hS (jl_setc hL (jst_h hs)) (jst_t hs) (jl_set rfl hi hw hl'))

theorem mj_istore_n_0 (C : jCtx l J cc nL own R rt md hh ret thr mc ms) {l0 : Option jV} {x : Int32} (hdg : decode cc pc = .ok (.istore_n 0, 1)) (hp : pc + 1 = pc') (hn9 : 0 < nL)  (K : J pc' (some (aI x) :: L) st μ k n) : J pc (l0 :: L) (aI x :: st) μ k n :=
  mj_istore_nG C (i := 0) hdg hp rfl (by simp only [List.length_cons]; omega) hn9 (fun j w hj h => by omega) K

theorem mj_istore_n_1 (C : jCtx l J cc nL own R rt md hh ret thr mc ms) {l0 l1 : Option jV} {x : Int32} (hdg : decode cc pc = .ok (.istore_n 1, 1)) (hp : pc + 1 = pc') (hn9 : 1 < nL) (hw : jw l0 = true) (K : J pc' (l0 :: some (aI x) :: L) st μ k n) : J pc (l0 :: l1 :: L) (aI x :: st) μ k n :=
  mj_istore_nG C (i := 1) hdg hp rfl (by simp only [List.length_cons]; omega) hn9 (by intro j w hj h; obtain rfl : j = 0 := (by omega); exact jw_of hw (Option.some.inj h)) K

theorem mj_istore_n_2 (C : jCtx l J cc nL own R rt md hh ret thr mc ms) {l0 l1 l2 : Option jV} {x : Int32} (hdg : decode cc pc = .ok (.istore_n 2, 1)) (hp : pc + 1 = pc') (hn9 : 2 < nL) (hw : jw l1 = true) (K : J pc' (l0 :: l1 :: some (aI x) :: L) st μ k n) : J pc (l0 :: l1 :: l2 :: L) (aI x :: st) μ k n :=
  mj_istore_nG C (i := 2) hdg hp rfl (by simp only [List.length_cons]; omega) hn9 (by intro j w hj h; obtain rfl : j = 1 := (by omega); exact jw_of hw (Option.some.inj h)) K

theorem mj_istore_n_3 (C : jCtx l J cc nL own R rt md hh ret thr mc ms) {l0 l1 l2 l3 : Option jV} {x : Int32} (hdg : decode cc pc = .ok (.istore_n 3, 1)) (hp : pc + 1 = pc') (hn9 : 3 < nL) (hw : jw l2 = true) (K : J pc' (l0 :: l1 :: l2 :: some (aI x) :: L) st μ k n) : J pc (l0 :: l1 :: l2 :: l3 :: L) (aI x :: st) μ k n :=
  mj_istore_nG C (i := 3) hdg hp rfl (by simp only [List.length_cons]; omega) hn9 (by intro j w hj h; obtain rfl : j = 2 := (by omega); exact jw_of hw (Option.some.inj h)) K

theorem mj_lstoreG (C : jCtx l J cc nL own R rt md hh ret thr mc ms) {i : Nat} {x : Int64} (hdg : decode cc pc = .ok (.lstore i, 2)) (hp : pc + 2 = pc')  (hi : i + 1 < L.length) (hn9 : i + 1 < nL) (hw : ∀ j w, j + 1 = i → L[j]? = some (some w) → jcat w ≠ 2) (K : J pc' ((L.set i (some (aL x))).set (i + 1) none) st μ k n) : J pc L (aL x :: st) μ k n := by
  obtain ⟨p, e, s, m, args, below, meth, c, D, cm, ad0, μ0, Q, rfl, hx, hb, hml, hrt, hown, hlk, hU, hE⟩ := C
  subst hp
  intro ad H locs ls hT hX hS hL hs hl
  exact lv_lstore hx hb hdg hl hn9 rfl (fun ls' hl' => K ad H locs ls' hT hX hS (jl_setn (jl_setc hL (jst_h hs))) (jst_t hs) (jl_set2 rfl hi hw hl'))

theorem mj_lstore_0 (C : jCtx l J cc nL own R rt md hh ret thr mc ms) {l0 l1 : Option jV} {x : Int64} (hdg : decode cc pc = .ok (.lstore 0, 2)) (hp : pc + 2 = pc') (hn9 : 1 < nL)  (K : J pc' (some (aL x) :: none :: L) st μ k n) : J pc (l0 :: l1 :: L) (aL x :: st) μ k n :=
  mj_lstoreG C (i := 0) hdg hp  (by simp only [List.length_cons]; omega) hn9 (fun j w hj h => by omega) K

theorem mj_lstore_1 (C : jCtx l J cc nL own R rt md hh ret thr mc ms) {l0 l1 l2 : Option jV} {x : Int64} (hdg : decode cc pc = .ok (.lstore 1, 2)) (hp : pc + 2 = pc') (hn9 : 2 < nL) (hw : jw l0 = true) (K : J pc' (l0 :: some (aL x) :: none :: L) st μ k n) : J pc (l0 :: l1 :: l2 :: L) (aL x :: st) μ k n :=
  mj_lstoreG C (i := 1) hdg hp  (by simp only [List.length_cons]; omega) hn9 (by intro j w hj h; obtain rfl : j = 0 := (by omega); exact jw_of hw (Option.some.inj h)) K

theorem mj_lstore_2 (C : jCtx l J cc nL own R rt md hh ret thr mc ms) {l0 l1 l2 l3 : Option jV} {x : Int64} (hdg : decode cc pc = .ok (.lstore 2, 2)) (hp : pc + 2 = pc') (hn9 : 3 < nL) (hw : jw l1 = true) (K : J pc' (l0 :: l1 :: some (aL x) :: none :: L) st μ k n) : J pc (l0 :: l1 :: l2 :: l3 :: L) (aL x :: st) μ k n :=
  mj_lstoreG C (i := 2) hdg hp  (by simp only [List.length_cons]; omega) hn9 (by intro j w hj h; obtain rfl : j = 1 := (by omega); exact jw_of hw (Option.some.inj h)) K

theorem mj_lstore_3 (C : jCtx l J cc nL own R rt md hh ret thr mc ms) {l0 l1 l2 l3 l4 : Option jV} {x : Int64} (hdg : decode cc pc = .ok (.lstore 3, 2)) (hp : pc + 2 = pc') (hn9 : 4 < nL) (hw : jw l2 = true) (K : J pc' (l0 :: l1 :: l2 :: some (aL x) :: none :: L) st μ k n) : J pc (l0 :: l1 :: l2 :: l3 :: l4 :: L) (aL x :: st) μ k n :=
  mj_lstoreG C (i := 3) hdg hp  (by simp only [List.length_cons]; omega) hn9 (by intro j w hj h; obtain rfl : j = 2 := (by omega); exact jw_of hw (Option.some.inj h)) K

theorem mj_lstore_4 (C : jCtx l J cc nL own R rt md hh ret thr mc ms) {l0 l1 l2 l3 l4 l5 : Option jV} {x : Int64} (hdg : decode cc pc = .ok (.lstore 4, 2)) (hp : pc + 2 = pc') (hn9 : 5 < nL) (hw : jw l3 = true) (K : J pc' (l0 :: l1 :: l2 :: l3 :: some (aL x) :: none :: L) st μ k n) : J pc (l0 :: l1 :: l2 :: l3 :: l4 :: l5 :: L) (aL x :: st) μ k n :=
  mj_lstoreG C (i := 4) hdg hp  (by simp only [List.length_cons]; omega) hn9 (by intro j w hj h; obtain rfl : j = 3 := (by omega); exact jw_of hw (Option.some.inj h)) K

theorem mj_lstore_5 (C : jCtx l J cc nL own R rt md hh ret thr mc ms) {l0 l1 l2 l3 l4 l5 l6 : Option jV} {x : Int64} (hdg : decode cc pc = .ok (.lstore 5, 2)) (hp : pc + 2 = pc') (hn9 : 6 < nL) (hw : jw l4 = true) (K : J pc' (l0 :: l1 :: l2 :: l3 :: l4 :: some (aL x) :: none :: L) st μ k n) : J pc (l0 :: l1 :: l2 :: l3 :: l4 :: l5 :: l6 :: L) (aL x :: st) μ k n :=
  mj_lstoreG C (i := 5) hdg hp  (by simp only [List.length_cons]; omega) hn9 (by intro j w hj h; obtain rfl : j = 4 := (by omega); exact jw_of hw (Option.some.inj h)) K

theorem mj_lstore_6 (C : jCtx l J cc nL own R rt md hh ret thr mc ms) {l0 l1 l2 l3 l4 l5 l6 l7 : Option jV} {x : Int64} (hdg : decode cc pc = .ok (.lstore 6, 2)) (hp : pc + 2 = pc') (hn9 : 7 < nL) (hw : jw l5 = true) (K : J pc' (l0 :: l1 :: l2 :: l3 :: l4 :: l5 :: some (aL x) :: none :: L) st μ k n) : J pc (l0 :: l1 :: l2 :: l3 :: l4 :: l5 :: l6 :: l7 :: L) (aL x :: st) μ k n :=
  mj_lstoreG C (i := 6) hdg hp  (by simp only [List.length_cons]; omega) hn9 (by intro j w hj h; obtain rfl : j = 5 := (by omega); exact jw_of hw (Option.some.inj h)) K

theorem mj_lstore_7 (C : jCtx l J cc nL own R rt md hh ret thr mc ms) {l0 l1 l2 l3 l4 l5 l6 l7 l8 : Option jV} {x : Int64} (hdg : decode cc pc = .ok (.lstore 7, 2)) (hp : pc + 2 = pc') (hn9 : 8 < nL) (hw : jw l6 = true) (K : J pc' (l0 :: l1 :: l2 :: l3 :: l4 :: l5 :: l6 :: some (aL x) :: none :: L) st μ k n) : J pc (l0 :: l1 :: l2 :: l3 :: l4 :: l5 :: l6 :: l7 :: l8 :: L) (aL x :: st) μ k n :=
  mj_lstoreG C (i := 7) hdg hp  (by simp only [List.length_cons]; omega) hn9 (by intro j w hj h; obtain rfl : j = 6 := (by omega); exact jw_of hw (Option.some.inj h)) K

theorem mj_lstore_nG (C : jCtx l J cc nL own R rt md hh ret thr mc ms) {k9 : Fin 4} {i : Nat} {x : Int64} (hdg : decode cc pc = .ok (.lstore_n k9, 1)) (hp : pc + 1 = pc') (hk : (k9 : Nat) = i) (hi : i + 1 < L.length) (hn9 : i + 1 < nL) (hw : ∀ j w, j + 1 = i → L[j]? = some (some w) → jcat w ≠ 2) (K : J pc' ((L.set i (some (aL x))).set (i + 1) none) st μ k n) : J pc L (aL x :: st) μ k n := by
  obtain ⟨p, e, s, m, args, below, meth, c, D, cm, ad0, μ0, Q, rfl, hx, hb, hml, hrt, hown, hlk, hU, hE⟩ := C
  subst hp
  intro ad H locs ls hT hX hS hL hs hl
  exact lv_lstore_n hx hb hdg hk hl hn9 rfl (fun ls' hl' => K ad H locs ls' hT hX hS (jl_setn (jl_setc hL (jst_h hs))) (jst_t hs) (jl_set2 rfl hi hw hl'))

theorem mj_lstore_n_0 (C : jCtx l J cc nL own R rt md hh ret thr mc ms) {l0 l1 : Option jV} {x : Int64} (hdg : decode cc pc = .ok (.lstore_n 0, 1)) (hp : pc + 1 = pc') (hn9 : 1 < nL)  (K : J pc' (some (aL x) :: none :: L) st μ k n) : J pc (l0 :: l1 :: L) (aL x :: st) μ k n :=
  mj_lstore_nG C (i := 0) hdg hp rfl (by simp only [List.length_cons]; omega) hn9 (fun j w hj h => by omega) K

theorem mj_lstore_n_1 (C : jCtx l J cc nL own R rt md hh ret thr mc ms) {l0 l1 l2 : Option jV} {x : Int64} (hdg : decode cc pc = .ok (.lstore_n 1, 1)) (hp : pc + 1 = pc') (hn9 : 2 < nL) (hw : jw l0 = true) (K : J pc' (l0 :: some (aL x) :: none :: L) st μ k n) : J pc (l0 :: l1 :: l2 :: L) (aL x :: st) μ k n :=
  mj_lstore_nG C (i := 1) hdg hp rfl (by simp only [List.length_cons]; omega) hn9 (by intro j w hj h; obtain rfl : j = 0 := (by omega); exact jw_of hw (Option.some.inj h)) K

theorem mj_lstore_n_2 (C : jCtx l J cc nL own R rt md hh ret thr mc ms) {l0 l1 l2 l3 : Option jV} {x : Int64} (hdg : decode cc pc = .ok (.lstore_n 2, 1)) (hp : pc + 1 = pc') (hn9 : 3 < nL) (hw : jw l1 = true) (K : J pc' (l0 :: l1 :: some (aL x) :: none :: L) st μ k n) : J pc (l0 :: l1 :: l2 :: l3 :: L) (aL x :: st) μ k n :=
  mj_lstore_nG C (i := 2) hdg hp rfl (by simp only [List.length_cons]; omega) hn9 (by intro j w hj h; obtain rfl : j = 1 := (by omega); exact jw_of hw (Option.some.inj h)) K

theorem mj_lstore_n_3 (C : jCtx l J cc nL own R rt md hh ret thr mc ms) {l0 l1 l2 l3 l4 : Option jV} {x : Int64} (hdg : decode cc pc = .ok (.lstore_n 3, 1)) (hp : pc + 1 = pc') (hn9 : 4 < nL) (hw : jw l2 = true) (K : J pc' (l0 :: l1 :: l2 :: some (aL x) :: none :: L) st μ k n) : J pc (l0 :: l1 :: l2 :: l3 :: l4 :: L) (aL x :: st) μ k n :=
  mj_lstore_nG C (i := 3) hdg hp rfl (by simp only [List.length_cons]; omega) hn9 (by intro j w hj h; obtain rfl : j = 2 := (by omega); exact jw_of hw (Option.some.inj h)) K

theorem mj_astoreG (C : jCtx l J cc nL own R rt md hh ret thr mc ms) {i : Nat} {r : Option (Nat × Nat)} (hdg : decode cc pc = .ok (.astore i, 2)) (hp : pc + 2 = pc')  (hi : i < L.length) (hn9 : i < nL) (hw : ∀ j w, j + 1 = i → L[j]? = some (some w) → jcat w ≠ 2) (K : J pc' (L.set i (some (aO r))) st μ k n) : J pc L (aO r :: st) μ k n := by
  obtain ⟨p, e, s, m, args, below, meth, c, D, cm, ad0, μ0, Q, rfl, hx, hb, hml, hrt, hown, hlk, hU, hE⟩ := C
  subst hp
  intro ad H locs ls hT hX hS hL hs hl
  cases r with
  | none => exact lv_astoreN hx hb hdg hl hn9 rfl (fun ls' hl' => K ad H locs ls' hT hX hS (jl_setc hL (jst_h hs)) (jst_t hs) (jl_set rfl hi hw hl'))
  | some q => exact lv_astore hx hb hdg hl hn9 rfl (fun ls' hl' => K ad H locs ls' hT hX hS (jl_setc hL (jst_h hs)) (jst_t hs) (jl_set rfl hi hw hl'))

theorem mj_astore_0 (C : jCtx l J cc nL own R rt md hh ret thr mc ms) {l0 : Option jV} {r : Option (Nat × Nat)} (hdg : decode cc pc = .ok (.astore 0, 2)) (hp : pc + 2 = pc') (hn9 : 0 < nL)  (K : J pc' (some (aO r) :: L) st μ k n) : J pc (l0 :: L) (aO r :: st) μ k n :=
  mj_astoreG C (i := 0) hdg hp  (by simp only [List.length_cons]; omega) hn9 (fun j w hj h => by omega) K

theorem mj_astore_1 (C : jCtx l J cc nL own R rt md hh ret thr mc ms) {l0 l1 : Option jV} {r : Option (Nat × Nat)} (hdg : decode cc pc = .ok (.astore 1, 2)) (hp : pc + 2 = pc') (hn9 : 1 < nL) (hw : jw l0 = true) (K : J pc' (l0 :: some (aO r) :: L) st μ k n) : J pc (l0 :: l1 :: L) (aO r :: st) μ k n :=
  mj_astoreG C (i := 1) hdg hp  (by simp only [List.length_cons]; omega) hn9 (by intro j w hj h; obtain rfl : j = 0 := (by omega); exact jw_of hw (Option.some.inj h)) K

theorem mj_astore_2 (C : jCtx l J cc nL own R rt md hh ret thr mc ms) {l0 l1 l2 : Option jV} {r : Option (Nat × Nat)} (hdg : decode cc pc = .ok (.astore 2, 2)) (hp : pc + 2 = pc') (hn9 : 2 < nL) (hw : jw l1 = true) (K : J pc' (l0 :: l1 :: some (aO r) :: L) st μ k n) : J pc (l0 :: l1 :: l2 :: L) (aO r :: st) μ k n :=
  mj_astoreG C (i := 2) hdg hp  (by simp only [List.length_cons]; omega) hn9 (by intro j w hj h; obtain rfl : j = 1 := (by omega); exact jw_of hw (Option.some.inj h)) K

theorem mj_astore_3 (C : jCtx l J cc nL own R rt md hh ret thr mc ms) {l0 l1 l2 l3 : Option jV} {r : Option (Nat × Nat)} (hdg : decode cc pc = .ok (.astore 3, 2)) (hp : pc + 2 = pc') (hn9 : 3 < nL) (hw : jw l2 = true) (K : J pc' (l0 :: l1 :: l2 :: some (aO r) :: L) st μ k n) : J pc (l0 :: l1 :: l2 :: l3 :: L) (aO r :: st) μ k n :=
  mj_astoreG C (i := 3) hdg hp  (by simp only [List.length_cons]; omega) hn9 (by intro j w hj h; obtain rfl : j = 2 := (by omega); exact jw_of hw (Option.some.inj h)) K

theorem mj_astore_4 (C : jCtx l J cc nL own R rt md hh ret thr mc ms) {l0 l1 l2 l3 l4 : Option jV} {r : Option (Nat × Nat)} (hdg : decode cc pc = .ok (.astore 4, 2)) (hp : pc + 2 = pc') (hn9 : 4 < nL) (hw : jw l3 = true) (K : J pc' (l0 :: l1 :: l2 :: l3 :: some (aO r) :: L) st μ k n) : J pc (l0 :: l1 :: l2 :: l3 :: l4 :: L) (aO r :: st) μ k n :=
  mj_astoreG C (i := 4) hdg hp  (by simp only [List.length_cons]; omega) hn9 (by intro j w hj h; obtain rfl : j = 3 := (by omega); exact jw_of hw (Option.some.inj h)) K

theorem mj_astore_5 (C : jCtx l J cc nL own R rt md hh ret thr mc ms) {l0 l1 l2 l3 l4 l5 : Option jV} {r : Option (Nat × Nat)} (hdg : decode cc pc = .ok (.astore 5, 2)) (hp : pc + 2 = pc') (hn9 : 5 < nL) (hw : jw l4 = true) (K : J pc' (l0 :: l1 :: l2 :: l3 :: l4 :: some (aO r) :: L) st μ k n) : J pc (l0 :: l1 :: l2 :: l3 :: l4 :: l5 :: L) (aO r :: st) μ k n :=
  mj_astoreG C (i := 5) hdg hp  (by simp only [List.length_cons]; omega) hn9 (by intro j w hj h; obtain rfl : j = 4 := (by omega); exact jw_of hw (Option.some.inj h)) K

theorem mj_astore_6 (C : jCtx l J cc nL own R rt md hh ret thr mc ms) {l0 l1 l2 l3 l4 l5 l6 : Option jV} {r : Option (Nat × Nat)} (hdg : decode cc pc = .ok (.astore 6, 2)) (hp : pc + 2 = pc') (hn9 : 6 < nL) (hw : jw l5 = true) (K : J pc' (l0 :: l1 :: l2 :: l3 :: l4 :: l5 :: some (aO r) :: L) st μ k n) : J pc (l0 :: l1 :: l2 :: l3 :: l4 :: l5 :: l6 :: L) (aO r :: st) μ k n :=
  mj_astoreG C (i := 6) hdg hp  (by simp only [List.length_cons]; omega) hn9 (by intro j w hj h; obtain rfl : j = 5 := (by omega); exact jw_of hw (Option.some.inj h)) K

theorem mj_astore_7 (C : jCtx l J cc nL own R rt md hh ret thr mc ms) {l0 l1 l2 l3 l4 l5 l6 l7 : Option jV} {r : Option (Nat × Nat)} (hdg : decode cc pc = .ok (.astore 7, 2)) (hp : pc + 2 = pc') (hn9 : 7 < nL) (hw : jw l6 = true) (K : J pc' (l0 :: l1 :: l2 :: l3 :: l4 :: l5 :: l6 :: some (aO r) :: L) st μ k n) : J pc (l0 :: l1 :: l2 :: l3 :: l4 :: l5 :: l6 :: l7 :: L) (aO r :: st) μ k n :=
  mj_astoreG C (i := 7) hdg hp  (by simp only [List.length_cons]; omega) hn9 (by intro j w hj h; obtain rfl : j = 6 := (by omega); exact jw_of hw (Option.some.inj h)) K

theorem mj_astore_8 (C : jCtx l J cc nL own R rt md hh ret thr mc ms) {l0 l1 l2 l3 l4 l5 l6 l7 l8 : Option jV} {r : Option (Nat × Nat)} (hdg : decode cc pc = .ok (.astore 8, 2)) (hp : pc + 2 = pc') (hn9 : 8 < nL) (hw : jw l7 = true) (K : J pc' (l0 :: l1 :: l2 :: l3 :: l4 :: l5 :: l6 :: l7 :: some (aO r) :: L) st μ k n) : J pc (l0 :: l1 :: l2 :: l3 :: l4 :: l5 :: l6 :: l7 :: l8 :: L) (aO r :: st) μ k n :=
  mj_astoreG C (i := 8) hdg hp  (by simp only [List.length_cons]; omega) hn9 (by intro j w hj h; obtain rfl : j = 7 := (by omega); exact jw_of hw (Option.some.inj h)) K

theorem mj_astore_9 (C : jCtx l J cc nL own R rt md hh ret thr mc ms) {l0 l1 l2 l3 l4 l5 l6 l7 l8 l9 : Option jV} {r : Option (Nat × Nat)} (hdg : decode cc pc = .ok (.astore 9, 2)) (hp : pc + 2 = pc') (hn9 : 9 < nL) (hw : jw l8 = true) (K : J pc' (l0 :: l1 :: l2 :: l3 :: l4 :: l5 :: l6 :: l7 :: l8 :: some (aO r) :: L) st μ k n) : J pc (l0 :: l1 :: l2 :: l3 :: l4 :: l5 :: l6 :: l7 :: l8 :: l9 :: L) (aO r :: st) μ k n :=
  mj_astoreG C (i := 9) hdg hp  (by simp only [List.length_cons]; omega) hn9 (by intro j w hj h; obtain rfl : j = 8 := (by omega); exact jw_of hw (Option.some.inj h)) K

theorem mj_astore_10 (C : jCtx l J cc nL own R rt md hh ret thr mc ms) {l0 l1 l2 l3 l4 l5 l6 l7 l8 l9 l10 : Option jV} {r : Option (Nat × Nat)} (hdg : decode cc pc = .ok (.astore 10, 2)) (hp : pc + 2 = pc') (hn9 : 10 < nL) (hw : jw l9 = true) (K : J pc' (l0 :: l1 :: l2 :: l3 :: l4 :: l5 :: l6 :: l7 :: l8 :: l9 :: some (aO r) :: L) st μ k n) : J pc (l0 :: l1 :: l2 :: l3 :: l4 :: l5 :: l6 :: l7 :: l8 :: l9 :: l10 :: L) (aO r :: st) μ k n :=
  mj_astoreG C (i := 10) hdg hp  (by simp only [List.length_cons]; omega) hn9 (by intro j w hj h; obtain rfl : j = 9 := (by omega); exact jw_of hw (Option.some.inj h)) K

theorem mj_astore_11 (C : jCtx l J cc nL own R rt md hh ret thr mc ms) {l0 l1 l2 l3 l4 l5 l6 l7 l8 l9 l10 l11 : Option jV} {r : Option (Nat × Nat)} (hdg : decode cc pc = .ok (.astore 11, 2)) (hp : pc + 2 = pc') (hn9 : 11 < nL) (hw : jw l10 = true) (K : J pc' (l0 :: l1 :: l2 :: l3 :: l4 :: l5 :: l6 :: l7 :: l8 :: l9 :: l10 :: some (aO r) :: L) st μ k n) : J pc (l0 :: l1 :: l2 :: l3 :: l4 :: l5 :: l6 :: l7 :: l8 :: l9 :: l10 :: l11 :: L) (aO r :: st) μ k n :=
  mj_astoreG C (i := 11) hdg hp  (by simp only [List.length_cons]; omega) hn9 (by intro j w hj h; obtain rfl : j = 10 := (by omega); exact jw_of hw (Option.some.inj h)) K

theorem mj_astore_12 (C : jCtx l J cc nL own R rt md hh ret thr mc ms) {l0 l1 l2 l3 l4 l5 l6 l7 l8 l9 l10 l11 l12 : Option jV} {r : Option (Nat × Nat)} (hdg : decode cc pc = .ok (.astore 12, 2)) (hp : pc + 2 = pc') (hn9 : 12 < nL) (hw : jw l11 = true) (K : J pc' (l0 :: l1 :: l2 :: l3 :: l4 :: l5 :: l6 :: l7 :: l8 :: l9 :: l10 :: l11 :: some (aO r) :: L) st μ k n) : J pc (l0 :: l1 :: l2 :: l3 :: l4 :: l5 :: l6 :: l7 :: l8 :: l9 :: l10 :: l11 :: l12 :: L) (aO r :: st) μ k n :=
  mj_astoreG C (i := 12) hdg hp  (by simp only [List.length_cons]; omega) hn9 (by intro j w hj h; obtain rfl : j = 11 := (by omega); exact jw_of hw (Option.some.inj h)) K

theorem mj_astore_13 (C : jCtx l J cc nL own R rt md hh ret thr mc ms) {l0 l1 l2 l3 l4 l5 l6 l7 l8 l9 l10 l11 l12 l13 : Option jV} {r : Option (Nat × Nat)} (hdg : decode cc pc = .ok (.astore 13, 2)) (hp : pc + 2 = pc') (hn9 : 13 < nL) (hw : jw l12 = true) (K : J pc' (l0 :: l1 :: l2 :: l3 :: l4 :: l5 :: l6 :: l7 :: l8 :: l9 :: l10 :: l11 :: l12 :: some (aO r) :: L) st μ k n) : J pc (l0 :: l1 :: l2 :: l3 :: l4 :: l5 :: l6 :: l7 :: l8 :: l9 :: l10 :: l11 :: l12 :: l13 :: L) (aO r :: st) μ k n :=
  mj_astoreG C (i := 13) hdg hp  (by simp only [List.length_cons]; omega) hn9 (by intro j w hj h; obtain rfl : j = 12 := (by omega); exact jw_of hw (Option.some.inj h)) K

theorem mj_astore_14 (C : jCtx l J cc nL own R rt md hh ret thr mc ms) {l0 l1 l2 l3 l4 l5 l6 l7 l8 l9 l10 l11 l12 l13 l14 : Option jV} {r : Option (Nat × Nat)} (hdg : decode cc pc = .ok (.astore 14, 2)) (hp : pc + 2 = pc') (hn9 : 14 < nL) (hw : jw l13 = true) (K : J pc' (l0 :: l1 :: l2 :: l3 :: l4 :: l5 :: l6 :: l7 :: l8 :: l9 :: l10 :: l11 :: l12 :: l13 :: some (aO r) :: L) st μ k n) : J pc (l0 :: l1 :: l2 :: l3 :: l4 :: l5 :: l6 :: l7 :: l8 :: l9 :: l10 :: l11 :: l12 :: l13 :: l14 :: L) (aO r :: st) μ k n :=
  mj_astoreG C (i := 14) hdg hp  (by simp only [List.length_cons]; omega) hn9 (by intro j w hj h; obtain rfl : j = 13 := (by omega); exact jw_of hw (Option.some.inj h)) K

theorem mj_astore_15 (C : jCtx l J cc nL own R rt md hh ret thr mc ms) {l0 l1 l2 l3 l4 l5 l6 l7 l8 l9 l10 l11 l12 l13 l14 l15 : Option jV} {r : Option (Nat × Nat)} (hdg : decode cc pc = .ok (.astore 15, 2)) (hp : pc + 2 = pc') (hn9 : 15 < nL) (hw : jw l14 = true) (K : J pc' (l0 :: l1 :: l2 :: l3 :: l4 :: l5 :: l6 :: l7 :: l8 :: l9 :: l10 :: l11 :: l12 :: l13 :: l14 :: some (aO r) :: L) st μ k n) : J pc (l0 :: l1 :: l2 :: l3 :: l4 :: l5 :: l6 :: l7 :: l8 :: l9 :: l10 :: l11 :: l12 :: l13 :: l14 :: l15 :: L) (aO r :: st) μ k n :=
  mj_astoreG C (i := 15) hdg hp  (by simp only [List.length_cons]; omega) hn9 (by intro j w hj h; obtain rfl : j = 14 := (by omega); exact jw_of hw (Option.some.inj h)) K

theorem mj_astore_16 (C : jCtx l J cc nL own R rt md hh ret thr mc ms) {l0 l1 l2 l3 l4 l5 l6 l7 l8 l9 l10 l11 l12 l13 l14 l15 l16 : Option jV} {r : Option (Nat × Nat)} (hdg : decode cc pc = .ok (.astore 16, 2)) (hp : pc + 2 = pc') (hn9 : 16 < nL) (hw : jw l15 = true) (K : J pc' (l0 :: l1 :: l2 :: l3 :: l4 :: l5 :: l6 :: l7 :: l8 :: l9 :: l10 :: l11 :: l12 :: l13 :: l14 :: l15 :: some (aO r) :: L) st μ k n) : J pc (l0 :: l1 :: l2 :: l3 :: l4 :: l5 :: l6 :: l7 :: l8 :: l9 :: l10 :: l11 :: l12 :: l13 :: l14 :: l15 :: l16 :: L) (aO r :: st) μ k n :=
  mj_astoreG C (i := 16) hdg hp  (by simp only [List.length_cons]; omega) hn9 (by intro j w hj h; obtain rfl : j = 15 := (by omega); exact jw_of hw (Option.some.inj h)) K

theorem mj_astore_17 (C : jCtx l J cc nL own R rt md hh ret thr mc ms) {l0 l1 l2 l3 l4 l5 l6 l7 l8 l9 l10 l11 l12 l13 l14 l15 l16 l17 : Option jV} {r : Option (Nat × Nat)} (hdg : decode cc pc = .ok (.astore 17, 2)) (hp : pc + 2 = pc') (hn9 : 17 < nL) (hw : jw l16 = true) (K : J pc' (l0 :: l1 :: l2 :: l3 :: l4 :: l5 :: l6 :: l7 :: l8 :: l9 :: l10 :: l11 :: l12 :: l13 :: l14 :: l15 :: l16 :: some (aO r) :: L) st μ k n) : J pc (l0 :: l1 :: l2 :: l3 :: l4 :: l5 :: l6 :: l7 :: l8 :: l9 :: l10 :: l11 :: l12 :: l13 :: l14 :: l15 :: l16 :: l17 :: L) (aO r :: st) μ k n :=
  mj_astoreG C (i := 17) hdg hp  (by simp only [List.length_cons]; omega) hn9 (by intro j w hj h; obtain rfl : j = 16 := (by omega); exact jw_of hw (Option.some.inj h)) K

theorem mj_astore_18 (C : jCtx l J cc nL own R rt md hh ret thr mc ms) {l0 l1 l2 l3 l4 l5 l6 l7 l8 l9 l10 l11 l12 l13 l14 l15 l16 l17 l18 : Option jV} {r : Option (Nat × Nat)} (hdg : decode cc pc = .ok (.astore 18, 2)) (hp : pc + 2 = pc') (hn9 : 18 < nL) (hw : jw l17 = true) (K : J pc' (l0 :: l1 :: l2 :: l3 :: l4 :: l5 :: l6 :: l7 :: l8 :: l9 :: l10 :: l11 :: l12 :: l13 :: l14 :: l15 :: l16 :: l17 :: some (aO r) :: L) st μ k n) : J pc (l0 :: l1 :: l2 :: l3 :: l4 :: l5 :: l6 :: l7 :: l8 :: l9 :: l10 :: l11 :: l12 :: l13 :: l14 :: l15 :: l16 :: l17 :: l18 :: L) (aO r :: st) μ k n :=
  mj_astoreG C (i := 18) hdg hp  (by simp only [List.length_cons]; omega) hn9 (by intro j w hj h; obtain rfl : j = 17 := (by omega); exact jw_of hw (Option.some.inj h)) K

theorem mj_astore_19 (C : jCtx l J cc nL own R rt md hh ret thr mc ms) {l0 l1 l2 l3 l4 l5 l6 l7 l8 l9 l10 l11 l12 l13 l14 l15 l16 l17 l18 l19 : Option jV} {r : Option (Nat × Nat)} (hdg : decode cc pc = .ok (.astore 19, 2)) (hp : pc + 2 = pc') (hn9 : 19 < nL) (hw : jw l18 = true) (K : J pc' (l0 :: l1 :: l2 :: l3 :: l4 :: l5 :: l6 :: l7 :: l8 :: l9 :: l10 :: l11 :: l12 :: l13 :: l14 :: l15 :: l16 :: l17 :: l18 :: some (aO r) :: L) st μ k n) : J pc (l0 :: l1 :: l2 :: l3 :: l4 :: l5 :: l6 :: l7 :: l8 :: l9 :: l10 :: l11 :: l12 :: l13 :: l14 :: l15 :: l16 :: l17 :: l18 :: l19 :: L) (aO r :: st) μ k n :=
  mj_astoreG C (i := 19) hdg hp  (by simp only [List.length_cons]; omega) hn9 (by intro j w hj h; obtain rfl : j = 18 := (by omega); exact jw_of hw (Option.some.inj h)) K

theorem mj_astore_20 (C : jCtx l J cc nL own R rt md hh ret thr mc ms) {l0 l1 l2 l3 l4 l5 l6 l7 l8 l9 l10 l11 l12 l13 l14 l15 l16 l17 l18 l19 l20 : Option jV} {r : Option (Nat × Nat)} (hdg : decode cc pc = .ok (.astore 20, 2)) (hp : pc + 2 = pc') (hn9 : 20 < nL) (hw : jw l19 = true) (K : J pc' (l0 :: l1 :: l2 :: l3 :: l4 :: l5 :: l6 :: l7 :: l8 :: l9 :: l10 :: l11 :: l12 :: l13 :: l14 :: l15 :: l16 :: l17 :: l18 :: l19 :: some (aO r) :: L) st μ k n) : J pc (l0 :: l1 :: l2 :: l3 :: l4 :: l5 :: l6 :: l7 :: l8 :: l9 :: l10 :: l11 :: l12 :: l13 :: l14 :: l15 :: l16 :: l17 :: l18 :: l19 :: l20 :: L) (aO r :: st) μ k n :=
  mj_astoreG C (i := 20) hdg hp  (by simp only [List.length_cons]; omega) hn9 (by intro j w hj h; obtain rfl : j = 19 := (by omega); exact jw_of hw (Option.some.inj h)) K

theorem mj_astore_21 (C : jCtx l J cc nL own R rt md hh ret thr mc ms) {l0 l1 l2 l3 l4 l5 l6 l7 l8 l9 l10 l11 l12 l13 l14 l15 l16 l17 l18 l19 l20 l21 : Option jV} {r : Option (Nat × Nat)} (hdg : decode cc pc = .ok (.astore 21, 2)) (hp : pc + 2 = pc') (hn9 : 21 < nL) (hw : jw l20 = true) (K : J pc' (l0 :: l1 :: l2 :: l3 :: l4 :: l5 :: l6 :: l7 :: l8 :: l9 :: l10 :: l11 :: l12 :: l13 :: l14 :: l15 :: l16 :: l17 :: l18 :: l19 :: l20 :: some (aO r) :: L) st μ k n) : J pc (l0 :: l1 :: l2 :: l3 :: l4 :: l5 :: l6 :: l7 :: l8 :: l9 :: l10 :: l11 :: l12 :: l13 :: l14 :: l15 :: l16 :: l17 :: l18 :: l19 :: l20 :: l21 :: L) (aO r :: st) μ k n :=
  mj_astoreG C (i := 21) hdg hp  (by simp only [List.length_cons]; omega) hn9 (by intro j w hj h; obtain rfl : j = 20 := (by omega); exact jw_of hw (Option.some.inj h)) K

theorem mj_astore_22 (C : jCtx l J cc nL own R rt md hh ret thr mc ms) {l0 l1 l2 l3 l4 l5 l6 l7 l8 l9 l10 l11 l12 l13 l14 l15 l16 l17 l18 l19 l20 l21 l22 : Option jV} {r : Option (Nat × Nat)} (hdg : decode cc pc = .ok (.astore 22, 2)) (hp : pc + 2 = pc') (hn9 : 22 < nL) (hw : jw l21 = true) (K : J pc' (l0 :: l1 :: l2 :: l3 :: l4 :: l5 :: l6 :: l7 :: l8 :: l9 :: l10 :: l11 :: l12 :: l13 :: l14 :: l15 :: l16 :: l17 :: l18 :: l19 :: l20 :: l21 :: some (aO r) :: L) st μ k n) : J pc (l0 :: l1 :: l2 :: l3 :: l4 :: l5 :: l6 :: l7 :: l8 :: l9 :: l10 :: l11 :: l12 :: l13 :: l14 :: l15 :: l16 :: l17 :: l18 :: l19 :: l20 :: l21 :: l22 :: L) (aO r :: st) μ k n :=
  mj_astoreG C (i := 22) hdg hp  (by simp only [List.length_cons]; omega) hn9 (by intro j w hj h; obtain rfl : j = 21 := (by omega); exact jw_of hw (Option.some.inj h)) K

theorem mj_astore_23 (C : jCtx l J cc nL own R rt md hh ret thr mc ms) {l0 l1 l2 l3 l4 l5 l6 l7 l8 l9 l10 l11 l12 l13 l14 l15 l16 l17 l18 l19 l20 l21 l22 l23 : Option jV} {r : Option (Nat × Nat)} (hdg : decode cc pc = .ok (.astore 23, 2)) (hp : pc + 2 = pc') (hn9 : 23 < nL) (hw : jw l22 = true) (K : J pc' (l0 :: l1 :: l2 :: l3 :: l4 :: l5 :: l6 :: l7 :: l8 :: l9 :: l10 :: l11 :: l12 :: l13 :: l14 :: l15 :: l16 :: l17 :: l18 :: l19 :: l20 :: l21 :: l22 :: some (aO r) :: L) st μ k n) : J pc (l0 :: l1 :: l2 :: l3 :: l4 :: l5 :: l6 :: l7 :: l8 :: l9 :: l10 :: l11 :: l12 :: l13 :: l14 :: l15 :: l16 :: l17 :: l18 :: l19 :: l20 :: l21 :: l22 :: l23 :: L) (aO r :: st) μ k n :=
  mj_astoreG C (i := 23) hdg hp  (by simp only [List.length_cons]; omega) hn9 (by intro j w hj h; obtain rfl : j = 22 := (by omega); exact jw_of hw (Option.some.inj h)) K

theorem mj_astore_24 (C : jCtx l J cc nL own R rt md hh ret thr mc ms) {l0 l1 l2 l3 l4 l5 l6 l7 l8 l9 l10 l11 l12 l13 l14 l15 l16 l17 l18 l19 l20 l21 l22 l23 l24 : Option jV} {r : Option (Nat × Nat)} (hdg : decode cc pc = .ok (.astore 24, 2)) (hp : pc + 2 = pc') (hn9 : 24 < nL) (hw : jw l23 = true) (K : J pc' (l0 :: l1 :: l2 :: l3 :: l4 :: l5 :: l6 :: l7 :: l8 :: l9 :: l10 :: l11 :: l12 :: l13 :: l14 :: l15 :: l16 :: l17 :: l18 :: l19 :: l20 :: l21 :: l22 :: l23 :: some (aO r) :: L) st μ k n) : J pc (l0 :: l1 :: l2 :: l3 :: l4 :: l5 :: l6 :: l7 :: l8 :: l9 :: l10 :: l11 :: l12 :: l13 :: l14 :: l15 :: l16 :: l17 :: l18 :: l19 :: l20 :: l21 :: l22 :: l23 :: l24 :: L) (aO r :: st) μ k n :=
  mj_astoreG C (i := 24) hdg hp  (by simp only [List.length_cons]; omega) hn9 (by intro j w hj h; obtain rfl : j = 23 := (by omega); exact jw_of hw (Option.some.inj h)) K

theorem mj_astore_25 (C : jCtx l J cc nL own R rt md hh ret thr mc ms) {l0 l1 l2 l3 l4 l5 l6 l7 l8 l9 l10 l11 l12 l13 l14 l15 l16 l17 l18 l19 l20 l21 l22 l23 l24 l25 : Option jV} {r : Option (Nat × Nat)} (hdg : decode cc pc = .ok (.astore 25, 2)) (hp : pc + 2 = pc') (hn9 : 25 < nL) (hw : jw l24 = true) (K : J pc' (l0 :: l1 :: l2 :: l3 :: l4 :: l5 :: l6 :: l7 :: l8 :: l9 :: l10 :: l11 :: l12 :: l13 :: l14 :: l15 :: l16 :: l17 :: l18 :: l19 :: l20 :: l21 :: l22 :: l23 :: l24 :: some (aO r) :: L) st μ k n) : J pc (l0 :: l1 :: l2 :: l3 :: l4 :: l5 :: l6 :: l7 :: l8 :: l9 :: l10 :: l11 :: l12 :: l13 :: l14 :: l15 :: l16 :: l17 :: l18 :: l19 :: l20 :: l21 :: l22 :: l23 :: l24 :: l25 :: L) (aO r :: st) μ k n :=
  mj_astoreG C (i := 25) hdg hp  (by simp only [List.length_cons]; omega) hn9 (by intro j w hj h; obtain rfl : j = 24 := (by omega); exact jw_of hw (Option.some.inj h)) K

theorem mj_astore_26 (C : jCtx l J cc nL own R rt md hh ret thr mc ms) {l0 l1 l2 l3 l4 l5 l6 l7 l8 l9 l10 l11 l12 l13 l14 l15 l16 l17 l18 l19 l20 l21 l22 l23 l24 l25 l26 : Option jV} {r : Option (Nat × Nat)} (hdg : decode cc pc = .ok (.astore 26, 2)) (hp : pc + 2 = pc') (hn9 : 26 < nL) (hw : jw l25 = true) (K : J pc' (l0 :: l1 :: l2 :: l3 :: l4 :: l5 :: l6 :: l7 :: l8 :: l9 :: l10 :: l11 :: l12 :: l13 :: l14 :: l15 :: l16 :: l17 :: l18 :: l19 :: l20 :: l21 :: l22 :: l23 :: l24 :: l25 :: some (aO r) :: L) st μ k n) : J pc (l0 :: l1 :: l2 :: l3 :: l4 :: l5 :: l6 :: l7 :: l8 :: l9 :: l10 :: l11 :: l12 :: l13 :: l14 :: l15 :: l16 :: l17 :: l18 :: l19 :: l20 :: l21 :: l22 :: l23 :: l24 :: l25 :: l26 :: L) (aO r :: st) μ k n :=
  mj_astoreG C (i := 26) hdg hp  (by simp only [List.length_cons]; omega) hn9 (by intro j w hj h; obtain rfl : j = 25 := (by omega); exact jw_of hw (Option.some.inj h)) K

theorem mj_astore_27 (C : jCtx l J cc nL own R rt md hh ret thr mc ms) {l0 l1 l2 l3 l4 l5 l6 l7 l8 l9 l10 l11 l12 l13 l14 l15 l16 l17 l18 l19 l20 l21 l22 l23 l24 l25 l26 l27 : Option jV} {r : Option (Nat × Nat)} (hdg : decode cc pc = .ok (.astore 27, 2)) (hp : pc + 2 = pc') (hn9 : 27 < nL) (hw : jw l26 = true) (K : J pc' (l0 :: l1 :: l2 :: l3 :: l4 :: l5 :: l6 :: l7 :: l8 :: l9 :: l10 :: l11 :: l12 :: l13 :: l14 :: l15 :: l16 :: l17 :: l18 :: l19 :: l20 :: l21 :: l22 :: l23 :: l24 :: l25 :: l26 :: some (aO r) :: L) st μ k n) : J pc (l0 :: l1 :: l2 :: l3 :: l4 :: l5 :: l6 :: l7 :: l8 :: l9 :: l10 :: l11 :: l12 :: l13 :: l14 :: l15 :: l16 :: l17 :: l18 :: l19 :: l20 :: l21 :: l22 :: l23 :: l24 :: l25 :: l26 :: l27 :: L) (aO r :: st) μ k n :=
  mj_astoreG C (i := 27) hdg hp  (by simp only [List.length_cons]; omega) hn9 (by intro j w hj h; obtain rfl : j = 26 := (by omega); exact jw_of hw (Option.some.inj h)) K

theorem mj_astore_28 (C : jCtx l J cc nL own R rt md hh ret thr mc ms) {l0 l1 l2 l3 l4 l5 l6 l7 l8 l9 l10 l11 l12 l13 l14 l15 l16 l17 l18 l19 l20 l21 l22 l23 l24 l25 l26 l27 l28 : Option jV} {r : Option (Nat × Nat)} (hdg : decode cc pc = .ok (.astore 28, 2)) (hp : pc + 2 = pc') (hn9 : 28 < nL) (hw : jw l27 = true) (K : J pc' (l0 :: l1 :: l2 :: l3 :: l4 :: l5 :: l6 :: l7 :: l8 :: l9 :: l10 :: l11 :: l12 :: l13 :: l14 :: l15 :: l16 :: l17 :: l18 :: l19 :: l20 :: l21 :: l22 :: l23 :: l24 :: l25 :: l26 :: l27 :: some (aO r) :: L) st μ k n) : J pc (l0 :: l1 :: l2 :: l3 :: l4 :: l5 :: l6 :: l7 :: l8 :: l9 :: l10 :: l11 :: l12 :: l13 :: l14 :: l15 :: l16 :: l17 :: l18 :: l19 :: l20 :: l21 :: l22 :: l23 :: l24 :: l25 :: l26 :: l27 :: l28 :: L) (aO r :: st) μ k n :=
  mj_astoreG C (i := 28) hdg hp  (by simp only [List.length_cons]; omega) hn9 (by intro j w hj h; obtain rfl : j = 27 := (by omega); exact jw_of hw (Option.some.inj h)) K

theorem mj_astore_29 (C : jCtx l J cc nL own R rt md hh ret thr mc ms) {l0 l1 l2 l3 l4 l5 l6 l7 l8 l9 l10 l11 l12 l13 l14 l15 l16 l17 l18 l19 l20 l21 l22 l23 l24 l25 l26 l27 l28 l29 : Option jV} {r : Option (Nat × Nat)} (hdg : decode cc pc = .ok (.astore 29, 2)) (hp : pc + 2 = pc') (hn9 : 29 < nL) (hw : jw l28 = true) (K : J pc' (l0 :: l1 :: l2 :: l3 :: l4 :: l5 :: l6 :: l7 :: l8 :: l9 :: l10 :: l11 :: l12 :: l13 :: l14 :: l15 :: l16 :: l17 :: l18 :: l19 :: l20 :: l21 :: l22 :: l23 :: l24 :: l25 :: l26 :: l27 :: l28 :: some (aO r) :: L) st μ k n) : J pc (l0 :: l1 :: l2 :: l3 :: l4 :: l5 :: l6 :: l7 :: l8 :: l9 :: l10 :: l11 :: l12 :: l13 :: l14 :: l15 :: l16 :: l17 :: l18 :: l19 :: l20 :: l21 :: l22 :: l23 :: l24 :: l25 :: l26 :: l27 :: l28 :: l29 :: L) (aO r :: st) μ k n :=
  mj_astoreG C (i := 29) hdg hp  (by simp only [List.length_cons]; omega) hn9 (by intro j w hj h; obtain rfl : j = 28 := (by omega); exact jw_of hw (Option.some.inj h)) K

theorem mj_astore_30 (C : jCtx l J cc nL own R rt md hh ret thr mc ms) {l0 l1 l2 l3 l4 l5 l6 l7 l8 l9 l10 l11 l12 l13 l14 l15 l16 l17 l18 l19 l20 l21 l22 l23 l24 l25 l26 l27 l28 l29 l30 : Option jV} {r : Option (Nat × Nat)} (hdg : decode cc pc = .ok (.astore 30, 2)) (hp : pc + 2 = pc') (hn9 : 30 < nL) (hw : jw l29 = true) (K : J pc' (l0 :: l1 :: l2 :: l3 :: l4 :: l5 :: l6 :: l7 :: l8 :: l9 :: l10 :: l11 :: l12 :: l13 :: l14 :: l15 :: l16 :: l17 :: l18 :: l19 :: l20 :: l21 :: l22 :: l23 :: l24 :: l25 :: l26 :: l27 :: l28 :: l29 :: some (aO r) :: L) st μ k n) : J pc (l0 :: l1 :: l2 :: l3 :: l4 :: l5 :: l6 :: l7 :: l8 :: l9 :: l10 :: l11 :: l12 :: l13 :: l14 :: l15 :: l16 :: l17 :: l18 :: l19 :: l20 :: l21 :: l22 :: l23 :: l24 :: l25 :: l26 :: l27 :: l28 :: l29 :: l30 :: L) (aO r :: st) μ k n :=
  mj_astoreG C (i := 30) hdg hp  (by simp only [List.length_cons]; omega) hn9 (by intro j w hj h; obtain rfl : j = 29 := (by omega); exact jw_of hw (Option.some.inj h)) K

theorem mj_astore_31 (C : jCtx l J cc nL own R rt md hh ret thr mc ms) {l0 l1 l2 l3 l4 l5 l6 l7 l8 l9 l10 l11 l12 l13 l14 l15 l16 l17 l18 l19 l20 l21 l22 l23 l24 l25 l26 l27 l28 l29 l30 l31 : Option jV} {r : Option (Nat × Nat)} (hdg : decode cc pc = .ok (.astore 31, 2)) (hp : pc + 2 = pc') (hn9 : 31 < nL) (hw : jw l30 = true) (K : J pc' (l0 :: l1 :: l2 :: l3 :: l4 :: l5 :: l6 :: l7 :: l8 :: l9 :: l10 :: l11 :: l12 :: l13 :: l14 :: l15 :: l16 :: l17 :: l18 :: l19 :: l20 :: l21 :: l22 :: l23 :: l24 :: l25 :: l26 :: l27 :: l28 :: l29 :: l30 :: some (aO r) :: L) st μ k n) : J pc (l0 :: l1 :: l2 :: l3 :: l4 :: l5 :: l6 :: l7 :: l8 :: l9 :: l10 :: l11 :: l12 :: l13 :: l14 :: l15 :: l16 :: l17 :: l18 :: l19 :: l20 :: l21 :: l22 :: l23 :: l24 :: l25 :: l26 :: l27 :: l28 :: l29 :: l30 :: l31 :: L) (aO r :: st) μ k n :=
  mj_astoreG C (i := 31) hdg hp  (by simp only [List.length_cons]; omega) hn9 (by intro j w hj h; obtain rfl : j = 30 := (by omega); exact jw_of hw (Option.some.inj h)) K

theorem mj_astore_32 (C : jCtx l J cc nL own R rt md hh ret thr mc ms) {l0 l1 l2 l3 l4 l5 l6 l7 l8 l9 l10 l11 l12 l13 l14 l15 l16 l17 l18 l19 l20 l21 l22 l23 l24 l25 l26 l27 l28 l29 l30 l31 l32 : Option jV} {r : Option (Nat × Nat)} (hdg : decode cc pc = .ok (.astore 32, 2)) (hp : pc + 2 = pc') (hn9 : 32 < nL) (hw : jw l31 = true) (K : J pc' (l0 :: l1 :: l2 :: l3 :: l4 :: l5 :: l6 :: l7 :: l8 :: l9 :: l10 :: l11 :: l12 :: l13 :: l14 :: l15 :: l16 :: l17 :: l18 :: l19 :: l20 :: l21 :: l22 :: l23 :: l24 :: l25 :: l26 :: l27 :: l28 :: l29 :: l30 :: l31 :: some (aO r) :: L) st μ k n) : J pc (l0 :: l1 :: l2 :: l3 :: l4 :: l5 :: l6 :: l7 :: l8 :: l9 :: l10 :: l11 :: l12 :: l13 :: l14 :: l15 :: l16 :: l17 :: l18 :: l19 :: l20 :: l21 :: l22 :: l23 :: l24 :: l25 :: l26 :: l27 :: l28 :: l29 :: l30 :: l31 :: l32 :: L) (aO r :: st) μ k n :=
  mj_astoreG C (i := 32) hdg hp  (by simp only [List.length_cons]; omega) hn9 (by intro j w hj h; obtain rfl : j = 31 := (by omega); exact jw_of hw (Option.some.inj h)) K

theorem mj_astore_33 (C : jCtx l J cc nL own R rt md hh ret thr mc ms) {l0 l1 l2 l3 l4 l5 l6 l7 l8 l9 l10 l11 l12 l13 l14 l15 l16 l17 l18 l19 l20 l21 l22 l23 l24 l25 l26 l27 l28 l29 l30 l31 l32 l33 : Option jV} {r : Option (Nat × Nat)} (hdg : decode cc pc = .ok (.astore 33, 2)) (hp : pc + 2 = pc') (hn9 : 33 < nL) (hw : jw l32 = true) (K : J pc' (l0 :: l1 :: l2 :: l3 :: l4 :: l5 :: l6 :: l7 :: l8 :: l9 :: l10 :: l11 :: l12 :: l13 :: l14 :: l15 :: l16 :: l17 :: l18 :: l19 :: l20 :: l21 :: l22 :: l23 :: l24 :: l25 :: l26 :: l27 :: l28 :: l29 :: l30 :: l31 :: l32 :: some (aO r) :: L) st μ k n) : J pc (l0 :: l1 :: l2 :: l3 :: l4 :: l5 :: l6 :: l7 :: l8 :: l9 :: l10 :: l11 :: l12 :: l13 :: l14 :: l15 :: l16 :: l17 :: l18 :: l19 :: l20 :: l21 :: l22 :: l23 :: l24 :: l25 :: l26 :: l27 :: l28 :: l29 :: l30 :: l31 :: l32 :: l33 :: L) (aO r :: st) μ k n :=
  mj_astoreG C (i := 33) hdg hp  (by simp only [List.length_cons]; omega) hn9 (by intro j w hj h; obtain rfl : j = 32 := (by omega); exact jw_of hw (Option.some.inj h)) K

theorem mj_astore_34 (C : jCtx l J cc nL own R rt md hh ret thr mc ms) {l0 l1 l2 l3 l4 l5 l6 l7 l8 l9 l10 l11 l12 l13 l14 l15 l16 l17 l18 l19 l20 l21 l22 l23 l24 l25 l26 l27 l28 l29 l30 l31 l32 l33 l34 : Option jV} {r : Option (Nat × Nat)} (hdg : decode cc pc = .ok (.astore 34, 2)) (hp : pc + 2 = pc') (hn9 : 34 < nL) (hw : jw l33 = true) (K : J pc' (l0 :: l1 :: l2 :: l3 :: l4 :: l5 :: l6 :: l7 :: l8 :: l9 :: l10 :: l11 :: l12 :: l13 :: l14 :: l15 :: l16 :: l17 :: l18 :: l19 :: l20 :: l21 :: l22 :: l23 :: l24 :: l25 :: l26 :: l27 :: l28 :: l29 :: l30 :: l31 :: l32 :: l33 :: some (aO r) :: L) st μ k n) : J pc (l0 :: l1 :: l2 :: l3 :: l4 :: l5 :: l6 :: l7 :: l8 :: l9 :: l10 :: l11 :: l12 :: l13 :: l14 :: l15 :: l16 :: l17 :: l18 :: l19 :: l20 :: l21 :: l22 :: l23 :: l24 :: l25 :: l26 :: l27 :: l28 :: l29 :: l30 :: l31 :: l32 :: l33 :: l34 :: L) (aO r :: st) μ k n :=
  mj_astoreG C (i := 34) hdg hp  (by simp only [List.length_cons]; omega) hn9 (by intro j w hj h; obtain rfl : j = 33 := (by omega); exact jw_of hw (Option.some.inj h)) K

theorem mj_astore_35 (C : jCtx l J cc nL own R rt md hh ret thr mc ms) {l0 l1 l2 l3 l4 l5 l6 l7 l8 l9 l10 l11 l12 l13 l14 l15 l16 l17 l18 l19 l20 l21 l22 l23 l24 l25 l26 l27 l28 l29 l30 l31 l32 l33 l34 l35 : Option jV} {r : Option (Nat × Nat)} (hdg : decode cc pc = .ok (.astore 35, 2)) (hp : pc + 2 = pc') (hn9 : 35 < nL) (hw : jw l34 = true) (K : J pc' (l0 :: l1 :: l2 :: l3 :: l4 :: l5 :: l6 :: l7 :: l8 :: l9 :: l10 :: l11 :: l12 :: l13 :: l14 :: l15 :: l16 :: l17 :: l18 :: l19 :: l20 :: l21 :: l22 :: l23 :: l24 :: l25 :: l26 :: l27 :: l28 :: l29 :: l30 :: l31 :: l32 :: l33 :: l34 :: some (aO r) :: L) st μ k n) : J pc (l0 :: l1 :: l2 :: l3 :: l4 :: l5 :: l6 :: l7 :: l8 :: l9 :: l10 :: l11 :: l12 :: l13 :: l14 :: l15 :: l16 :: l17 :: l18 :: l19 :: l20 :: l21 :: l22 :: l23 :: l24 :: l25 :: l26 :: l27 :: l28 :: l29 :: l30 :: l31 :: l32 :: l33 :: l34 :: l35 :: L) (aO r :: st) μ k n :=
  mj_astoreG C (i := 35) hdg hp  (by simp only [List.length_cons]; omega) hn9 (by intro j w hj h; obtain rfl : j = 34 := (by omega); exact jw_of hw (Option.some.inj h)) K

theorem mj_astore_nG (C : jCtx l J cc nL own R rt md hh ret thr mc ms) {k9 : Fin 4} {i : Nat} {r : Option (Nat × Nat)} (hdg : decode cc pc = .ok (.astore_n k9, 1)) (hp : pc + 1 = pc') (hk : (k9 : Nat) = i) (hi : i < L.length) (hn9 : i < nL) (hw : ∀ j w, j + 1 = i → L[j]? = some (some w) → jcat w ≠ 2) (K : J pc' (L.set i (some (aO r))) st μ k n) : J pc L (aO r :: st) μ k n := by
  obtain ⟨p, e, s, m, args, below, meth, c, D, cm, ad0, μ0, Q, rfl, hx, hb, hml, hrt, hown, hlk, hU, hE⟩ := C
  subst hp
  intro ad H locs ls hT hX hS hL hs hl
  cases r with
  | none => exact lv_astore_nN hx hb hdg hk hl hn9 rfl (fun ls' hl' => K ad H locs ls' hT hX hS (jl_setc hL (jst_h hs)) (jst_t hs) (jl_set rfl hi hw hl'))
  | some q => exact lv_astore_n hx hb hdg hk hl hn9 rfl (fun ls' hl' => K ad H locs ls' hT hX hS (jl_setc hL (jst_h hs)) (jst_t hs) (jl_set rfl hi hw hl'))

theorem mj_astore_n_0 (C : jCtx l J cc nL own R rt md hh ret thr mc ms) {l0 : Option jV} {r : Option (Nat × Nat)} (hdg : decode cc pc = .ok (.astore_n 0, 1)) (hp : pc + 1 = pc') (hn9 : 0 < nL)  (K : J pc' (some (aO r) :: L) st μ k n) : J pc (l0 :: L) (aO r :: st) μ k n :=
  mj_astore_nG C (i := 0) hdg hp rfl (by simp only [List.length_cons]; omega) hn9 (fun j w hj h => by omega) K

theorem mj_astore_n_1 (C : jCtx l J cc nL own R rt md hh ret thr mc ms) {l0 l1 : Option jV} {r : Option (Nat × Nat)} (hdg : decode cc pc = .ok (.astore_n 1, 1)) (hp : pc + 1 = pc') (hn9 : 1 < nL) (hw : jw l0 = true) (K : J pc' (l0 :: some (aO r) :: L) st μ k n) : J pc (l0 :: l1 :: L) (aO r :: st) μ k n :=
  mj_astore_nG C (i := 1) hdg hp rfl (by simp only [List.length_cons]; omega) hn9 (by intro j w hj h; obtain rfl : j = 0 := (by omega); exact jw_of hw (Option.some.inj h)) K

theorem mj_astore_n_2 (C : jCtx l J cc nL own R rt md hh ret thr mc ms) {l0 l1 l2 : Option jV} {r : Option (Nat × Nat)} (hdg : decode cc pc = .ok (.astore_n 2, 1)) (hp : pc + 1 = pc') (hn9 : 2 < nL) (hw : jw l1 = true) (K : J pc' (l0 :: l1 :: some (aO r) :: L) st μ k n) : J pc (l0 :: l1 :: l2 :: L) (aO r :: st) μ k n :=
  mj_astore_nG C (i := 2) hdg hp rfl (by simp only [List.length_cons]; omega) hn9 (by intro j w hj h; obtain rfl : j = 1 := (by omega); exact jw_of hw (Option.some.inj h)) K

theorem mj_astore_n_3 (C : jCtx l J cc nL own R rt md hh ret thr mc ms) {l0 l1 l2 l3 : Option jV} {r : Option (Nat × Nat)} (hdg : decode cc pc = .ok (.astore_n 3, 1)) (hp : pc + 1 = pc') (hn9 : 3 < nL) (hw : jw l2 = true) (K : J pc' (l0 :: l1 :: l2 :: some (aO r) :: L) st μ k n) : J pc (l0 :: l1 :: l2 :: l3 :: L) (aO r :: st) μ k n :=
  mj_astore_nG C (i := 3) hdg hp rfl (by simp only [List.length_cons]; omega) hn9 (by intro j w hj h; obtain rfl : j = 2 := (by omega); exact jw_of hw (Option.some.inj h)) K

theorem mj_iincG (C : jCtx l J cc nL own R rt md hh ret thr mc ms) {i : Nat} {d : Int} {w x : Int32} (hdg : decode cc pc = .ok (.iinc i d, 3)) (hp : pc + 3 = pc') (hd : Int32.ofInt d = w) (hg : L[i]? = some (some (aI x))) (hi : i < L.length) (hn9 : i < nL) (hw : ∀ j w, j + 1 = i → L[j]? = some (some w) → jcat w ≠ 2) (K : J pc' (L.set i (some (aI (x + w)))) st μ k n) : J pc L st μ k n := by
  obtain ⟨p, e, s, m, args, below, meth, c, D, cm, ad0, μ0, Q, rfl, hx, hb, hml, hrt, hown, hlk, hU, hE⟩ := C
  subst hp
  intro ad H locs ls hT hX hS hL hs hl
  subst hd
  obtain ⟨k9, hk9⟩ := List.getElem?_of_mem (jLs_mem ad L 0 i _ hg)
  rw [Nat.zero_add] at hk9
  exact lv_iinc hx hb hdg hl hk9 rfl hn9 rfl (fun ls' hl' => K ad H locs ls' hT hX hS (jl_setc hL trivial) hs (jl_set rfl hi hw hl'))

theorem mj_iinc_0 (C : jCtx l J cc nL own R rt md hh ret thr mc ms)  {d : Int} {w x : Int32} (hdg : decode cc pc = .ok (.iinc 0 d, 3)) (hp : pc + 3 = pc') (hd : Int32.ofInt d = w) (hn9 : 0 < nL)  (K : J pc' (some (aI (x + w)) :: L) st μ k n) : J pc (some (aI x) :: L) st μ k n :=
  mj_iincG C (i := 0) hdg hp hd rfl (by simp only [List.length_cons]; omega) hn9 (fun j w hj h => by omega) K

theorem mj_iinc_1 (C : jCtx l J cc nL own R rt md hh ret thr mc ms) {l0 : Option jV} {d : Int} {w x : Int32} (hdg : decode cc pc = .ok (.iinc 1 d, 3)) (hp : pc + 3 = pc') (hd : Int32.ofInt d = w) (hn9 : 1 < nL) (hw : jw l0 = true) (K : J pc' (l0 :: some (aI (x + w)) :: L) st μ k n) : J pc (l0 :: some (aI x) :: L) st μ k n :=
  mj_iincG C (i := 1) hdg hp hd rfl (by simp only [List.length_cons]; omega) hn9 (by intro j w hj h; obtain rfl : j = 0 := (by omega); exact jw_of hw (Option.some.inj h)) K

theorem mj_iinc_2 (C : jCtx l J cc nL own R rt md hh ret thr mc ms) {l0 l1 : Option jV} {d : Int} {w x : Int32} (hdg : decode cc pc = .ok (.iinc 2 d, 3)) (hp : pc + 3 = pc') (hd : Int32.ofInt d = w) (hn9 : 2 < nL) (hw : jw l1 = true) (K : J pc' (l0 :: l1 :: some (aI (x + w)) :: L) st μ k n) : J pc (l0 :: l1 :: some (aI x) :: L) st μ k n :=
  mj_iincG C (i := 2) hdg hp hd rfl (by simp only [List.length_cons]; omega) hn9 (by intro j w hj h; obtain rfl : j = 1 := (by omega); exact jw_of hw (Option.some.inj h)) K

theorem mj_iinc_3 (C : jCtx l J cc nL own R rt md hh ret thr mc ms) {l0 l1 l2 : Option jV} {d : Int} {w x : Int32} (hdg : decode cc pc = .ok (.iinc 3 d, 3)) (hp : pc + 3 = pc') (hd : Int32.ofInt d = w) (hn9 : 3 < nL) (hw : jw l2 = true) (K : J pc' (l0 :: l1 :: l2 :: some (aI (x + w)) :: L) st μ k n) : J pc (l0 :: l1 :: l2 :: some (aI x) :: L) st μ k n :=
  mj_iincG C (i := 3) hdg hp hd rfl (by simp only [List.length_cons]; omega) hn9 (by intro j w hj h; obtain rfl : j = 2 := (by omega); exact jw_of hw (Option.some.inj h)) K

theorem mj_iinc_4 (C : jCtx l J cc nL own R rt md hh ret thr mc ms) {l0 l1 l2 l3 : Option jV} {d : Int} {w x : Int32} (hdg : decode cc pc = .ok (.iinc 4 d, 3)) (hp : pc + 3 = pc') (hd : Int32.ofInt d = w) (hn9 : 4 < nL) (hw : jw l3 = true) (K : J pc' (l0 :: l1 :: l2 :: l3 :: some (aI (x + w)) :: L) st μ k n) : J pc (l0 :: l1 :: l2 :: l3 :: some (aI x) :: L) st μ k n :=
  mj_iincG C (i := 4) hdg hp hd rfl (by simp only [List.length_cons]; omega) hn9 (by intro j w hj h; obtain rfl : j = 3 := (by omega); exact jw_of hw (Option.some.inj h)) K

theorem mj_iinc_5 (C : jCtx l J cc nL own R rt md hh ret thr mc ms) {l0 l1 l2 l3 l4 : Option jV} {d : Int} {w x : Int32} (hdg : decode cc pc = .ok (.iinc 5 d, 3)) (hp : pc + 3 = pc') (hd : Int32.ofInt d = w) (hn9 : 5 < nL) (hw : jw l4 = true) (K : J pc' (l0 :: l1 :: l2 :: l3 :: l4 :: some (aI (x + w)) :: L) st μ k n) : J pc (l0 :: l1 :: l2 :: l3 :: l4 :: some (aI x) :: L) st μ k n :=
  mj_iincG C (i := 5) hdg hp hd rfl (by simp only [List.length_cons]; omega) hn9 (by intro j w hj h; obtain rfl : j = 4 := (by omega); exact jw_of hw (Option.some.inj h)) K

theorem mj_iinc_6 (C : jCtx l J cc nL own R rt md hh ret thr mc ms) {l0 l1 l2 l3 l4 l5 : Option jV} {d : Int} {w x : Int32} (hdg : decode cc pc = .ok (.iinc 6 d, 3)) (hp : pc + 3 = pc') (hd : Int32.ofInt d = w) (hn9 : 6 < nL) (hw : jw l5 = true) (K : J pc' (l0 :: l1 :: l2 :: l3 :: l4 :: l5 :: some (aI (x + w)) :: L) st μ k n) : J pc (l0 :: l1 :: l2 :: l3 :: l4 :: l5 :: some (aI x) :: L) st μ k n :=
  mj_iincG C (i := 6) hdg hp hd rfl (by simp only [List.length_cons]; omega) hn9 (by intro j w hj h; obtain rfl : j = 5 := (by omega); exact jw_of hw (Option.some.inj h)) K

theorem mj_iinc_7 (C : jCtx l J cc nL own R rt md hh ret thr mc ms) {l0 l1 l2 l3 l4 l5 l6 : Option jV} {d : Int} {w x : Int32} (hdg : decode cc pc = .ok (.iinc 7 d, 3)) (hp : pc + 3 = pc') (hd : Int32.ofInt d = w) (hn9 : 7 < nL) (hw : jw l6 = true) (K : J pc' (l0 :: l1 :: l2 :: l3 :: l4 :: l5 :: l6 :: some (aI (x + w)) :: L) st μ k n) : J pc (l0 :: l1 :: l2 :: l3 :: l4 :: l5 :: l6 :: some (aI x) :: L) st μ k n :=
  mj_iincG C (i := 7) hdg hp hd rfl (by simp only [List.length_cons]; omega) hn9 (by intro j w hj h; obtain rfl : j = 6 := (by omega); exact jw_of hw (Option.some.inj h)) K

theorem mj_iinc_8 (C : jCtx l J cc nL own R rt md hh ret thr mc ms) {l0 l1 l2 l3 l4 l5 l6 l7 : Option jV} {d : Int} {w x : Int32} (hdg : decode cc pc = .ok (.iinc 8 d, 3)) (hp : pc + 3 = pc') (hd : Int32.ofInt d = w) (hn9 : 8 < nL) (hw : jw l7 = true) (K : J pc' (l0 :: l1 :: l2 :: l3 :: l4 :: l5 :: l6 :: l7 :: some (aI (x + w)) :: L) st μ k n) : J pc (l0 :: l1 :: l2 :: l3 :: l4 :: l5 :: l6 :: l7 :: some (aI x) :: L) st μ k n :=
  mj_iincG C (i := 8) hdg hp hd rfl (by simp only [List.length_cons]; omega) hn9 (by intro j w hj h; obtain rfl : j = 7 := (by omega); exact jw_of hw (Option.some.inj h)) K

theorem mj_iinc_9 (C : jCtx l J cc nL own R rt md hh ret thr mc ms) {l0 l1 l2 l3 l4 l5 l6 l7 l8 : Option jV} {d : Int} {w x : Int32} (hdg : decode cc pc = .ok (.iinc 9 d, 3)) (hp : pc + 3 = pc') (hd : Int32.ofInt d = w) (hn9 : 9 < nL) (hw : jw l8 = true) (K : J pc' (l0 :: l1 :: l2 :: l3 :: l4 :: l5 :: l6 :: l7 :: l8 :: some (aI (x + w)) :: L) st μ k n) : J pc (l0 :: l1 :: l2 :: l3 :: l4 :: l5 :: l6 :: l7 :: l8 :: some (aI x) :: L) st μ k n :=
  mj_iincG C (i := 9) hdg hp hd rfl (by simp only [List.length_cons]; omega) hn9 (by intro j w hj h; obtain rfl : j = 8 := (by omega); exact jw_of hw (Option.some.inj h)) K

theorem mj_iinc_10 (C : jCtx l J cc nL own R rt md hh ret thr mc ms) {l0 l1 l2 l3 l4 l5 l6 l7 l8 l9 : Option jV} {d : Int} {w x : Int32} (hdg : decode cc pc = .ok (.iinc 10 d, 3)) (hp : pc + 3 = pc') (hd : Int32.ofInt d = w) (hn9 : 10 < nL) (hw : jw l9 = true) (K : J pc' (l0 :: l1 :: l2 :: l3 :: l4 :: l5 :: l6 :: l7 :: l8 :: l9 :: some (aI (x + w)) :: L) st μ k n) : J pc (l0 :: l1 :: l2 :: l3 :: l4 :: l5 :: l6 :: l7 :: l8 :: l9 :: some (aI x) :: L) st μ k n :=
  mj_iincG C (i := 10) hdg hp hd rfl (by simp only [List.length_cons]; omega) hn9 (by intro j w hj h; obtain rfl : j = 9 := (by omega); exact jw_of hw (Option.some.inj h)) K

theorem mj_iinc_11 (C : jCtx l J cc nL own R rt md hh ret thr mc ms) {l0 l1 l2 l3 l4 l5 l6 l7 l8 l9 l10 : Option jV} {d : Int} {w x : Int32} (hdg : decode cc pc = .ok (.iinc 11 d, 3)) (hp : pc + 3 = pc') (hd : Int32.ofInt d = w) (hn9 : 11 < nL) (hw : jw l10 = true) (K : J pc' (l0 :: l1 :: l2 :: l3 :: l4 :: l5 :: l6 :: l7 :: l8 :: l9 :: l10 :: some (aI (x + w)) :: L) st μ k n) : J pc (l0 :: l1 :: l2 :: l3 :: l4 :: l5 :: l6 :: l7 :: l8 :: l9 :: l10 :: some (aI x) :: L) st μ k n :=
  mj_iincG C (i := 11) hdg hp hd rfl (by simp only [List.length_cons]; omega) hn9 (by intro j w hj h; obtain rfl : j = 10 := (by omega); exact jw_of hw (Option.some.inj h)) K

theorem mj_iinc_12 (C : jCtx l J cc nL own R rt md hh ret thr mc ms) {l0 l1 l2 l3 l4 l5 l6 l7 l8 l9 l10 l11 : Option jV} {d : Int} {w x : Int32} (hdg : decode cc pc = .ok (.iinc 12 d, 3)) (hp : pc + 3 = pc') (hd : Int32.ofInt d = w) (hn9 : 12 < nL) (hw : jw l11 = true) (K : J pc' (l0 :: l1 :: l2 :: l3 :: l4 :: l5 :: l6 :: l7 :: l8 :: l9 :: l10 :: l11 :: some (aI (x + w)) :: L) st μ k n) : J pc (l0 :: l1 :: l2 :: l3 :: l4 :: l5 :: l6 :: l7 :: l8 :: l9 :: l10 :: l11 :: some (aI x) :: L) st μ k n :=
  mj_iincG C (i := 12) hdg hp hd rfl (by simp only [List.length_cons]; omega) hn9 (by intro j w hj h; obtain rfl : j = 11 := (by omega); exact jw_of hw (Option.some.inj h)) K

theorem mj_iinc_13 (C : jCtx l J cc nL own R rt md hh ret thr mc ms) {l0 l1 l2 l3 l4 l5 l6 l7 l8 l9 l10 l11 l12 : Option jV} {d : Int} {w x : Int32} (hdg : decode cc pc = .ok (.iinc 13 d, 3)) (hp : pc + 3 = pc') (hd : Int32.ofInt d = w) (hn9 : 13 < nL) (hw : jw l12 = true) (K : J pc' (l0 :: l1 :: l2 :: l3 :: l4 :: l5 :: l6 :: l7 :: l8 :: l9 :: l10 :: l11 :: l12 :: some (aI (x + w)) :: L) st μ k n) : J pc (l0 :: l1 :: l2 :: l3 :: l4 :: l5 :: l6 :: l7 :: l8 :: l9 :: l10 :: l11 :: l12 :: some (aI x) :: L) st μ k n :=
  mj_iincG C (i := 13) hdg hp hd rfl (by simp only [List.length_cons]; omega) hn9 (by intro j w hj h; obtain rfl : j = 12 := (by omega); exact jw_of hw (Option.some.inj h)) K

theorem mj_iinc_14 (C : jCtx l J cc nL own R rt md hh ret thr mc ms) {l0 l1 l2 l3 l4 l5 l6 l7 l8 l9 l10 l11 l12 l13 : Option jV} {d : Int} {w x : Int32} (hdg : decode cc pc = .ok (.iinc 14 d, 3)) (hp : pc + 3 = pc') (hd : Int32.ofInt d = w) (hn9 : 14 < nL) (hw : jw l13 = true) (K : J pc' (l0 :: l1 :: l2 :: l3 :: l4 :: l5 :: l6 :: l7 :: l8 :: l9 :: l10 :: l11 :: l12 :: l13 :: some (aI (x + w)) :: L) st μ k n) : J pc (l0 :: l1 :: l2 :: l3 :: l4 :: l5 :: l6 :: l7 :: l8 :: l9 :: l10 :: l11 :: l12 :: l13 :: some (aI x) :: L) st μ k n :=
  mj_iincG C (i := 14) hdg hp hd rfl (by simp only [List.length_cons]; omega) hn9 (by intro j w hj h; obtain rfl : j = 13 := (by omega); exact jw_of hw (Option.some.inj h)) K

theorem mj_iinc_15 (C : jCtx l J cc nL own R rt md hh ret thr mc ms) {l0 l1 l2 l3 l4 l5 l6 l7 l8 l9 l10 l11 l12 l13 l14 : Option jV} {d : Int} {w x : Int32} (hdg : decode cc pc = .ok (.iinc 15 d, 3)) (hp : pc + 3 = pc') (hd : Int32.ofInt d = w) (hn9 : 15 < nL) (hw : jw l14 = true) (K : J pc' (l0 :: l1 :: l2 :: l3 :: l4 :: l5 :: l6 :: l7 :: l8 :: l9 :: l10 :: l11 :: l12 :: l13 :: l14 :: some (aI (x + w)) :: L) st μ k n) : J pc (l0 :: l1 :: l2 :: l3 :: l4 :: l5 :: l6 :: l7 :: l8 :: l9 :: l10 :: l11 :: l12 :: l13 :: l14 :: some (aI x) :: L) st μ k n :=
  mj_iincG C (i := 15) hdg hp hd rfl (by simp only [List.length_cons]; omega) hn9 (by intro j w hj h; obtain rfl : j = 14 := (by omega); exact jw_of hw (Option.some.inj h)) K

theorem mj_iinc_16 (C : jCtx l J cc nL own R rt md hh ret thr mc ms) {l0 l1 l2 l3 l4 l5 l6 l7 l8 l9 l10 l11 l12 l13 l14 l15 : Option jV} {d : Int} {w x : Int32} (hdg : decode cc pc = .ok (.iinc 16 d, 3)) (hp : pc + 3 = pc') (hd : Int32.ofInt d = w) (hn9 : 16 < nL) (hw : jw l15 = true) (K : J pc' (l0 :: l1 :: l2 :: l3 :: l4 :: l5 :: l6 :: l7 :: l8 :: l9 :: l10 :: l11 :: l12 :: l13 :: l14 :: l15 :: some (aI (x + w)) :: L) st μ k n) : J pc (l0 :: l1 :: l2 :: l3 :: l4 :: l5 :: l6 :: l7 :: l8 :: l9 :: l10 :: l11 :: l12 :: l13 :: l14 :: l15 :: some (aI x) :: L) st μ k n :=
  mj_iincG C (i := 16) hdg hp hd rfl (by simp only [List.length_cons]; omega) hn9 (by intro j w hj h; obtain rfl : j = 15 := (by omega); exact jw_of hw (Option.some.inj h)) K

theorem mj_iinc_17 (C : jCtx l J cc nL own R rt md hh ret thr mc ms) {l0 l1 l2 l3 l4 l5 l6 l7 l8 l9 l10 l11 l12 l13 l14 l15 l16 : Option jV} {d : Int} {w x : Int32} (hdg : decode cc pc = .ok (.iinc 17 d, 3)) (hp : pc + 3 = pc') (hd : Int32.ofInt d = w) (hn9 : 17 < nL) (hw : jw l16 = true) (K : J pc' (l0 :: l1 :: l2 :: l3 :: l4 :: l5 :: l6 :: l7 :: l8 :: l9 :: l10 :: l11 :: l12 :: l13 :: l14 :: l15 :: l16 :: some (aI (x + w)) :: L) st μ k n) : J pc (l0 :: l1 :: l2 :: l3 :: l4 :: l5 :: l6 :: l7 :: l8 :: l9 :: l10 :: l11 :: l12 :: l13 :: l14 :: l15 :: l16 :: some (aI x) :: L) st μ k n :=
  mj_iincG C (i := 17) hdg hp hd rfl (by simp only [List.length_cons]; omega) hn9 (by intro j w hj h; obtain rfl : j = 16 := (by omega); exact jw_of hw (Option.some.inj h)) K

theorem mj_iinc_18 (C : jCtx l J cc nL own R rt md hh ret thr mc ms) {l0 l1 l2 l3 l4 l5 l6 l7 l8 l9 l10 l11 l12 l13 l14 l15 l16 l17 : Option jV} {d : Int} {w x : Int32} (hdg : decode cc pc = .ok (.iinc 18 d, 3)) (hp : pc + 3 = pc') (hd : Int32.ofInt d = w) (hn9 : 18 < nL) (hw : jw l17 = true) (K : J pc' (l0 :: l1 :: l2 :: l3 :: l4 :: l5 :: l6 :: l7 :: l8 :: l9 :: l10 :: l11 :: l12 :: l13 :: l14 :: l15 :: l16 :: l17 :: some (aI (x + w)) :: L) st μ k n) : J pc (l0 :: l1 :: l2 :: l3 :: l4 :: l5 :: l6 :: l7 :: l8 :: l9 :: l10 :: l11 :: l12 :: l13 :: l14 :: l15 :: l16 :: l17 :: some (aI x) :: L) st μ k n :=
  mj_iincG C (i := 18) hdg hp hd rfl (by simp only [List.length_cons]; omega) hn9 (by intro j w hj h; obtain rfl : j = 17 := (by omega); exact jw_of hw (Option.some.inj h)) K

theorem mj_iinc_19 (C : jCtx l J cc nL own R rt md hh ret thr mc ms) {l0 l1 l2 l3 l4 l5 l6 l7 l8 l9 l10 l11 l12 l13 l14 l15 l16 l17 l18 : Option jV} {d : Int} {w x : Int32} (hdg : decode cc pc = .ok (.iinc 19 d, 3)) (hp : pc + 3 = pc') (hd : Int32.ofInt d = w) (hn9 : 19 < nL) (hw : jw l18 = true) (K : J pc' (l0 :: l1 :: l2 :: l3 :: l4 :: l5 :: l6 :: l7 :: l8 :: l9 :: l10 :: l11 :: l12 :: l13 :: l14 :: l15 :: l16 :: l17 :: l18 :: some (aI (x + w)) :: L) st μ k n) : J pc (l0 :: l1 :: l2 :: l3 :: l4 :: l5 :: l6 :: l7 :: l8 :: l9 :: l10 :: l11 :: l12 :: l13 :: l14 :: l15 :: l16 :: l17 :: l18 :: some (aI x) :: L) st μ k n :=
  mj_iincG C (i := 19) hdg hp hd rfl (by simp only [List.length_cons]; omega) hn9 (by intro j w hj h; obtain rfl : j = 18 := (by omega); exact jw_of hw (Option.some.inj h)) K

theorem mj_iinc_20 (C : jCtx l J cc nL own R rt md hh ret thr mc ms) {l0 l1 l2 l3 l4 l5 l6 l7 l8 l9 l10 l11 l12 l13 l14 l15 l16 l17 l18 l19 : Option jV} {d : Int} {w x : Int32} (hdg : decode cc pc = .ok (.iinc 20 d, 3)) (hp : pc + 3 = pc') (hd : Int32.ofInt d = w) (hn9 : 20 < nL) (hw : jw l19 = true) (K : J pc' (l0 :: l1 :: l2 :: l3 :: l4 :: l5 :: l6 :: l7 :: l8 :: l9 :: l10 :: l11 :: l12 :: l13 :: l14 :: l15 :: l16 :: l17 :: l18 :: l19 :: some (aI (x + w)) :: L) st μ k n) : J pc (l0 :: l1 :: l2 :: l3 :: l4 :: l5 :: l6 :: l7 :: l8 :: l9 :: l10 :: l11 :: l12 :: l13 :: l14 :: l15 :: l16 :: l17 :: l18 :: l19 :: some (aI x) :: L) st μ k n :=
  mj_iincG C (i := 20) hdg hp hd rfl (by simp only [List.length_cons]; omega) hn9 (by intro j w hj h; obtain rfl : j = 19 := (by omega); exact jw_of hw (Option.some.inj h)) K

theorem mj_iinc_21 (C : jCtx l J cc nL own R rt md hh ret thr mc ms) {l0 l1 l2 l3 l4 l5 l6 l7 l8 l9 l10 l11 l12 l13 l14 l15 l16 l17 l18 l19 l20 : Option jV} {d : Int} {w x : Int32} (hdg : decode cc pc = .ok (.iinc 21 d, 3)) (hp : pc + 3 = pc') (hd : Int32.ofInt d = w) (hn9 : 21 < nL) (hw : jw l20 = true) (K : J pc' (l0 :: l1 :: l2 :: l3 :: l4 :: l5 :: l6 :: l7 :: l8 :: l9 :: l10 :: l11 :: l12 :: l13 :: l14 :: l15 :: l16 :: l17 :: l18 :: l19 :: l20 :: some (aI (x + w)) :: L) st μ k n) : J pc (l0 :: l1 :: l2 :: l3 :: l4 :: l5 :: l6 :: l7 :: l8 :: l9 :: l10 :: l11 :: l12 :: l13 :: l14 :: l15 :: l16 :: l17 :: l18 :: l19 :: l20 :: some (aI x) :: L) st μ k n :=
  mj_iincG C (i := 21) hdg hp hd rfl (by simp only [List.length_cons]; omega) hn9 (by intro j w hj h; obtain rfl : j = 20 := (by omega); exact jw_of hw (Option.some.inj h)) K

theorem mj_iinc_22 (C : jCtx l J cc nL own R rt md hh ret thr mc ms) {l0 l1 l2 l3 l4 l5 l6 l7 l8 l9 l10 l11 l12 l13 l14 l15 l16 l17 l18 l19 l20 l21 : Option jV} {d : Int} {w x : Int32} (hdg : decode cc pc = .ok (.iinc 22 d, 3)) (hp : pc + 3 = pc') (hd : Int32.ofInt d = w) (hn9 : 22 < nL) (hw : jw l21 = true) (K : J pc' (l0 :: l1 :: l2 :: l3 :: l4 :: l5 :: l6 :: l7 :: l8 :: l9 :: l10 :: l11 :: l12 :: l13 :: l14 :: l15 :: l16 :: l17 :: l18 :: l19 :: l20 :: l21 :: some (aI (x + w)) :: L) st μ k n) : J pc (l0 :: l1 :: l2 :: l3 :: l4 :: l5 :: l6 :: l7 :: l8 :: l9 :: l10 :: l11 :: l12 :: l13 :: l14 :: l15 :: l16 :: l17 :: l18 :: l19 :: l20 :: l21 :: some (aI x) :: L) st μ k n :=
  mj_iincG C (i := 22) hdg hp hd rfl (by simp only [List.length_cons]; omega) hn9 (by intro j w hj h; obtain rfl : j = 21 := (by omega); exact jw_of hw (Option.some.inj h)) K

theorem mj_iinc_23 (C : jCtx l J cc nL own R rt md hh ret thr mc ms) {l0 l1 l2 l3 l4 l5 l6 l7 l8 l9 l10 l11 l12 l13 l14 l15 l16 l17 l18 l19 l20 l21 l22 : Option jV} {d : Int} {w x : Int32} (hdg : decode cc pc = .ok (.iinc 23 d, 3)) (hp : pc + 3 = pc') (hd : Int32.ofInt d = w) (hn9 : 23 < nL) (hw : jw l22 = true) (K : J pc' (l0 :: l1 :: l2 :: l3 :: l4 :: l5 :: l6 :: l7 :: l8 :: l9 :: l10 :: l11 :: l12 :: l13 :: l14 :: l15 :: l16 :: l17 :: l18 :: l19 :: l20 :: l21 :: l22 :: some (aI (x + w)) :: L) st μ k n) : J pc (l0 :: l1 :: l2 :: l3 :: l4 :: l5 :: l6 :: l7 :: l8 :: l9 :: l10 :: l11 :: l12 :: l13 :: l14 :: l15 :: l16 :: l17 :: l18 :: l19 :: l20 :: l21 :: l22 :: some (aI x) :: L) st μ k n :=
  mj_iincG C (i := 23) hdg hp hd rfl (by simp only [List.length_cons]; omega) hn9 (by intro j w hj h; obtain rfl : j = 22 := (by omega); exact jw_of hw (Option.some.inj h)) K

theorem mj_iinc_24 (C : jCtx l J cc nL own R rt md hh ret thr mc ms) {l0 l1 l2 l3 l4 l5 l6 l7 l8 l9 l10 l11 l12 l13 l14 l15 l16 l17 l18 l19 l20 l21 l22 l23 : Option jV} {d : Int} {w x : Int32} (hdg : decode cc pc = .ok (.iinc 24 d, 3)) (hp : pc + 3 = pc') (hd : Int32.ofInt d = w) (hn9 : 24 < nL) (hw : jw l23 = true) (K : J pc' (l0 :: l1 :: l2 :: l3 :: l4 :: l5 :: l6 :: l7 :: l8 :: l9 :: l10 :: l11 :: l12 :: l13 :: l14 :: l15 :: l16 :: l17 :: l18 :: l19 :: l20 :: l21 :: l22 :: l23 :: some (aI (x + w)) :: L) st μ k n) : J pc (l0 :: l1 :: l2 :: l3 :: l4 :: l5 :: l6 :: l7 :: l8 :: l9 :: l10 :: l11 :: l12 :: l13 :: l14 :: l15 :: l16 :: l17 :: l18 :: l19 :: l20 :: l21 :: l22 :: l23 :: some (aI x) :: L) st μ k n :=
  mj_iincG C (i := 24) hdg hp hd rfl (by simp only [List.length_cons]; omega) hn9 (by intro j w hj h; obtain rfl : j = 23 := (by omega); exact jw_of hw (Option.some.inj h)) K

theorem mj_iinc_25 (C : jCtx l J cc nL own R rt md hh ret thr mc ms) {l0 l1 l2 l3 l4 l5 l6 l7 l8 l9 l10 l11 l12 l13 l14 l15 l16 l17 l18 l19 l20 l21 l22 l23 l24 : Option jV} {d : Int} {w x : Int32} (hdg : decode cc pc = .ok (.iinc 25 d, 3)) (hp : pc + 3 = pc') (hd : Int32.ofInt d = w) (hn9 : 25 < nL) (hw : jw l24 = true) (K : J pc' (l0 :: l1 :: l2 :: l3 :: l4 :: l5 :: l6 :: l7 :: l8 :: l9 :: l10 :: l11 :: l12 :: l13 :: l14 :: l15 :: l16 :: l17 :: l18 :: l19 :: l20 :: l21 :: l22 :: l23 :: l24 :: some (aI (x + w)) :: L) st μ k n) : J pc (l0 :: l1 :: l2 :: l3 :: l4 :: l5 :: l6 :: l7 :: l8 :: l9 :: l10 :: l11 :: l12 :: l13 :: l14 :: l15 :: l16 :: l17 :: l18 :: l19 :: l20 :: l21 :: l22 :: l23 :: l24 :: some (aI x) :: L) st μ k n :=
  mj_iincG C (i := 25) hdg hp hd rfl (by simp only [List.length_cons]; omega) hn9 (by intro j w hj h; obtain rfl : j = 24 := (by omega); exact jw_of hw (Option.some.inj h)) K

theorem mj_iinc_26 (C : jCtx l J cc nL own R rt md hh ret thr mc ms) {l0 l1 l2 l3 l4 l5 l6 l7 l8 l9 l10 l11 l12 l13 l14 l15 l16 l17 l18 l19 l20 l21 l22 l23 l24 l25 : Option jV} {d : Int} {w x : Int32} (hdg : decode cc pc = .ok (.iinc 26 d, 3)) (hp : pc + 3 = pc') (hd : Int32.ofInt d = w) (hn9 : 26 < nL) (hw : jw l25 = true) (K : J pc' (l0 :: l1 :: l2 :: l3 :: l4 :: l5 :: l6 :: l7 :: l8 :: l9 :: l10 :: l11 :: l12 :: l13 :: l14 :: l15 :: l16 :: l17 :: l18 :: l19 :: l20 :: l21 :: l22 :: l23 :: l24 :: l25 :: some (aI (x + w)) :: L) st μ k n) : J pc (l0 :: l1 :: l2 :: l3 :: l4 :: l5 :: l6 :: l7 :: l8 :: l9 :: l10 :: l11 :: l12 :: l13 :: l14 :: l15 :: l16 :: l17 :: l18 :: l19 :: l20 :: l21 :: l22 :: l23 :: l24 :: l25 :: some (aI x) :: L) st μ k n :=
  mj_iincG C (i := 26) hdg hp hd rfl (by simp only [List.length_cons]; omega) hn9 (by intro j w hj h; obtain rfl : j = 25 := (by omega); exact jw_of hw (Option.some.inj h)) K

theorem mj_iinc_27 (C : jCtx l J cc nL own R rt md hh ret thr mc ms) {l0 l1 l2 l3 l4 l5 l6 l7 l8 l9 l10 l11 l12 l13 l14 l15 l16 l17 l18 l19 l20 l21 l22 l23 l24 l25 l26 : Option jV} {d : Int} {w x : Int32} (hdg : decode cc pc = .ok (.iinc 27 d, 3)) (hp : pc + 3 = pc') (hd : Int32.ofInt d = w) (hn9 : 27 < nL) (hw : jw l26 = true) (K : J pc' (l0 :: l1 :: l2 :: l3 :: l4 :: l5 :: l6 :: l7 :: l8 :: l9 :: l10 :: l11 :: l12 :: l13 :: l14 :: l15 :: l16 :: l17 :: l18 :: l19 :: l20 :: l21 :: l22 :: l23 :: l24 :: l25 :: l26 :: some (aI (x + w)) :: L) st μ k n) : J pc (l0 :: l1 :: l2 :: l3 :: l4 :: l5 :: l6 :: l7 :: l8 :: l9 :: l10 :: l11 :: l12 :: l13 :: l14 :: l15 :: l16 :: l17 :: l18 :: l19 :: l20 :: l21 :: l22 :: l23 :: l24 :: l25 :: l26 :: some (aI x) :: L) st μ k n :=
  mj_iincG C (i := 27) hdg hp hd rfl (by simp only [List.length_cons]; omega) hn9 (by intro j w hj h; obtain rfl : j = 26 := (by omega); exact jw_of hw (Option.some.inj h)) K

theorem mj_iinc_28 (C : jCtx l J cc nL own R rt md hh ret thr mc ms) {l0 l1 l2 l3 l4 l5 l6 l7 l8 l9 l10 l11 l12 l13 l14 l15 l16 l17 l18 l19 l20 l21 l22 l23 l24 l25 l26 l27 : Option jV} {d : Int} {w x : Int32} (hdg : decode cc pc = .ok (.iinc 28 d, 3)) (hp : pc + 3 = pc') (hd : Int32.ofInt d = w) (hn9 : 28 < nL) (hw : jw l27 = true) (K : J pc' (l0 :: l1 :: l2 :: l3 :: l4 :: l5 :: l6 :: l7 :: l8 :: l9 :: l10 :: l11 :: l12 :: l13 :: l14 :: l15 :: l16 :: l17 :: l18 :: l19 :: l20 :: l21 :: l22 :: l23 :: l24 :: l25 :: l26 :: l27 :: some (aI (x + w)) :: L) st μ k n) : J pc (l0 :: l1 :: l2 :: l3 :: l4 :: l5 :: l6 :: l7 :: l8 :: l9 :: l10 :: l11 :: l12 :: l13 :: l14 :: l15 :: l16 :: l17 :: l18 :: l19 :: l20 :: l21 :: l22 :: l23 :: l24 :: l25 :: l26 :: l27 :: some (aI x) :: L) st μ k n :=
  mj_iincG C (i := 28) hdg hp hd rfl (by simp only [List.length_cons]; omega) hn9 (by intro j w hj h; obtain rfl : j = 27 := (by omega); exact jw_of hw (Option.some.inj h)) K

theorem mj_iinc_29 (C : jCtx l J cc nL own R rt md hh ret thr mc ms) {l0 l1 l2 l3 l4 l5 l6 l7 l8 l9 l10 l11 l12 l13 l14 l15 l16 l17 l18 l19 l20 l21 l22 l23 l24 l25 l26 l27 l28 : Option jV} {d : Int} {w x : Int32} (hdg : decode cc pc = .ok (.iinc 29 d, 3)) (hp : pc + 3 = pc') (hd : Int32.ofInt d = w) (hn9 : 29 < nL) (hw : jw l28 = true) (K : J pc' (l0 :: l1 :: l2 :: l3 :: l4 :: l5 :: l6 :: l7 :: l8 :: l9 :: l10 :: l11 :: l12 :: l13 :: l14 :: l15 :: l16 :: l17 :: l18 :: l19 :: l20 :: l21 :: l22 :: l23 :: l24 :: l25 :: l26 :: l27 :: l28 :: some (aI (x + w)) :: L) st μ k n) : J pc (l0 :: l1 :: l2 :: l3 :: l4 :: l5 :: l6 :: l7 :: l8 :: l9 :: l10 :: l11 :: l12 :: l13 :: l14 :: l15 :: l16 :: l17 :: l18 :: l19 :: l20 :: l21 :: l22 :: l23 :: l24 :: l25 :: l26 :: l27 :: l28 :: some (aI x) :: L) st μ k n :=
  mj_iincG C (i := 29) hdg hp hd rfl (by simp only [List.length_cons]; omega) hn9 (by intro j w hj h; obtain rfl : j = 28 := (by omega); exact jw_of hw (Option.some.inj h)) K

theorem mj_iinc_30 (C : jCtx l J cc nL own R rt md hh ret thr mc ms) {l0 l1 l2 l3 l4 l5 l6 l7 l8 l9 l10 l11 l12 l13 l14 l15 l16 l17 l18 l19 l20 l21 l22 l23 l24 l25 l26 l27 l28 l29 : Option jV} {d : Int} {w x : Int32} (hdg : decode cc pc = .ok (.iinc 30 d, 3)) (hp : pc + 3 = pc') (hd : Int32.ofInt d = w) (hn9 : 30 < nL) (hw : jw l29 = true) (K : J pc' (l0 :: l1 :: l2 :: l3 :: l4 :: l5 :: l6 :: l7 :: l8 :: l9 :: l10 :: l11 :: l12 :: l13 :: l14 :: l15 :: l16 :: l17 :: l18 :: l19 :: l20 :: l21 :: l22 :: l23 :: l24 :: l25 :: l26 :: l27 :: l28 :: l29 :: some (aI (x + w)) :: L) st μ k n) : J pc (l0 :: l1 :: l2 :: l3 :: l4 :: l5 :: l6 :: l7 :: l8 :: l9 :: l10 :: l11 :: l12 :: l13 :: l14 :: l15 :: l16 :: l17 :: l18 :: l19 :: l20 :: l21 :: l22 :: l23 :: l24 :: l25 :: l26 :: l27 :: l28 :: l29 :: some (aI x) :: L) st μ k n :=
  mj_iincG C (i := 30) hdg hp hd rfl (by simp only [List.length_cons]; omega) hn9 (by intro j w hj h; obtain rfl : j = 29 := (by omega); exact jw_of hw (Option.some.inj h)) K

theorem mj_iinc_31 (C : jCtx l J cc nL own R rt md hh ret thr mc ms) {l0 l1 l2 l3 l4 l5 l6 l7 l8 l9 l10 l11 l12 l13 l14 l15 l16 l17 l18 l19 l20 l21 l22 l23 l24 l25 l26 l27 l28 l29 l30 : Option jV} {d : Int} {w x : Int32} (hdg : decode cc pc = .ok (.iinc 31 d, 3)) (hp : pc + 3 = pc') (hd : Int32.ofInt d = w) (hn9 : 31 < nL) (hw : jw l30 = true) (K : J pc' (l0 :: l1 :: l2 :: l3 :: l4 :: l5 :: l6 :: l7 :: l8 :: l9 :: l10 :: l11 :: l12 :: l13 :: l14 :: l15 :: l16 :: l17 :: l18 :: l19 :: l20 :: l21 :: l22 :: l23 :: l24 :: l25 :: l26 :: l27 :: l28 :: l29 :: l30 :: some (aI (x + w)) :: L) st μ k n) : J pc (l0 :: l1 :: l2 :: l3 :: l4 :: l5 :: l6 :: l7 :: l8 :: l9 :: l10 :: l11 :: l12 :: l13 :: l14 :: l15 :: l16 :: l17 :: l18 :: l19 :: l20 :: l21 :: l22 :: l23 :: l24 :: l25 :: l26 :: l27 :: l28 :: l29 :: l30 :: some (aI x) :: L) st μ k n :=
  mj_iincG C (i := 31) hdg hp hd rfl (by simp only [List.length_cons]; omega) hn9 (by intro j w hj h; obtain rfl : j = 30 := (by omega); exact jw_of hw (Option.some.inj h)) K

theorem mj_iinc_32 (C : jCtx l J cc nL own R rt md hh ret thr mc ms) {l0 l1 l2 l3 l4 l5 l6 l7 l8 l9 l10 l11 l12 l13 l14 l15 l16 l17 l18 l19 l20 l21 l22 l23 l24 l25 l26 l27 l28 l29 l30 l31 : Option jV} {d : Int} {w x : Int32} (hdg : decode cc pc = .ok (.iinc 32 d, 3)) (hp : pc + 3 = pc') (hd : Int32.ofInt d = w) (hn9 : 32 < nL) (hw : jw l31 = true) (K : J pc' (l0 :: l1 :: l2 :: l3 :: l4 :: l5 :: l6 :: l7 :: l8 :: l9 :: l10 :: l11 :: l12 :: l13 :: l14 :: l15 :: l16 :: l17 :: l18 :: l19 :: l20 :: l21 :: l22 :: l23 :: l24 :: l25 :: l26 :: l27 :: l28 :: l29 :: l30 :: l31 :: some (aI (x + w)) :: L) st μ k n) : J pc (l0 :: l1 :: l2 :: l3 :: l4 :: l5 :: l6 :: l7 :: l8 :: l9 :: l10 :: l11 :: l12 :: l13 :: l14 :: l15 :: l16 :: l17 :: l18 :: l19 :: l20 :: l21 :: l22 :: l23 :: l24 :: l25 :: l26 :: l27 :: l28 :: l29 :: l30 :: l31 :: some (aI x) :: L) st μ k n :=
  mj_iincG C (i := 32) hdg hp hd rfl (by simp only [List.length_cons]; omega) hn9 (by intro j w hj h; obtain rfl : j = 31 := (by omega); exact jw_of hw (Option.some.inj h)) K

theorem mj_iinc_33 (C : jCtx l J cc nL own R rt md hh ret thr mc ms) {l0 l1 l2 l3 l4 l5 l6 l7 l8 l9 l10 l11 l12 l13 l14 l15 l16 l17 l18 l19 l20 l21 l22 l23 l24 l25 l26 l27 l28 l29 l30 l31 l32 : Option jV} {d : Int} {w x : Int32} (hdg : decode cc pc = .ok (.iinc 33 d, 3)) (hp : pc + 3 = pc') (hd : Int32.ofInt d = w) (hn9 : 33 < nL) (hw : jw l32 = true) (K : J pc' (l0 :: l1 :: l2 :: l3 :: l4 :: l5 :: l6 :: l7 :: l8 :: l9 :: l10 :: l11 :: l12 :: l13 :: l14 :: l15 :: l16 :: l17 :: l18 :: l19 :: l20 :: l21 :: l22 :: l23 :: l24 :: l25 :: l26 :: l27 :: l28 :: l29 :: l30 :: l31 :: l32 :: some (aI (x + w)) :: L) st μ k n) : J pc (l0 :: l1 :: l2 :: l3 :: l4 :: l5 :: l6 :: l7 :: l8 :: l9 :: l10 :: l11 :: l12 :: l13 :: l14 :: l15 :: l16 :: l17 :: l18 :: l19 :: l20 :: l21 :: l22 :: l23 :: l24 :: l25 :: l26 :: l27 :: l28 :: l29 :: l30 :: l31 :: l32 :: some (aI x) :: L) st μ k n :=
  mj_iincG C (i := 33) hdg hp hd rfl (by simp only [List.length_cons]; omega) hn9 (by intro j w hj h; obtain rfl : j = 32 := (by omega); exact jw_of hw (Option.some.inj h)) K

theorem mj_iinc_34 (C : jCtx l J cc nL own R rt md hh ret thr mc ms) {l0 l1 l2 l3 l4 l5 l6 l7 l8 l9 l10 l11 l12 l13 l14 l15 l16 l17 l18 l19 l20 l21 l22 l23 l24 l25 l26 l27 l28 l29 l30 l31 l32 l33 : Option jV} {d : Int} {w x : Int32} (hdg : decode cc pc = .ok (.iinc 34 d, 3)) (hp : pc + 3 = pc') (hd : Int32.ofInt d = w) (hn9 : 34 < nL) (hw : jw l33 = true) (K : J pc' (l0 :: l1 :: l2 :: l3 :: l4 :: l5 :: l6 :: l7 :: l8 :: l9 :: l10 :: l11 :: l12 :: l13 :: l14 :: l15 :: l16 :: l17 :: l18 :: l19 :: l20 :: l21 :: l22 :: l23 :: l24 :: l25 :: l26 :: l27 :: l28 :: l29 :: l30 :: l31 :: l32 :: l33 :: some (aI (x + w)) :: L) st μ k n) : J pc (l0 :: l1 :: l2 :: l3 :: l4 :: l5 :: l6 :: l7 :: l8 :: l9 :: l10 :: l11 :: l12 :: l13 :: l14 :: l15 :: l16 :: l17 :: l18 :: l19 :: l20 :: l21 :: l22 :: l23 :: l24 :: l25 :: l26 :: l27 :: l28 :: l29 :: l30 :: l31 :: l32 :: l33 :: some (aI x) :: L) st μ k n :=
  mj_iincG C (i := 34) hdg hp hd rfl (by simp only [List.length_cons]; omega) hn9 (by intro j w hj h; obtain rfl : j = 33 := (by omega); exact jw_of hw (Option.some.inj h)) K

theorem mj_iinc_35 (C : jCtx l J cc nL own R rt md hh ret thr mc ms) {l0 l1 l2 l3 l4 l5 l6 l7 l8 l9 l10 l11 l12 l13 l14 l15 l16 l17 l18 l19 l20 l21 l22 l23 l24 l25 l26 l27 l28 l29 l30 l31 l32 l33 l34 : Option jV} {d : Int} {w x : Int32} (hdg : decode cc pc = .ok (.iinc 35 d, 3)) (hp : pc + 3 = pc') (hd : Int32.ofInt d = w) (hn9 : 35 < nL) (hw : jw l34 = true) (K : J pc' (l0 :: l1 :: l2 :: l3 :: l4 :: l5 :: l6 :: l7 :: l8 :: l9 :: l10 :: l11 :: l12 :: l13 :: l14 :: l15 :: l16 :: l17 :: l18 :: l19 :: l20 :: l21 :: l22 :: l23 :: l24 :: l25 :: l26 :: l27 :: l28 :: l29 :: l30 :: l31 :: l32 :: l33 :: l34 :: some (aI (x + w)) :: L) st μ k n) : J pc (l0 :: l1 :: l2 :: l3 :: l4 :: l5 :: l6 :: l7 :: l8 :: l9 :: l10 :: l11 :: l12 :: l13 :: l14 :: l15 :: l16 :: l17 :: l18 :: l19 :: l20 :: l21 :: l22 :: l23 :: l24 :: l25 :: l26 :: l27 :: l28 :: l29 :: l30 :: l31 :: l32 :: l33 :: l34 :: some (aI x) :: L) st μ k n :=
  mj_iincG C (i := 35) hdg hp hd rfl (by simp only [List.length_cons]; omega) hn9 (by intro j w hj h; obtain rfl : j = 34 := (by omega); exact jw_of hw (Option.some.inj h)) K

/-- what is no longer looked at -/
theorem mj_drop (C : jCtx l J cc nL own R rt md hh ret thr mc ms) {i : Nat} (K : J pc (L.set i none) st μ k n) : J pc L st μ k n := by
  obtain ⟨p, e, s, m, args, below, meth, c, D, cm, ad0, μ0, Q, rfl, hx, hb, hml, hrt, hown, hlk, hU, hE⟩ := C
  intro ad H locs ls hT hX hS hL hs hl
  refine K ad H locs ls hT hX hS (jl_setn hL) hs ⟨hl.1, hl.2.1, fun q hq => ?_⟩
  obtain ⟨j, w, hj, rfl⟩ := jLs_of ad _ 0 q hq
  by_cases e : j = i
  · subst e
    by_cases h9 : j < L.length
    · rw [List.getElem?_set_self h9] at hj
      cases hj
    · rw [List.getElem?_eq_none (by rw [List.length_set]; omega)] at hj
      cases hj
  · rw [List.getElem?_set_ne (Ne.symm e)] at hj
    exact hl.2.2 _ (jLs_mem ad L 0 j w hj)
/-- fewer tracked variables -/
theorem mj_less (C : jCtx l J cc nL own R rt md hh ret thr mc ms) {L' : List (Option jV)} (h : ∀ (i : Nat) (v : jV), L'[i]? = some (some v) → L[i]? = some (some v)) (K : J pc L' st μ k n) : J pc L st μ k n := by
  obtain ⟨p, e, s, m, args, below, meth, c, D, cm, ad0, μ0, Q, rfl, hx, hb, hml, hrt, hown, hlk, hU, hE⟩ := C
  intro ad H locs ls hT hX hS hL hs hl
  refine K ad H locs ls hT hX hS (fun v hv => ?_) hs ⟨hl.1, hl.2.1, fun q hq => ?_⟩
  · obtain ⟨i, hi⟩ := List.getElem?_of_mem hv
    exact hL v (List.mem_of_getElem? (h i v hi))
  · obtain ⟨j, w, hj, rfl⟩ := jLs_of ad _ 0 q hq
    exact hl.2.2 _ (jLs_mem ad L 0 j w (h j w hj))
theorem mj_widen (C : jCtx l J cc nL own R rt md hh ret thr mc ms) {k' n' : Nat} (hk : k ≤ k') (hn : n ≤ n') (K : J pc L st μ k' n') : J pc L st μ k n := by
  obtain ⟨p, e, s, m, args, below, meth, c, D, cm, ad0, μ0, Q, rfl, hx, hb, hml, hrt, hown, hlk, hU, hE⟩ := C
  intro ad H locs ls hT hX hS hL hs hl
  exact W.widen hk hn (K ad H locs ls hT hX hS hL hs hl)
end JROWS
