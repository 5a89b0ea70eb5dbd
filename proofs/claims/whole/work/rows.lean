section
-- ===== PART A: goes FIRST, ahead of the names: the tables' words, and 'selects' of the private methods out of them =====
/-- a private method of a class that the tables say can be made, by its rows of tables_1 -/
def lw_okq (q : MethodName × Nat) : Prop := (q.1.cls ≠ "java/lang/invoke/MethodHandle" ∧ q.1.cls ≠ "java/lang/invoke/VarHandle") ∧ Cond.instantiable q.1.cls q.2 ∈ tables_1 ∧ Cond.privateMethod q.1 ∈ tables_1 ∧ Cond.instanceMethod q.1 ∈ tables_1
theorem lw_p0 : lw_okq (⟨"FormatVault", "filesWithHaven", "()J"⟩, 8) := ⟨⟨by decide +kernel, by decide +kernel⟩, List.mem_of_getElem? (i := 17) (by decide +kernel), List.mem_of_getElem? (i := 138) (by decide +kernel), List.mem_of_getElem? (i := 139) (by decide +kernel)⟩
theorem lw_p1 : lw_okq (⟨"FormatVault", "findHaven", "(LFormatVault$StoredFile;)I"⟩, 8) := ⟨⟨by decide +kernel, by decide +kernel⟩, List.mem_of_getElem? (i := 17) (by decide +kernel), List.mem_of_getElem? (i := 142) (by decide +kernel), List.mem_of_getElem? (i := 143) (by decide +kernel)⟩
theorem lw_p2 : lw_okq (⟨"FormatVault", "isSafeIn", "(LFormatVault$StoredFile;I)Z"⟩, 8) := ⟨⟨by decide +kernel, by decide +kernel⟩, List.mem_of_getElem? (i := 17) (by decide +kernel), List.mem_of_getElem? (i := 169) (by decide +kernel), List.mem_of_getElem? (i := 170) (by decide +kernel)⟩
theorem lw_p3 : lw_okq (⟨"FormatVault", "filesThatAreSafe", "()J"⟩, 8) := ⟨⟨by decide +kernel, by decide +kernel⟩, List.mem_of_getElem? (i := 17) (by decide +kernel), List.mem_of_getElem? (i := 177) (by decide +kernel), List.mem_of_getElem? (i := 178) (by decide +kernel)⟩
theorem lw_p4 : lw_okq (⟨"FormatVault", "firstToEnd", "(J)I"⟩, 8) := ⟨⟨by decide +kernel, by decide +kernel⟩, List.mem_of_getElem? (i := 17) (by decide +kernel), List.mem_of_getElem? (i := 182) (by decide +kernel), List.mem_of_getElem? (i := 183) (by decide +kernel)⟩
theorem lw_p5 : lw_okq (⟨"FormatVault", "costOfMove", "(LFormatVault$StoredFile;I)I"⟩, 8) := ⟨⟨by decide +kernel, by decide +kernel⟩, List.mem_of_getElem? (i := 17) (by decide +kernel), List.mem_of_getElem? (i := 187) (by decide +kernel), List.mem_of_getElem? (i := 188) (by decide +kernel)⟩
theorem lw_p6 : lw_okq (⟨"FormatVault", "take", "(LFormatVault$StoredFile;I)V"⟩, 8) := ⟨⟨by decide +kernel, by decide +kernel⟩, List.mem_of_getElem? (i := 17) (by decide +kernel), List.mem_of_getElem? (i := 191) (by decide +kernel), List.mem_of_getElem? (i := 192) (by decide +kernel)⟩
theorem lw_p7 : lw_okq (⟨"java/lang/Throwable", "fillInStackTrace", "(I)Ljava/lang/Throwable;"⟩, 6) := ⟨⟨by decide +kernel, by decide +kernel⟩, List.mem_of_getElem? (i := 258) (by decide +kernel), List.mem_of_getElem? (i := 256) (by decide +kernel), List.mem_of_getElem? (i := 257) (by decide +kernel)⟩
theorem lw_p8 : lw_okq (⟨"FormatVault", "requireReadable", "(I)V"⟩, 8) := ⟨⟨by decide +kernel, by decide +kernel⟩, List.mem_of_getElem? (i := 17) (by decide +kernel), List.mem_of_getElem? (i := 307) (by decide +kernel), List.mem_of_getElem? (i := 308) (by decide +kernel)⟩
theorem lw_p9 : lw_okq (⟨"FormatVault", "isReadable", "(I)Z"⟩, 8) := ⟨⟨by decide +kernel, by decide +kernel⟩, List.mem_of_getElem? (i := 17) (by decide +kernel), List.mem_of_getElem? (i := 311) (by decide +kernel), List.mem_of_getElem? (i := 312) (by decide +kernel)⟩
theorem lw_p10 : lw_okq (⟨"FormatVault$Network", "forgetWays", "()V"⟩, 6) := ⟨⟨by decide +kernel, by decide +kernel⟩, List.mem_of_getElem? (i := 29) (by decide +kernel), List.mem_of_getElem? (i := 378) (by decide +kernel), List.mem_of_getElem? (i := 379) (by decide +kernel)⟩
theorem lw_p11 : lw_okq (⟨"FormatVault", "lawAt", "(I)LFormatVault$Law;"⟩, 8) := ⟨⟨by decide +kernel, by decide +kernel⟩, List.mem_of_getElem? (i := 17) (by decide +kernel), List.mem_of_getElem? (i := 408) (by decide +kernel), List.mem_of_getElem? (i := 409) (by decide +kernel)⟩
theorem lw_p12 : lw_okq (⟨"FormatVault", "fileAt", "(I)LFormatVault$StoredFile;"⟩, 8) := ⟨⟨by decide +kernel, by decide +kernel⟩, List.mem_of_getElem? (i := 17) (by decide +kernel), List.mem_of_getElem? (i := 504) (by decide +kernel), List.mem_of_getElem? (i := 505) (by decide +kernel)⟩
theorem lw_p13 : lw_okq (⟨"FormatVault", "stateInNewYear", "(LFormatVault$StoredFile;)I"⟩, 8) := ⟨⟨by decide +kernel, by decide +kernel⟩, List.mem_of_getElem? (i := 17) (by decide +kernel), List.mem_of_getElem? (i := 589) (by decide +kernel), List.mem_of_getElem? (i := 590) (by decide +kernel)⟩
theorem lw_p14 : lw_okq (⟨"FormatVault", "yearsToPromiseIn", "(I)I"⟩, 8) := ⟨⟨by decide +kernel, by decide +kernel⟩, List.mem_of_getElem? (i := 17) (by decide +kernel), List.mem_of_getElem? (i := 600) (by decide +kernel), List.mem_of_getElem? (i := 601) (by decide +kernel)⟩
theorem lw_p15 : lw_okq (⟨"FormatVaultModel", "fails", "(I)I"⟩, 36) := ⟨⟨by decide +kernel, by decide +kernel⟩, List.mem_of_getElem? (i := 608) (by decide +kernel), List.mem_of_getElem? (i := 738) (by decide +kernel), List.mem_of_getElem? (i := 739) (by decide +kernel)⟩
def lw_privs_1 : List (MethodName × Nat) := [(⟨"FormatVault", "filesWithHaven", "()J"⟩, 8), (⟨"FormatVault", "findHaven", "(LFormatVault$StoredFile;)I"⟩, 8), (⟨"FormatVault", "isSafeIn", "(LFormatVault$StoredFile;I)Z"⟩, 8), (⟨"FormatVault", "filesThatAreSafe", "()J"⟩, 8), (⟨"FormatVault", "firstToEnd", "(J)I"⟩, 8), (⟨"FormatVault", "costOfMove", "(LFormatVault$StoredFile;I)I"⟩, 8), (⟨"FormatVault", "take", "(LFormatVault$StoredFile;I)V"⟩, 8), (⟨"java/lang/Throwable", "fillInStackTrace", "(I)Ljava/lang/Throwable;"⟩, 6), (⟨"FormatVault", "requireReadable", "(I)V"⟩, 8), (⟨"FormatVault", "isReadable", "(I)Z"⟩, 8), (⟨"FormatVault$Network", "forgetWays", "()V"⟩, 6), (⟨"FormatVault", "lawAt", "(I)LFormatVault$Law;"⟩, 8), (⟨"FormatVault", "fileAt", "(I)LFormatVault$StoredFile;"⟩, 8), (⟨"FormatVault", "stateInNewYear", "(LFormatVault$StoredFile;)I"⟩, 8), (⟨"FormatVault", "yearsToPromiseIn", "(I)I"⟩, 8), (⟨"FormatVaultModel", "fails", "(I)I"⟩, 36)]
theorem lw_r1 : ∀ q ∈ lw_privs_1, lw_okq q := List.forall_mem_cons.mpr ⟨lw_p0, List.forall_mem_cons.mpr ⟨lw_p1, List.forall_mem_cons.mpr ⟨lw_p2, List.forall_mem_cons.mpr ⟨lw_p3, List.forall_mem_cons.mpr ⟨lw_p4, List.forall_mem_cons.mpr ⟨lw_p5, List.forall_mem_cons.mpr ⟨lw_p6, List.forall_mem_cons.mpr ⟨lw_p7, List.forall_mem_cons.mpr ⟨lw_p8, List.forall_mem_cons.mpr ⟨lw_p9, List.forall_mem_cons.mpr ⟨lw_p10, List.forall_mem_cons.mpr ⟨lw_p11, List.forall_mem_cons.mpr ⟨lw_p12, List.forall_mem_cons.mpr ⟨lw_p13, List.forall_mem_cons.mpr ⟨lw_p14, List.forall_mem_cons.mpr ⟨lw_p15, fun _ h => absurd h List.not_mem_nil⟩⟩⟩⟩⟩⟩⟩⟩⟩⟩⟩⟩⟩⟩⟩⟩
theorem lw_p16 : lw_okq (⟨"FormatVaultModel", "canBeRead", "(I)Z"⟩, 36) := ⟨⟨by decide +kernel, by decide +kernel⟩, List.mem_of_getElem? (i := 608) (by decide +kernel), List.mem_of_getElem? (i := 742) (by decide +kernel), List.mem_of_getElem? (i := 743) (by decide +kernel)⟩
theorem lw_p17 : lw_okq (⟨"FormatVaultModel", "find", "()V"⟩, 36) := ⟨⟨by decide +kernel, by decide +kernel⟩, List.mem_of_getElem? (i := 608) (by decide +kernel), List.mem_of_getElem? (i := 754) (by decide +kernel), List.mem_of_getElem? (i := 755) (by decide +kernel)⟩
theorem lw_p18 : lw_okq (⟨"FormatVaultModel", "goAll", "(II)I"⟩, 36) := ⟨⟨by decide +kernel, by decide +kernel⟩, List.mem_of_getElem? (i := 608) (by decide +kernel), List.mem_of_getElem? (i := 758) (by decide +kernel), List.mem_of_getElem? (i := 759) (by decide +kernel)⟩
theorem lw_p19 : lw_okq (⟨"FormatVaultModel", "offer", "(IIII)V"⟩, 36) := ⟨⟨by decide +kernel, by decide +kernel⟩, List.mem_of_getElem? (i := 608) (by decide +kernel), List.mem_of_getElem? (i := 762) (by decide +kernel), List.mem_of_getElem? (i := 763) (by decide +kernel)⟩
theorem lw_p20 : lw_okq (⟨"FormatVaultModel", "nextFrom", "(II)I"⟩, 36) := ⟨⟨by decide +kernel, by decide +kernel⟩, List.mem_of_getElem? (i := 608) (by decide +kernel), List.mem_of_getElem? (i := 766) (by decide +kernel), List.mem_of_getElem? (i := 767) (by decide +kernel)⟩
theorem lw_p21 : lw_okq (⟨"FormatVaultModel", "havenOf", "(I)I"⟩, 36) := ⟨⟨by decide +kernel, by decide +kernel⟩, List.mem_of_getElem? (i := 608) (by decide +kernel), List.mem_of_getElem? (i := 773) (by decide +kernel), List.mem_of_getElem? (i := 774) (by decide +kernel)⟩
theorem lw_p22 : lw_okq (⟨"FormatVaultModel", "along", "(II)I"⟩, 36) := ⟨⟨by decide +kernel, by decide +kernel⟩, List.mem_of_getElem? (i := 608) (by decide +kernel), List.mem_of_getElem? (i := 777) (by decide +kernel), List.mem_of_getElem? (i := 778) (by decide +kernel)⟩
theorem lw_p23 : lw_okq (⟨"FormatVaultModel", "isSafeIn", "(II)Z"⟩, 36) := ⟨⟨by decide +kernel, by decide +kernel⟩, List.mem_of_getElem? (i := 608) (by decide +kernel), List.mem_of_getElem? (i := 781) (by decide +kernel), List.mem_of_getElem? (i := 782) (by decide +kernel)⟩
theorem lw_p24 : lw_okq (⟨"FormatVaultModel", "isNoFile", "(I)Z"⟩, 36) := ⟨⟨by decide +kernel, by decide +kernel⟩, List.mem_of_getElem? (i := 608) (by decide +kernel), List.mem_of_getElem? (i := 813) (by decide +kernel), List.mem_of_getElem? (i := 814) (by decide +kernel)⟩
theorem lw_p25 : lw_okq (⟨"FormatVaultModel", "affords", "(II)Z"⟩, 36) := ⟨⟨by decide +kernel, by decide +kernel⟩, List.mem_of_getElem? (i := 608) (by decide +kernel), List.mem_of_getElem? (i := 825) (by decide +kernel), List.mem_of_getElem? (i := 826) (by decide +kernel)⟩
theorem lw_p26 : lw_okq (⟨"FormatVaultModel", "take", "(II)V"⟩, 36) := ⟨⟨by decide +kernel, by decide +kernel⟩, List.mem_of_getElem? (i := 608) (by decide +kernel), List.mem_of_getElem? (i := 829) (by decide +kernel), List.mem_of_getElem? (i := 830) (by decide +kernel)⟩
theorem lw_p27 : lw_okq (⟨"FormatVaultModel", "nextDue", "()I"⟩, 36) := ⟨⟨by decide +kernel, by decide +kernel⟩, List.mem_of_getElem? (i := 608) (by decide +kernel), List.mem_of_getElem? (i := 837) (by decide +kernel), List.mem_of_getElem? (i := 838) (by decide +kernel)⟩
def lw_privs_2 : List (MethodName × Nat) := [(⟨"FormatVaultModel", "canBeRead", "(I)Z"⟩, 36), (⟨"FormatVaultModel", "find", "()V"⟩, 36), (⟨"FormatVaultModel", "goAll", "(II)I"⟩, 36), (⟨"FormatVaultModel", "offer", "(IIII)V"⟩, 36), (⟨"FormatVaultModel", "nextFrom", "(II)I"⟩, 36), (⟨"FormatVaultModel", "havenOf", "(I)I"⟩, 36), (⟨"FormatVaultModel", "along", "(II)I"⟩, 36), (⟨"FormatVaultModel", "isSafeIn", "(II)Z"⟩, 36), (⟨"FormatVaultModel", "isNoFile", "(I)Z"⟩, 36), (⟨"FormatVaultModel", "affords", "(II)Z"⟩, 36), (⟨"FormatVaultModel", "take", "(II)V"⟩, 36), (⟨"FormatVaultModel", "nextDue", "()I"⟩, 36)]
theorem lw_r2 : ∀ q ∈ lw_privs_2, lw_okq q := List.forall_mem_cons.mpr ⟨lw_p16, List.forall_mem_cons.mpr ⟨lw_p17, List.forall_mem_cons.mpr ⟨lw_p18, List.forall_mem_cons.mpr ⟨lw_p19, List.forall_mem_cons.mpr ⟨lw_p20, List.forall_mem_cons.mpr ⟨lw_p21, List.forall_mem_cons.mpr ⟨lw_p22, List.forall_mem_cons.mpr ⟨lw_p23, List.forall_mem_cons.mpr ⟨lw_p24, List.forall_mem_cons.mpr ⟨lw_p25, List.forall_mem_cons.mpr ⟨lw_p26, List.forall_mem_cons.mpr ⟨lw_p27, fun _ h => absurd h List.not_mem_nil⟩⟩⟩⟩⟩⟩⟩⟩⟩⟩⟩⟩
def lw_privs : List (MethodName × Nat) := lw_privs_1 ++ (lw_privs_2)
def lw_tbl : List Cond := k2_sels lw_privs ++ tables_1
theorem lw_privs_ok : ∀ q ∈ lw_privs, lw_okq q := by
  show ∀ q ∈ lw_privs_1 ++ (lw_privs_2), lw_okq q
  exact List.forall_mem_append.mpr ⟨lw_r1, lw_r2⟩
-- ===== end of PART A; then your names; then what follows =====
end
section
/-- the word of an array whose components are arrays, read without arguments (the printed law va_mna speaks of it) -/
def va_AOA (ty : FieldType) (U : State) : Prop := (Cond.arrayOver (.array ty)).before #[] U = true
theorem va_AOA.use {ty : FieldType} {A : Array Value} {U : State} (h : va_AOA ty U) : (Cond.arrayOver (.array ty)).before A U = true := h
/-! ===== BEGIN words of one list among another's, by their places ===== -/
theorem goodIn_r {big : List Cond} (ws : List Cond) (ps : List Nat) (hp : ws = ps.filterMap (fun i => big[i]?)) (h : ws.all goodWord = true) : GoodIn big ws := by
  intro w hw
  have h1 := List.all_eq_true.mp h w hw
  rw [hp] at hw
  obtain ⟨i, -, hi⟩ := List.mem_filterMap.mp hw
  have hm : w ∈ big := by first | exact List.mem_of_getElem? hi | exact List.getElem?_mem hi
  exact ⟨hm, good_of_word h1⟩
theorem goodIn_app {big a b : List Cond} (ha : GoodIn big a) (hb : GoodIn big b) : GoodIn big (a ++ b) := fun w h => (List.mem_append.mp h).elim (ha w) (hb w)
theorem goodIn_ca {big a b : List Cond} {c : Cond} (ha : GoodIn big (c :: a)) (hb : GoodIn big b) : GoodIn big (c :: (a ++ b)) := fun w h => (List.mem_cons.mp h).elim (fun e => ha w (List.mem_cons.mpr (Or.inl e))) (fun h => (List.mem_append.mp h).elim (fun h => ha w (List.mem_cons.mpr (Or.inr h))) (hb w))
theorem goodIn_sub {big ws : List Cond} (hm : ∀ w ∈ ws, w ∈ big) (h : ws.all goodWord = true) : GoodIn big ws := fun w hw => ⟨hm w hw, good_of_word (List.all_eq_true.mp h w hw)⟩
/-! ===== END ===== -/

/-! ===== BEGIN new T[n][m]: the outer array a place, the inner ones among the pooled ===== -/
/-- f, but v at every address of l -/
def vr_up {α : Type} (f : Nat → α) (l : List Nat) (v : α) : Nat → α := fun a => if a ∈ l then v else f a
theorem vr_up_in {α : Type} {f : Nat → α} {l : List Nat} {v : α} {a : Nat} (h : a ∈ l) : vr_up f l v a = v := if_pos h
theorem vr_up_ne {α : Type} {f : Nat → α} {l : List Nat} {v : α} {a : Nat} (h : a ∉ l) : vr_up f l v a = f a := if_neg h
theorem vr_rows {L l : List Nat} {f : Nat → va_E} {e : va_E} (h : ∀ a, a ∈ l → a ∉ L) : va_pl L f ++ l.map (fun a => (a, e)) = va_pl (L ++ l) (vr_up f l e) := by
  unfold va_pl
  rw [List.map_append]
  congr 1
  · apply List.map_congr_left
    intro a ha
    rw [vr_up_ne (fun q => h a q ha)]
  · apply List.map_congr_left
    intro a ha
    rw [vr_up_in ha]
theorem vr_lay {X rows : va_W} {x : Nat × va_E} {pl : va_W} {D : va_G} {cl : List vw_C} {H : Heap} (hP : va_P D cl (((X ++ pl) ++ [x]) ++ rows) H) : va_P D cl ((X ++ [x]) ++ (pl ++ rows)) H := by
  rw [List.append_assoc (X ++ pl)] at hP
  have h := va_P.swap hP
  rw [← List.append_assoc X] at h
  have h2 := va_P.swap h
  rw [List.append_assoc (X ++ [x])] at h2
  exact h2
theorem vr_layD {X rows : va_W} {x : Nat × va_E} {pl : va_W} {A : Nat → Prop} (hD : va_D A (((X ++ pl) ++ [x]) ++ rows)) : va_D A ((X ++ [x]) ++ (pl ++ rows)) := by
  rw [List.append_assoc (X ++ pl)] at hD
  have h := va_D.swap hD
  rw [← List.append_assoc X] at h
  have h2 := va_D.swap h
  rw [List.append_assoc (X ++ [x])] at h2
  exact h2
theorem vr_outer (c : ClassId) (N h0 : Nat) : ∀ i : Nat, Jvm.Free.Multi.outerC c N h0 i = arrV c N (fun j => va_rf (if j < i then some (h0 + 1 + j) else none))
  | 0 => by
    show ({ cls := c, slots := Array.replicate N .null, vm := .none } : Cell) = _
    rw [arrV_new]
    refine congrArg (arrV c N) (funext fun j => ?_)
    simp [va_rf]
  | i + 1 => by
    show (Jvm.Free.Multi.outerC c N h0 i).setSlot i (.ref (h0 + 1 + i)) = _
    rw [vr_outer c N h0 i, arrV_store]
    refine congrArg (arrV c N) (funext fun j => ?_)
    by_cases e : j = i
    · subst e
      simp [updV, va_rf]
    · by_cases h : j < i
      · simp [updV, e, h, Nat.lt_succ_of_lt h]
      · simp [updV, e, h, show ¬ j < i + 1 by omega]
section VGM
variable {p : Program} {l : Launch} {e : Env} {R : Room} {s : State} {m : MethodId} {args : Array Value} {below : List Frame} {meth : Method} {c : Code} {H : Heap} {locs : List Loc} {cells slots : Nat} {Q : State → Prop}
variable {cc : ByteArray} {pc : Nat} {ls : Array Slot} {rest : List Value} {D : va_G} {cl : List vw_C} {A : Nat → Prop} {a : Nat} {tys : List (ClassId × FieldType)} {ws : va_W} {H0 : Heap}
theorem va_mna {X : va_W} {L : List Nat} {f : Nat → va_E} {cc : ByteArray} (hexec : p.tables.exec = Jvm.exec) (hb : c.code = cc) {own : String} {index : Nat} {ty : FieldType} {cy : ClassId} (hown : s.vm.findClass own = some m.cls) (hclink : (Cond.classLink own index ("[" ++ (FieldType.array ty).toString)).before args s = true) (hover : va_AOA ty s) (harr : (Cond.arrayClass ty).before args s = true) (hcy : s.vm.findClass (FieldType.array ty).toString = some cy)
    (hK : va_K D cl tys s) (hP : va_P D cl (X ++ va_pl L f) H) (hD : va_D A (X ++ va_pl L f)) (hS : va_S A H0 H locs) (hA : ∀ q, H0.size ≤ q → A q) {n k : Int32} {N' K' : Nat} {z : vp_A} (hn : ¬ n < 0) (hk : ¬ k < 0) (hN : n.toNatClampNeg = N') (hM : k.toNatClampNeg = K')
    (hb1 : N' * 4 ≤ 536870912) (hb2 : K' * componentBytes ty ≤ 536870912) (hb3 : K' ≤ 536870912) (hdf : fits ty (defaultValue ty) = true) (hdd : (defaultValue ty).isDefault = true) (hcells : cells + (1 + N') ≤ R.cells) (hslots : slots + (N' + N' * K') ≤ R.slots) (hz : ∀ c : ClassId, Jvm.Free.Multi.innerC c K' (defaultValue ty) = vp_cell c z) (hdg : decode cc pc = .ok (.multianewarray index 2, 4))
    (kk : ∀ (q : Nat) (r : Nat → Nat) (cA : ClassId) (H1 : Heap), (∀ i j : Nat, i < N' → j < N' → r i = r j → i = j) → (∀ i : Nat, i < N' → r i ∉ L) → va_K D cl (tys ++ [(cA, .array ty)]) s →
      va_P D cl ((X ++ [(q, .inl (cA, N', .inr (.inr (.inr (.inr (fun i => if i < N' then some (r i) else none))))))]) ++ va_pl (L ++ (List.range N').map r) (vr_up f ((List.range N').map r) (.inl (cy, z)))) H1 → va_D A ((X ++ [(q, .inl (cA, N', .inr (.inr (.inr (.inr (fun i => if i < N' then some (r i) else none))))))]) ++ va_pl (L ++ (List.range N').map r) (vr_up f ((List.range N').map r) (.inl (cy, z)))) → va_S A H0 H1 locs →
      W p l e R s m args below meth c H1 locs (cells + 1 + N') (slots + N' + N' * K') Q (F0 m (pc + 4) ls (.ref q :: rest))) : W p l e R s m args below meth c H locs cells slots Q (F0 m pc ls (.int k :: .int n :: rest)) := by
  subst hN
  subst hM
  intro T hT Xs
  obtain ⟨vm₁, cA, comp, -, fA, fC, hO, -, X', step⟩ := Xs.multianewarray2F hexec hown hclink (va_AOA.use hover) harr (g := F0 m pc ls (.int k :: .int n :: rest)) rfl (by rw [hb]; exact hdg) rfl hn hk hb1 hb2 hb3 hdf hdd hcells hslots
  have ec : some cy = some comp := hcy.symm.trans fC
  cases ec
  generalize hF : Jvm.Free.Multi.fill (T.setVm vm₁) cA cy n.toNatClampNeg k.toNatClampNeg (defaultValue ty) n.toNatClampNeg = F at X' step
  have hTh : (T.setVm vm₁).heap = H := hT
  obtain ⟨f1, f2, -, -⟩ := Jvm.Free.Multi.fill_facts (T.setVm vm₁) cA cy n.toNatClampNeg k.toNatClampNeg (defaultValue ty) n.toNatClampNeg
  rw [hF, hTh] at f1 f2
  have hold : ∀ x : Nat, x < H.size → F.heap[x]? = H[x]? := fun x hx => by
    have := Jvm.Free.Multi.fill_old (T.setVm vm₁) cA cy n.toNatClampNeg k.toNatClampNeg (defaultValue ty) (a := x) (by rw [hTh]; exact hx) n.toNatClampNeg
    rw [hF, hTh] at this
    exact this
  have hrow : ∀ j : Nat, j < n.toNatClampNeg → F.heap[H.size + 1 + j]? = some (vp_cell cy z) := fun j hj => by
    have := Jvm.Free.Multi.fill_inner (T.setVm vm₁) cA cy n.toNatClampNeg k.toNatClampNeg (defaultValue ty) n.toNatClampNeg j hj
    rw [hF, hTh, hz] at this
    exact this
  have hout : Jvm.Free.Multi.outerC cA n.toNatClampNeg H.size n.toNatClampNeg = vp_cell cA (n.toNatClampNeg, .inr (.inr (.inr (.inr (fun i => if i < n.toNatClampNeg then some (H.size + 1 + i) else none))))) := by
    rw [vp_cell_q]
    exact vr_outer cA n.toNatClampNeg H.size n.toNatClampNeg
  rw [hout] at f2
  have hlt : ∀ a, a ∈ L → a < H.size := fun a ha => by
    obtain ⟨k9, hk9⟩ := va_pl_get (X := X) (f := f) ha
    exact (hP k9 _ hk9).lt
  have hnl : ∀ i : Nat, i < n.toNatClampNeg → H.size + 1 + i ∉ L := fun i _ h => by
    have := hlt _ h
    omega
  have hnm : ∀ a, a ∈ (List.range n.toNatClampNeg).map (fun i => H.size + 1 + i) → a ∉ L := fun a ha h => by
    obtain ⟨i, -, rfl⟩ := List.mem_map.mp ha
    have := hlt _ h
    omega
  have hP0 : va_P D cl (X ++ va_pl L f) F.heap := hP.kept (fun k9 x hx => hold x.1 ((hP k9 x hx).lt))
  have hP1 : va_P D cl ((X ++ va_pl L f) ++ [(H.size, .inl (cA, n.toNatClampNeg, .inr (.inr (.inr (.inr (fun i => if i < n.toNatClampNeg then some (H.size + 1 + i) else none))))))]) F.heap := hP0.app (fun k9 x hx => by
    have h0 : k9 < 1 := (List.getElem?_eq_some_iff.mp hx).1
    rw [show k9 = 0 by omega] at hx
    cases hx
    exact f2)
  have hP2 : va_P D cl (((X ++ va_pl L f) ++ [(H.size, .inl (cA, n.toNatClampNeg, .inr (.inr (.inr (.inr (fun i => if i < n.toNatClampNeg then some (H.size + 1 + i) else none))))))]) ++ ((List.range n.toNatClampNeg).map (fun i => H.size + 1 + i)).map (fun a => (a, .inl (cy, z)))) F.heap := hP1.app (fun k9 x hx => by
    obtain ⟨a, ha, rfl⟩ := List.mem_map.mp (List.mem_of_getElem? hx)
    obtain ⟨i, hi, rfl⟩ := List.mem_map.mp ha
    exact hrow i (List.mem_range.mp hi))
  have hD2 : va_D A (((X ++ va_pl L f) ++ [(H.size, .inl (cA, n.toNatClampNeg, .inr (.inr (.inr (.inr (fun i => if i < n.toNatClampNeg then some (H.size + 1 + i) else none))))))]) ++ ((List.range n.toNatClampNeg).map (fun i => H.size + 1 + i)).map (fun a => (a, .inl (cy, z)))) := by
    have hD1 := hD.push (e := .inl (cA, n.toNatClampNeg, .inr (.inr (.inr (.inr (fun i => if i < n.toNatClampNeg then some (H.size + 1 + i) else none)))))) hP rfl (hA _ hS.1)
    generalize hW1 : (X ++ va_pl L f) ++ [(H.size, .inl (cA, n.toNatClampNeg, .inr (.inr (.inr (.inr (fun i => if i < n.toNatClampNeg then some (H.size + 1 + i) else none))))))] = W1 at hD1 hP1 ⊢
    have hle : ∀ (k9 : Nat) (x : Nat × va_E), W1[k9]? = some x → x.1 ≤ H.size := fun k9 x hx => by
      rw [← hW1] at hx
      by_cases hl : k9 < (X ++ va_pl L f).length
      · rw [List.getElem?_append_left hl] at hx
        exact Nat.le_of_lt ((hP k9 x hx).lt)
      · rw [List.getElem?_append_right (by omega)] at hx
        have h0 : k9 - (X ++ va_pl L f).length < 1 := (List.getElem?_eq_some_iff.mp hx).1
        rw [show k9 - (X ++ va_pl L f).length = 0 by omega] at hx
        cases hx
        exact Nat.le_refl _
    have hr : ∀ (k9 : Nat) (x : Nat × va_E), (((List.range n.toNatClampNeg).map (fun i => H.size + 1 + i)).map (fun a => ((a, .inl (cy, z)) : Nat × va_E)))[k9]? = some x → x.1 = H.size + 1 + k9 := fun k9 x hx => by
      rw [List.getElem?_map, List.getElem?_map] at hx
      by_cases h9 : k9 < n.toNatClampNeg
      · rw [List.getElem?_range h9] at hx
        cases hx
        rfl
      · have hn0 : (List.range n.toNatClampNeg)[k9]? = none := List.getElem?_eq_none (by rw [List.length_range]; omega)
        rw [hn0] at hx
        cases hx
    refine ⟨fun i j x y hi hj hxy => ?_, fun k9 x hx => ?_⟩
    · by_cases h1 : i < W1.length <;> by_cases h2 : j < W1.length
      · rw [List.getElem?_append_left h1] at hi
        rw [List.getElem?_append_left h2] at hj
        exact hD1.1 i j x y hi hj hxy
      · rw [List.getElem?_append_left h1] at hi
        rw [List.getElem?_append_right (by omega)] at hj
        have := hle _ _ hi
        have := hr _ _ hj
        omega
      · rw [List.getElem?_append_right (by omega)] at hi
        rw [List.getElem?_append_left h2] at hj
        have := hle _ _ hj
        have := hr _ _ hi
        omega
      · rw [List.getElem?_append_right (by omega)] at hi hj
        have := hr _ _ hi
        have := hr _ _ hj
        omega
    · by_cases h1 : k9 < W1.length
      · rw [List.getElem?_append_left h1] at hx
        exact hD1.2 k9 x hx
      · rw [List.getElem?_append_right (by omega)] at hx
        have := hr _ _ hx
        exact hA _ (by have := hS.1; omega)
  have hAr : ArrOfT s cA (.array ty) := fun N9 z9 => by
    obtain ⟨-, k9, hk9, cm9, hkk9⟩ := (hO 0 0 0).1
    exact ⟨(fun q hq => by cases hq), k9, hk9, cm9, hkk9⟩
  have hK2 : va_K D cl (tys ++ [(cA, .array ty)]) s := ⟨hK.1, fun k9 x hx => by
    by_cases hl : k9 < tys.length
    · rw [List.getElem?_append_left hl] at hx
      exact hK.2 k9 x hx
    · rw [List.getElem?_append_right (by omega)] at hx
      have h0 : k9 - tys.length < 1 := (List.getElem?_eq_some_iff.mp hx).1
      rw [show k9 - tys.length = 0 by omega] at hx
      cases hx
      exact ⟨hAr, fA⟩⟩
  obtain ⟨t, a1, b1⟩ := kk H.size (fun i => H.size + 1 + i) cA F.heap (fun i j _ _ h => by have h9 : H.size + 1 + i = H.size + 1 + j := h; omega) hnl hK2 (by rw [← vr_rows hnm]; exact vr_lay hP2) (by rw [← vr_rows hnm]; exact vr_layD hD2) ⟨by rw [f1]; have := hS.1; omega, fun x h1 h2 => (hold x (Nat.lt_of_lt_of_le h1 hS.1)).trans (hS.2.1 x h1 h2), hS.2.2⟩ F rfl X'
  refine ⟨t, step t ?_, b1⟩
  have e : T.heap.size = H.size := by rw [hT]
  rw [e]
  exact a1
end VGM
/-! ===== END ===== -/

/-! ===== BEGIN exceptions that leave a method, and their catching by the caller (launches without stack traces) ===== -/
section VXA
/-! The laws vx_back, vx_callV, vx_callS, vx_callSW, vx_throw0, vx_throwS follow proofs of the library, with one case more: JvmDerived/Free/Laws.lean (Back.of_free), Shelf42/LK1.lean (callV, callS), Shelf/KitTraced.lean (throwNew0V, throwNewS). -/
/-- where a method has thrown q: the class by its name, the cell, what was written, the world -/
def vx_T (XC : String → State → State → Prop) (st : State) (q : Addr) (t : State) (mc ms : Nat) (free : Addr → Prop) : Prop :=
  ∃ (E : String) (ce : Cell) (L : List Loc), XC E st t ∧ t.heap[q]? = some ce ∧ ce.vm = .none ∧ st.vm.findClass E = some ce.cls ∧ st.WarmedH t.vm ∧ st.sameButNew ({ t with vm := st.vm } : State) L mc ms ∧ ∀ z ∈ L, free z.base
def vx_Q (Qc : Array Value → State → Outcome → State → Prop) (XC : String → State → State → Prop) (mc ms : Nat) (free : Addr → Prop) : Array Value → State → Outcome → State → Prop := fun a st o t =>
  (Qc a st o t ∧ ∃ L, FrameEnd st o t L mc ms ∧ ∀ q ∈ L, free q.base) ∨ ∃ q, o = .threw q ∧ vx_T XC st q t mc ms free
/-- a callee that returns or throws -/
def vx_Met (l : Launch) (y : MethodName) (ws : List Cond) (rm : Room) (Pc : Array Value → State → Prop) (Qc : Array Value → State → Outcome → State → Prop) (XC : String → State → State → Prop) (mc ms : Nat) (free : Addr → Prop) : Prop :=
  MetFree l y (headSpec ws rm) Pc (fun _ _ _ _ _ => True) (vx_Q Qc XC mc ms free)
def vx_Post (XC : String → State → State → Prop) (mc ms : Nat) (free : Addr → Prop) : Pt → Array Value → Addr → Pt → Prop := fun A a q B =>
  ∃ (g : JFrame) (mk : MethodId) (t : State) (L : List Loc) (E : String) (ce : Cell), B.U.heap = t.heap ∧ B.U.vm = t.vm ∧ XC E (A.U.calling g mk a) t ∧ t.heap[q]? = some ce ∧ ce.vm = .none ∧ A.U.vm.findClass E = some ce.cls ∧ B.locs = A.locs ++ L ∧ (∀ z ∈ L, free z.base) ∧ B.cells = A.cells + mc ∧ B.slots = A.slots + ms
def vx_Back (l : Launch) (R : Room) (p : Program) (e : Env) (below : List Frame) (s : State) (sargs : Array Value) (y : MethodName) (len W9 : Nat)
    (Pre : Pt → Array Value → Prop) (Post : Pt → Array Value → Option Value → Pt → Prop) (PostX : Pt → Array Value → Addr → Pt → Prop) : Prop :=
  ∀ (m : MethodId) (meth : Method) (c : Code) (A : Pt) (g : JFrame) (ig : Instr) (mk : MethodId) (a : Array Value),
    Stand p l e R s m sargs below meth c A.U A.locs A.cells A.slots → g.method = m → g.locals.size = c.maxLocals → decode c.code g.pc = .ok (ig, len) →
    2 * g.monitorRoom + (g.stack.map fun v => v.category).sum ≤ W9 → A.U.methodNamed? y = some mk → Pre A a →
    (∃ (v : Option Value) (B : Pt), Stand p l e R s m sargs below meth c B.U B.locs B.cells B.slots ∧ Post A a v B ∧
      Steps p.tables e below (doInvoke e (A.U.setTop g) [] mk a).1 (B.U.setTop { g with pc := g.pc + len, stack := v.toList ++ g.stack })) ∨
    (∃ (q : Addr) (B : Pt), Stand p l e R s m sargs below meth c B.U B.locs B.cells B.slots ∧ PostX A a q B ∧
      Steps p.tables e below (doInvoke e (A.U.setTop g) [] mk a).1 ((B.U.setTop g).pushFrame (.throwing q)))
section Payer
variable {l : Launch} {R : Room} {p : Program} {e : Env} {below : List Frame} {s : State} {sargs : Array Value} {y : MethodName} {len W9 : Nat}
theorem vx_back {ws : List Cond} {rm : Room} {Pc : Array Value → State → Prop} {Qc : Array Value → State → Outcome → State → Prop} {XC : String → State → State → Prop} {mc ms : Nat} {free : Addr → Prop} {bytes : ByteArray} {maxL : Nat} {ret : Option FieldType}
    (hM : vx_Met l y ws rm Pc Qc XC mc ms free) (hblind : FrameBlind Pc) (hrc : rm.cells = mc) (hrs : rm.slots = ms)
    (hframes : rm.frames + 1 ≤ R.frames) (hlocals : W9 + (maxL + 11) + rm.locals ≤ R.locals)
    (hws : ∀ w ∈ ws, ∀ a' U, s.WarmedH U.vm → w.before a' U = true) (hcode : Cond.code y bytes maxL ret ∈ ws) (hinit : ∀ a' U, s.WarmedH U.vm → (Cond.initialized y.cls).before a' U = true) :
    vx_Back l R p e below s sargs y len W9 (PreOf R mc ms Pc) (PostOf Qc mc ms free) (vx_Post XC mc ms free) := by
  intro m meth c A g ig mk a X hg hsize hdg hW hn hp
  have h1 : (headSpec ws rm).pre.before a A.U = true := atoms_intro fun w hw => hws w hw _ _ X.warmed
  have h2 : (Cond.code y bytes maxL ret).before a A.U = true := hws _ hcode _ _ X.warmed
  have h3 : (Cond.initialized y.cls).before a A.U = true := hinit _ _ X.warmed
  have h4 : A.cells + (headSpec ws rm).room.cells ≤ R.cells := by rw [show (headSpec ws rm).room.cells = mc from hrc]; exact hp.1
  have h5 : A.slots + (headSpec ws rm).room.slots ≤ R.slots := by rw [show (headSpec ws rm).room.slots = ms from hrs]; exact hp.2.1
  have hPc : Pc a (A.U.calling g mk a) := hblind _ _ _ _ hp.2.2
  obtain ⟨U, Ls, c0, s0⟩ := A
  dsimp only [Pt.U, Pt.locs, Pt.cells, Pt.slots] at h1 h2 h3 h4 h5 X hn hPc ⊢
  obtain ⟨methY, cY, hmY, hcY, -, hlY, -, -, -, -⟩ := Cond.code_spec hn h2
  obtain ⟨kY, hkY, -⟩ := className_of_methodNamed hn
  have hinitY : kY.init = .initialized := Cond.initialized_spec (findClass_of_methodNamed hn) hkY h3
  have h : At U g.method c below := by rw [hg]; exact X.here
  have hlocals9 : W9 + (maxL + 11) + (headSpec ws rm).room.locals ≤ R.locals := hlocals
  have happ : (headSpec ws rm).appliesLoose y e.platform (U.calling g mk a) = true :=
    Spec.appliesLoose_calling (g := g) h hdg hn hkY hinitY
      (X.room_calling (g := g) (R' := (headSpec ws rm).room) hsize hmY hcY hframes (by rw [hlY]; omega) h4 h5) h1
  obtain ⟨mid, hmid⟩ := h.above
  have hfr : (U.setTop g).frames = (.java g :: mid) ++ below := by rw [State.frames_setTop' g h.top, hmid]; rfl
  obtain ⟨o, s₂, hsteps, -, hend, hq⟩ := Steps.callFree hM p X.admits X.cas X.clock (acts := []) hfr happ hPc trivial
  have hq' : vx_Q Qc XC mc ms free a (U.calling g mk a) o s₂ := hq
  rw [State.frames_setTop' g h.top] at hend
  obtain ⟨g₀, hg0⟩ := Option.isSome_iff_exists.mp h.top
  obtain ⟨r, hr⟩ := State.topJava?_eq_some.mp hg0
  have hr' : (({ U with heap := s₂.heap, slotsUsed := s₂.slotsUsed } : State).setVm s₂.vm).frames = .java g₀ :: r := hr
  rcases hq' with ⟨hqc, L, hfe, hL⟩ | ⟨q, rfl, E, ce, L, hx, hce, hcv, hcl, hW₂, hsm, hL⟩
  · obtain ⟨⟨v, rfl⟩, hW₂, e2, q2, q3, q4, q5, q6⟩ := id hfe
    have e3 : s₂ = ({ (U.calling g mk a).setFrames s₂.frames with heap := s₂.heap, slotsUsed := s₂.slotsUsed } : State).setVm s₂.vm := by
      have : s₂ = ({ s₂ with vm := (U.calling g mk a).vm } : State).setVm s₂.vm := rfl
      rw [e2] at this
      exact this
    obtain ⟨c₂, i₂, len₂, hc₂, hd₂, hf₂⟩ := hend
    have hW' : U.WarmedH s₂.vm := hW₂
    have hcc : c₂ = c := by
      have h1 : s₂.code? g.method = U.code? g.method := by
        rw [State.code?_eq, State.code?_eq, hW'.alike.method?]
      exact Option.some.inj (hc₂.symm.trans (h1.trans h.code))
    subst hcc
    have hlen : len₂ = len := by rw [hdg] at hd₂; cases hd₂; rfl
    subst hlen
    have hs₂ : s₂ = (({ U with heap := s₂.heap, slotsUsed := s₂.slotsUsed } : State).setVm s₂.vm).setTop { g with pc := g.pc + len₂, stack := v.toList ++ g.stack } := by
      refine e3.trans ?_
      rw [hf₂, State.calling_eq h.top, State.setFrames_setFrames, State.setTop_of_frames _ hr', hr]
      rfl
    have hsame : U.sameButNew ({ U with heap := s₂.heap, slotsUsed := s₂.slotsUsed } : State) L mc ms := by
      refine ⟨?_, q2, q3, q4, q5, q6⟩
      obtain ⟨t, ht, -⟩ := State.frames_cons hr
      show ({ U with heap := s₂.heap, slotsUsed := s₂.slotsUsed } : State) = { U.setFrames U.frames with heap := s₂.heap, slotsUsed := s₂.slotsUsed }
      rw [State.setFrames_self ht]
    subst hg
    refine Or.inl ⟨v, ⟨(({ U with heap := s₂.heap, slotsUsed := s₂.slotsUsed } : State).setVm s₂.vm), Ls ++ L, c0 + mc, s0 + ms⟩,
      ⟨X.admits, X.cas, X.clock, X.frames, X.room, X.hears, X.method, X.code, (X.here.setHeapUsed s₂.heap s₂.slotsUsed).setVm hW'.alike, X.tail, State.WarmedH.trans X.warmed hW', X.limits, X.bytes, X.same.trans (hsame.setVm s.vm)⟩,
      ⟨g, mk, s₂, L, rfl, rfl, hqc, rfl, hL, rfl, rfl⟩, ?_⟩
    show Steps p.tables e below _ ((({ U with heap := s₂.heap, slotsUsed := s₂.slotsUsed } : State).setVm s₂.vm).setTop { g with pc := g.pc + len₂, stack := v.toList ++ g.stack })
    rw [← hs₂]
    exact hsteps
  · obtain ⟨e2, q2, q3, q4, q5, q6⟩ := id hsm
    have e3 : s₂ = ({ (U.calling g mk a).setFrames s₂.frames with heap := s₂.heap, slotsUsed := s₂.slotsUsed } : State).setVm s₂.vm := by
      have : s₂ = ({ s₂ with vm := (U.calling g mk a).vm } : State).setVm s₂.vm := rfl
      rw [e2] at this
      exact this
    have hf₂ : s₂.frames = .throwing q :: .java g :: U.frames.tail := hend
    have hW' : U.WarmedH s₂.vm := hW₂
    have hs₂ : s₂ = ((({ U with heap := s₂.heap, slotsUsed := s₂.slotsUsed } : State).setVm s₂.vm).setTop g).pushFrame (.throwing q) := by
      refine e3.trans ?_
      rw [hf₂, State.calling_eq h.top, State.setFrames_setFrames, State.pushFrame, State.frames_setTop _ hr', State.setTop_of_frames _ hr', State.setFrames_setFrames, hr]
      rfl
    have hsame : U.sameButNew ({ U with heap := s₂.heap, slotsUsed := s₂.slotsUsed } : State) L mc ms := by
      refine ⟨?_, q2, q3, q4, q5, q6⟩
      obtain ⟨t, ht, -⟩ := State.frames_cons hr
      show ({ U with heap := s₂.heap, slotsUsed := s₂.slotsUsed } : State) = { U.setFrames U.frames with heap := s₂.heap, slotsUsed := s₂.slotsUsed }
      rw [State.setFrames_self ht]
    subst hg
    refine Or.inr ⟨q, ⟨(({ U with heap := s₂.heap, slotsUsed := s₂.slotsUsed } : State).setVm s₂.vm), Ls ++ L, c0 + mc, s0 + ms⟩,
      ⟨X.admits, X.cas, X.clock, X.frames, X.room, X.hears, X.method, X.code, (X.here.setHeapUsed s₂.heap s₂.slotsUsed).setVm hW'.alike, X.tail, State.WarmedH.trans X.warmed hW', X.limits, X.bytes, X.same.trans (hsame.setVm s.vm)⟩,
      ⟨g, mk, s₂, L, E, ce, rfl, rfl, hx, hce, hcv, hcl, rfl, hL, rfl, rfl⟩, ?_⟩
    show Steps p.tables e below _ (((({ U with heap := s₂.heap, slotsUsed := s₂.slotsUsed } : State).setVm s₂.vm).setTop g).pushFrame (.throwing q))
    rw [← hs₂]
    exact hsteps
end Payer
section Calls
variable {p : Program} {l : Launch} {e : Env} {R : Room} {s : State} {m : MethodId} {args : Array Value} {below : List Frame} {meth : Method} {c : Code} {T : State} {locs : List Loc} {cells slots : Nat}
theorem vx_callV (X : Stand p l e R s m args below meth c T locs cells slots) (hexec : p.tables.exec = Jvm.exec) {own C : String} {index : Nat} {y : MethodName} {bytes : ByteArray} {maxL : Nat} {ret : Option FieldType}
    (hown : s.vm.findClass own = some m.cls) (hlink : (Cond.methodLink own index y).before args s = true) (hinst : (Cond.instanceMethod y).before args s = true) (hsel : (Cond.selects C y y).before args s = true)
    (hcode : (Cond.code y bytes maxL ret).before args s = true) (hy : y.cls ≠ "java/lang/invoke/MethodHandle" ∧ y.cls ≠ "java/lang/invoke/VarHandle")
    {W9 : Nat} {Pre : Pt → Array Value → Prop} {Post : Pt → Array Value → Option Value → Pt → Prop} {PostX : Pt → Array Value → Addr → Pt → Prop} (hK : vx_Back l R p e below s args y 3 W9 Pre Post PostX)
    {b : Addr} {cellB : Cell} (hcell : T.heap[b]? = some cellB) (hobj : cellB.vm.isStatics = false) (hcls : s.vm.findClass C = some cellB.cls)
    {g : JFrame} (hg : g.method = m) (hsize : g.locals.size = c.maxLocals) {argsL rest : List Value} (hlen : ∀ sig, parseMethodDescriptor y.desc = some sig → argsL.length = sig.parameters.length)
    (hstack : g.stack = argsL.reverse ++ .ref b :: rest) (hW : 2 * g.monitorRoom + (rest.map fun v => v.category).sum ≤ W9) (hdg : decode c.code g.pc = .ok (.invokevirtual index, 3))
    (hpre : ∀ vm₁, s.WarmedH vm₁ → Pre ⟨T.setVm vm₁, locs, cells, slots⟩ (Value.ref b :: argsL).toArray) :
    (∃ (v : Option Value) (vm₁ : Vm) (B : Pt), s.WarmedH vm₁ ∧ Stand p l e R s m args below meth c B.U B.locs B.cells B.slots ∧ Post ⟨T.setVm vm₁, locs, cells, slots⟩ (Value.ref b :: argsL).toArray v B ∧
      ∀ target, Steps p.tables e below (B.U.setTop { g with pc := g.pc + 3, stack := v.toList ++ rest }) target → Steps p.tables e below (T.setTop g) target) ∨
    (∃ (q : Addr) (vm₁ : Vm) (B : Pt), s.WarmedH vm₁ ∧ Stand p l e R s m args below meth c B.U B.locs B.cells B.slots ∧ PostX ⟨T.setVm vm₁, locs, cells, slots⟩ (Value.ref b :: argsL).toArray q B ∧
      Steps p.tables e below (T.setTop g) ((B.U.setTop { g with stack := rest }).pushFrame (.throwing q))) := by
  obtain ⟨mk, methM, hnamed, hmethM, hstM, habM⟩ := Cond.instanceMethod_spec hinst
  obtain ⟨methM', cM, hmethM', -, -, -, -, -, -, hsigM⟩ := Cond.code_spec hnamed hcode
  cases hmethM.symm.trans hmethM'
  obtain ⟨c2, r2, m2, q1, q2, q3, q4, kP, hkP, hkPi⟩ := Cond.selects_spec hsel
  cases hcls.symm.trans q1
  cases (State.methodFound?_of_named hnamed hy).symm.trans q2
  cases hnamed.symm.trans q3
  have hselP : selectMethod e.platform s.vm cellB.cls mk = .method mk := by rw [Launch.admits_selectMethod X.admits]; exact q4
  obtain ⟨vm₁, X₁, hstep₁⟩ := X.invokevirtual hexec hown hlink hnamed hmethM hstM hkP hkPi hy (a := b) (cell := cellB) hcell
    (fun z h => by rw [h] at hobj; cases hobj) hselP hmethM habM hkP hkPi (g := g) hg (argsL := argsL) (rest := rest) (hlen _ hsigM) hstack hdg
  rcases hK m meth c ⟨T.setVm vm₁, locs, cells, slots⟩ { g with stack := rest } (.invokevirtual index) mk (Value.ref b :: argsL).toArray X₁ hg hsize hdg hW (X₁.named hnamed) (hpre vm₁ X₁.warmed) with ⟨v, B, X', hpost, hsteps⟩ | ⟨q, B, X', hpost, hsteps⟩
  · exact Or.inl ⟨v, vm₁, B, X₁.warmed, X', hpost, fun target h => hstep₁ _ fun acts => by rw [doInvoke_state]; exact hsteps.trans h⟩
  · exact Or.inr ⟨q, vm₁, B, X₁.warmed, X', hpost, hstep₁ _ fun acts => by rw [doInvoke_state]; exact hsteps⟩
theorem vx_callS (X : Stand p l e R s m args below meth c T locs cells slots) (hexec : p.tables.exec = Jvm.exec) {own : String} {index : Nat} {y : MethodName} {bytes : ByteArray} {maxL : Nat} {ret : Option FieldType}
    (hown : s.vm.findClass own = some m.cls) (hlink : (Cond.methodLink own index y).before args s = true) (hstat : (Cond.static y).before args s = true) (hinit : (Cond.initialized y.cls).before args s = true)
    (hcode : (Cond.code y bytes maxL ret).before args s = true) (hy : y.cls ≠ "java/lang/invoke/MethodHandle" ∧ y.cls ≠ "java/lang/invoke/VarHandle")
    {W9 : Nat} {Pre : Pt → Array Value → Prop} {Post : Pt → Array Value → Option Value → Pt → Prop} {PostX : Pt → Array Value → Addr → Pt → Prop} (hK : vx_Back l R p e below s args y 3 W9 Pre Post PostX)
    {g : JFrame} (hg : g.method = m) (hsize : g.locals.size = c.maxLocals) {argsL rest : List Value} (hlen : ∀ sig, parseMethodDescriptor y.desc = some sig → argsL.length = sig.parameters.length)
    (hstack : g.stack = argsL.reverse ++ rest) (hW : 2 * g.monitorRoom + (rest.map fun v => v.category).sum ≤ W9) (hdg : decode c.code g.pc = .ok (.invokestatic index, 3))
    (hpre : ∀ vm₁, s.WarmedH vm₁ → Pre ⟨T.setVm vm₁, locs, cells, slots⟩ argsL.toArray) :
    (∃ (v : Option Value) (vm₁ : Vm) (B : Pt), s.WarmedH vm₁ ∧ Stand p l e R s m args below meth c B.U B.locs B.cells B.slots ∧ Post ⟨T.setVm vm₁, locs, cells, slots⟩ argsL.toArray v B ∧
      ∀ target, Steps p.tables e below (B.U.setTop { g with pc := g.pc + 3, stack := v.toList ++ rest }) target → Steps p.tables e below (T.setTop g) target) ∨
    (∃ (q : Addr) (vm₁ : Vm) (B : Pt), s.WarmedH vm₁ ∧ Stand p l e R s m args below meth c B.U B.locs B.cells B.slots ∧ PostX ⟨T.setVm vm₁, locs, cells, slots⟩ argsL.toArray q B ∧
      Steps p.tables e below (T.setTop g) ((B.U.setTop { g with stack := rest }).pushFrame (.throwing q))) := by
  obtain ⟨mk, hnamed⟩ := Cond.code_named hcode
  obtain ⟨methM, cM, hmethM, -, -, -, -, -, -, hsigM⟩ := Cond.code_spec hnamed hcode
  have hstatic : methM.isStatic = true := Cond.static_spec hnamed hmethM hstat
  obtain ⟨kP, hkP, -⟩ := className_of_methodNamed hnamed
  have hinitP : kP.init = .initialized := Cond.initialized_spec (findClass_of_methodNamed hnamed) hkP hinit
  obtain ⟨vm₁, X₁, hstep₁⟩ := X.invokestatic hexec hown hlink hnamed hmethM hstatic hkP hinitP hy (g := g) hg (argsL := argsL) (rest := rest) (hlen _ hsigM) hstack hdg
  rcases hK m meth c ⟨T.setVm vm₁, locs, cells, slots⟩ { g with stack := rest } (.invokestatic index) mk argsL.toArray X₁ hg hsize hdg hW (X₁.named hnamed) (hpre vm₁ X₁.warmed) with ⟨v, B, X', hpost, hsteps⟩ | ⟨q, B, X', hpost, hsteps⟩
  · exact Or.inl ⟨v, vm₁, B, X₁.warmed, X', hpost, fun target h => hstep₁ _ fun acts => by rw [doInvoke_state]; exact hsteps.trans h⟩
  · exact Or.inr ⟨q, vm₁, B, X₁.warmed, X', hpost, hstep₁ _ fun acts => by rw [doInvoke_state]; exact hsteps⟩
end Calls
theorem vx_cls {s : State} {T : State} {vm₁ : Vm} {E : String} {k : ClassId} (hW : s.WarmedH vm₁) (h : (T.setVm vm₁).vm.findClass E = some k) : s.vm.findClass E = some k := by
  have h1 : vm₁.findClass E = some k := h
  rw [hW.alike.findClass] at h1
  exact h1
/-- the method's frame g, with q thrown over it -/
def vx_W (p : Program) (l : Launch) (e : Env) (R : Room) (s : State) (m : MethodId) (args : Array Value) (below : List Frame) (meth : Method) (c : Code) (H : Heap) (locs : List Loc) (cells slots : Nat) (Q : State → Prop) (g : JFrame) (q : Addr) : Prop :=
  ∀ T : State, T.heap = H → Stand p l e R s m args below meth c T locs cells slots → ∃ t, Steps p.tables e below ((T.setTop g).pushFrame (.throwing q)) t ∧ Q t
def vx_Run (p : Program) (l : Launch) (e : Env) (R : Room) (s : State) (m : MethodId) (args : Array Value) (below : List Frame) (meth : Method) (c : Code) (H : Heap) (locs : List Loc) (cells slots mc ms : Nat) (g : JFrame) (rest : List Value) (Qa : State → Outcome → State → Prop) (XC : String → State → State → Prop) (free : Addr → Prop) : Prop :=
  ∀ T : State, T.heap = H → Stand p l e R s m args below meth c T locs cells slots →
    (∃ (v : Option Value) (st₀ t T' : State) (L : List Loc), st₀.heap = H ∧ Stand p l e R s m args below meth c T' (locs ++ L) (cells + mc) (slots + ms) ∧ (∀ q ∈ L, free q.base) ∧ T'.heap = t.heap ∧ T'.vm = t.vm ∧ Qa st₀ (.returned v) t ∧
      Goes p e below T g T' { g with pc := g.pc + 3, stack := v.toList ++ rest }) ∨
    (∃ (q : Addr) (st₀ t T' : State) (L : List Loc) (E : String) (ce : Cell), st₀.heap = H ∧ Stand p l e R s m args below meth c T' (locs ++ L) (cells + mc) (slots + ms) ∧ (∀ z ∈ L, free z.base) ∧ T'.heap = t.heap ∧ T'.vm = t.vm ∧ XC E st₀ t ∧ t.heap[q]? = some ce ∧ ce.vm = .none ∧ s.vm.findClass E = some ce.cls ∧
      Steps p.tables e below (T.setTop g) ((T'.setTop { g with stack := rest }).pushFrame (.throwing q)))
def vx_X {S : Type} (px : S → Prop) (B : String → S → State → Prop) (A : Nat → Prop) : String → State → State → Prop := fun E st t => ∃ u : S, px u ∧ B E u t ∧ va_F A st t
section Runs
variable {p : Program} {l : Launch} {e : Env} {R : Room} {s : State} {m : MethodId} {args : Array Value} {below : List Frame} {meth : Method} {c : Code} {H : Heap} {locs : List Loc} {cells slots : Nat}
variable {y : MethodName} {bytes cc : ByteArray} {maxL nL mc ms n index : Nat} {ret : Option FieldType} {ws : List Cond} {rm : Room} {Pc : Array Value → State → Prop} {Qc : Array Value → State → Outcome → State → Prop} {XC : String → State → State → Prop} {free : Addr → Prop} {Ts : List Cond} {own C : String} {b : Addr} {As rest : List Value} {g : JFrame}
theorem vx_callBack (cb : CallB R s args own index y bytes maxL ret ws rm mc ms n) (hM : vx_Met l y ws rm Pc Qc XC mc ms free) (hbl : FrameBlind Pc) : vx_Back l R p e below s args y 3 8 (PreOf R mc ms Pc) (PostOf Qc mc ms free) (vx_Post XC mc ms free) := by
  obtain ⟨hrc, hrs, hfr, hlo, hws, hcw, -, hini, -⟩ := cb
  exact vx_back (bytes := bytes) (maxL := maxL) (ret := ret) hM hbl hrc hrs hfr hlo hws hcw (fun a' U hW => word_at hW (Or.inl (by first | rfl | simp [Cond.onTables, Cond.keeps, Cond.steady])) hini)
theorem vx_runV (S : CallFix p m c cc nL s args Ts own) (hM : vx_Met l y ws rm Pc Qc XC mc ms free) (cw : CallW R s args own C index y bytes maxL ret ws rm mc ms n) (hp : PreV s H C b Pc As)
    (hg : g.method = m) (hn : As.length = n) (hsize : g.locals.size = nL) (hstack : g.stack = As.reverse ++ .ref b :: rest) (hW : 2 * g.monitorRoom + (rest.map fun v => v.category).sum ≤ 8) (hdg : decode cc g.pc = .ok (.invokevirtual index, 3)) (hf : cells + mc ≤ R.cells ∧ slots + ms ≤ R.slots) :
    vx_Run p l e R s m args below meth c H locs cells slots mc ms g rest (Qc (Value.ref b :: As).toArray) XC free := by
  have hK : vx_Back l R p e below s args y 3 8 (PreOf R mc ms Pc) (PostOf Qc mc ms free) (vx_Post XC mc ms free) := vx_callBack cw.1 hM hp.1
  obtain ⟨⟨-, -, -, -, -, -, hcode, -, hy, hlen, hl⟩, hin, hse⟩ := cw
  obtain ⟨hx, hb, hml, ho, -⟩ := S
  obtain ⟨-, ⟨cellB, hcB, hoB, hclB⟩, hPc⟩ := hp
  intro T hT X
  rcases vx_callV X hx (C := C) (bytes := bytes) (maxL := maxL) (ret := ret) ho hl hin hse hcode hy hK (by rw [hT]; exact hcB) hoB hclB hg (hsize.trans hml.symm) (argsL := As) (rest := rest) (fun sig h => hn.trans (hlen sig h)) hstack hW (by rw [hb]; exact hdg)
    (fun vm₁ hW₁ => ⟨hf.1, hf.2, hPc (T.setVm vm₁) hT hW₁⟩) with ⟨v, vm₁, ⟨U', l2, c2, s2⟩, hW₁, X', ⟨g', mk, t, L, e1, e2, hq, h1, hL, h2, h3⟩, st⟩ | ⟨q, vm₁, ⟨U', l2, c2, s2⟩, hW₁, X', ⟨g', mk, t, L, E, ce, e1, e2, hq, hce, hcv, hcl, h1, hL, h2, h3⟩, st⟩
  · dsimp only [Pt.U, Pt.locs, Pt.cells, Pt.slots] at X' e1 e2 h1 h2 h3 st
    subst h1; subst h2; subst h3
    exact Or.inl ⟨v, (T.setVm vm₁).calling g' mk (Value.ref b :: As).toArray, t, U', L, hT, X', hL, e1, e2, hq, st⟩
  · dsimp only [Pt.U, Pt.locs, Pt.cells, Pt.slots] at X' e1 e2 h1 h2 h3 st hcl
    subst h1; subst h2; subst h3
    exact Or.inr ⟨q, (T.setVm vm₁).calling g' mk (Value.ref b :: As).toArray, t, U', L, E, ce, hT, X', hL, e1, e2, hq, hce, hcv, vx_cls hW₁ hcl, st⟩
theorem vx_runS (S : CallFix p m c cc nL s args Ts own) (hM : vx_Met l y ws rm Pc Qc XC mc ms free) (cw : CallB R s args own index y bytes maxL ret ws rm mc ms n ∧ (Cond.static y).before args s = true) (hp : PreS s H Pc As)
    (hg : g.method = m) (hn : As.length = n) (hsize : g.locals.size = nL) (hstack : g.stack = As.reverse ++ rest) (hW : 2 * g.monitorRoom + (rest.map fun v => v.category).sum ≤ 8) (hdg : decode cc g.pc = .ok (.invokestatic index, 3)) (hf : cells + mc ≤ R.cells ∧ slots + ms ≤ R.slots) :
    vx_Run p l e R s m args below meth c H locs cells slots mc ms g rest (Qc As.toArray) XC free := by
  have hK : vx_Back l R p e below s args y 3 8 (PreOf R mc ms Pc) (PostOf Qc mc ms free) (vx_Post XC mc ms free) := vx_callBack cw.1 hM hp.1
  obtain ⟨⟨-, -, -, -, -, -, hcode, hini, hy, hlen, hl⟩, hstt⟩ := cw
  obtain ⟨hx, hb, hml, ho, -⟩ := S
  intro T hT X
  rcases vx_callS X hx (bytes := bytes) (maxL := maxL) (ret := ret) ho hl hstt hini hcode hy hK hg (hsize.trans hml.symm) (argsL := As) (rest := rest) (fun sig h => hn.trans (hlen sig h)) hstack hW (by rw [hb]; exact hdg)
    (fun vm₁ hW₁ => ⟨hf.1, hf.2, hp.2 (T.setVm vm₁) hT hW₁⟩) with ⟨v, vm₁, ⟨U', l2, c2, s2⟩, hW₁, X', ⟨g', mk, t, L, e1, e2, hq, h1, hL, h2, h3⟩, st⟩ | ⟨q, vm₁, ⟨U', l2, c2, s2⟩, hW₁, X', ⟨g', mk, t, L, E, ce, e1, e2, hq, hce, hcv, hcl, h1, hL, h2, h3⟩, st⟩
  · dsimp only [Pt.U, Pt.locs, Pt.cells, Pt.slots] at X' e1 e2 h1 h2 h3 st
    subst h1; subst h2; subst h3
    exact Or.inl ⟨v, (T.setVm vm₁).calling g' mk As.toArray, t, U', L, hT, X', hL, e1, e2, hq, st⟩
  · dsimp only [Pt.U, Pt.locs, Pt.cells, Pt.slots] at X' e1 e2 h1 h2 h3 st hcl
    subst h1; subst h2; subst h3
    exact Or.inr ⟨q, (T.setVm vm₁).calling g' mk As.toArray, t, U', L, E, ce, hT, X', hL, e1, e2, hq, hce, hcv, vx_cls hW₁ hcl, st⟩
end Runs
section Rows
variable {p : Program} {l : Launch} {e : Env} {R : Room} {s : State} {m : MethodId} {args : Array Value} {below : List Frame} {meth : Method} {c : Code} {H : Heap} {locs : List Loc} {cells slots : Nat} {Q : State → Prop}
variable {mc ms : Nat} {free : Addr → Prop} {A0 A1 : Nat → Prop} {H0 : Heap} {a : Array Value} {pc : Nat} {ls : Array Slot} {st0 rest : List Value}
theorem vx_keep {st₀ t T' : State} {L : List Loc} (h0 : st₀.heap = H) (e1 : T'.heap = t.heap) (hS : va_S A0 H0 H locs) (hA : ∀ q, q < H.size → A1 q → A0 q) (hf : ∀ q, free q → A0 q) (hL : ∀ q ∈ L, free q.base) (hF : va_F A1 st₀ t) :
    H.size ≤ T'.heap.size ∧ (∀ q : Nat, q < H.size → ¬ A1 q → T'.heap[q]? = H[q]?) ∧ va_S A0 H0 T'.heap (locs ++ L) := by
  obtain ⟨hz, hk⟩ := hF
  rw [h0] at hz hk
  exact ⟨by rw [e1]; exact hz, fun q h1 h2 => by rw [e1]; exact hk q h1 h2,
    ⟨Nat.le_trans hS.1 (by rw [e1]; exact hz), fun q h1 h2 => by rw [e1, hk q (Nat.lt_of_lt_of_le h1 hS.1) (fun z => h2 (hA q (Nat.lt_of_lt_of_le h1 hS.1) z))]; exact hS.2.1 q h1 h2, fun q hq => by
      rcases List.mem_append.mp hq with h | h
      · exact hS.2.2 q h
      · exact hf _ (hL q h)⟩⟩
theorem vx_calli {S SX : Type} {post : Int32 → S → Prop} {px : SX → Prop} {B : S → State → Prop} {BX : String → SX → State → Prop} {AX : Nat → Prop} (hr : vx_Run p l e R s m args below meth c H locs cells slots mc ms (F0 m pc ls st0) rest (va_Qi post B A1 a) (vx_X px BX AX) free) (hS : va_S A0 H0 H locs) (hA : ∀ q, q < H.size → A1 q → A0 q) (hf : ∀ q, free q → A0 q) (hAX : ∀ q, q < H.size → AX q → A0 q)
    (kx : ∀ (E : String) (ce : Cell) (q9 : Addr) (u : SX) (t : State) (H1 : Heap) (locs1 : List Loc), t.heap = H1 → s.vm.Alike t.vm → px u → BX E u t → H.size ≤ H1.size → (∀ q : Nat, q < H.size → ¬ AX q → H1[q]? = H[q]?) → va_S A0 H0 H1 locs1 → H1[q9]? = some ce → ce.vm = .none → s.vm.findClass E = some ce.cls → vx_W p l e R s m args below meth c H1 locs1 (cells + mc) (slots + ms) Q (F0 m pc ls rest) q9)
    (kk : ∀ (r : Int32) (u : S) (t : State) (H1 : Heap) (locs1 : List Loc), t.heap = H1 → s.vm.Alike t.vm → post r u → B u t → H.size ≤ H1.size → (∀ q : Nat, q < H.size → ¬ A1 q → H1[q]? = H[q]?) → va_S A0 H0 H1 locs1 → W p l e R s m args below meth c H1 locs1 (cells + mc) (slots + ms) Q (F0 m (pc + 3) ls (.int r :: rest))) : W p l e R s m args below meth c H locs cells slots Q (F0 m pc ls st0) := by
  intro T hT X
  rcases hr T hT X with ⟨v, st₀, t, T', L, h0, X', hL, e1, e2, ⟨⟨r, u, hv, hp, hb⟩, hF⟩, st⟩ | ⟨q, st₀, t, T', L, E, ce, h0, X', hL, e1, e2, ⟨u, hp, hb, hF⟩, hce, hcv, hcl, st⟩
  · cases hv
    obtain ⟨k1, k2, k3⟩ := vx_keep h0 e1 hS hA hf hL hF
    obtain ⟨t2, a1, b1⟩ := kk r u t T'.heap (locs ++ L) e1.symm (by rw [← e2]; exact X'.warmed.alike) hp hb k1 k2 k3 T' rfl X'
    exact ⟨t2, st t2 a1, b1⟩
  · obtain ⟨k1, k2, k3⟩ := vx_keep h0 e1 hS hAX hf hL hF
    obtain ⟨t2, a1, b1⟩ := kx E ce q u t T'.heap (locs ++ L) e1.symm (by rw [← e2]; exact X'.warmed.alike) hp hb k1 k2 k3 (by rw [e1]; exact hce) hcv hcl T' rfl X'
    exact ⟨t2, st.trans a1, b1⟩
theorem vx_calll {S SX : Type} {post : Int64 → S → Prop} {px : SX → Prop} {B : S → State → Prop} {BX : String → SX → State → Prop} {AX : Nat → Prop} (hr : vx_Run p l e R s m args below meth c H locs cells slots mc ms (F0 m pc ls st0) rest (va_Ql post B A1 a) (vx_X px BX AX) free) (hS : va_S A0 H0 H locs) (hA : ∀ q, q < H.size → A1 q → A0 q) (hf : ∀ q, free q → A0 q) (hAX : ∀ q, q < H.size → AX q → A0 q)
    (kx : ∀ (E : String) (ce : Cell) (q9 : Addr) (u : SX) (t : State) (H1 : Heap) (locs1 : List Loc), t.heap = H1 → s.vm.Alike t.vm → px u → BX E u t → H.size ≤ H1.size → (∀ q : Nat, q < H.size → ¬ AX q → H1[q]? = H[q]?) → va_S A0 H0 H1 locs1 → H1[q9]? = some ce → ce.vm = .none → s.vm.findClass E = some ce.cls → vx_W p l e R s m args below meth c H1 locs1 (cells + mc) (slots + ms) Q (F0 m pc ls rest) q9)
    (kk : ∀ (r : Int64) (u : S) (t : State) (H1 : Heap) (locs1 : List Loc), t.heap = H1 → s.vm.Alike t.vm → post r u → B u t → H.size ≤ H1.size → (∀ q : Nat, q < H.size → ¬ A1 q → H1[q]? = H[q]?) → va_S A0 H0 H1 locs1 → W p l e R s m args below meth c H1 locs1 (cells + mc) (slots + ms) Q (F0 m (pc + 3) ls (.long r :: rest))) : W p l e R s m args below meth c H locs cells slots Q (F0 m pc ls st0) := by
  intro T hT X
  rcases hr T hT X with ⟨v, st₀, t, T', L, h0, X', hL, e1, e2, ⟨⟨r, u, hv, hp, hb⟩, hF⟩, st⟩ | ⟨q, st₀, t, T', L, E, ce, h0, X', hL, e1, e2, ⟨u, hp, hb, hF⟩, hce, hcv, hcl, st⟩
  · cases hv
    obtain ⟨k1, k2, k3⟩ := vx_keep h0 e1 hS hA hf hL hF
    obtain ⟨t2, a1, b1⟩ := kk r u t T'.heap (locs ++ L) e1.symm (by rw [← e2]; exact X'.warmed.alike) hp hb k1 k2 k3 T' rfl X'
    exact ⟨t2, st t2 a1, b1⟩
  · obtain ⟨k1, k2, k3⟩ := vx_keep h0 e1 hS hAX hf hL hF
    obtain ⟨t2, a1, b1⟩ := kx E ce q u t T'.heap (locs ++ L) e1.symm (by rw [← e2]; exact X'.warmed.alike) hp hb k1 k2 k3 (by rw [e1]; exact hce) hcv hcl T' rfl X'
    exact ⟨t2, st.trans a1, b1⟩
theorem vx_callf {S SX : Type} {post : UInt32 → S → Prop} {px : SX → Prop} {B : S → State → Prop} {BX : String → SX → State → Prop} {AX : Nat → Prop} (hr : vx_Run p l e R s m args below meth c H locs cells slots mc ms (F0 m pc ls st0) rest (va_Qf post B A1 a) (vx_X px BX AX) free) (hS : va_S A0 H0 H locs) (hA : ∀ q, q < H.size → A1 q → A0 q) (hf : ∀ q, free q → A0 q) (hAX : ∀ q, q < H.size → AX q → A0 q)
    (kx : ∀ (E : String) (ce : Cell) (q9 : Addr) (u : SX) (t : State) (H1 : Heap) (locs1 : List Loc), t.heap = H1 → s.vm.Alike t.vm → px u → BX E u t → H.size ≤ H1.size → (∀ q : Nat, q < H.size → ¬ AX q → H1[q]? = H[q]?) → va_S A0 H0 H1 locs1 → H1[q9]? = some ce → ce.vm = .none → s.vm.findClass E = some ce.cls → vx_W p l e R s m args below meth c H1 locs1 (cells + mc) (slots + ms) Q (F0 m pc ls rest) q9)
    (kk : ∀ (r : UInt32) (u : S) (t : State) (H1 : Heap) (locs1 : List Loc), t.heap = H1 → s.vm.Alike t.vm → post r u → B u t → H.size ≤ H1.size → (∀ q : Nat, q < H.size → ¬ A1 q → H1[q]? = H[q]?) → va_S A0 H0 H1 locs1 → W p l e R s m args below meth c H1 locs1 (cells + mc) (slots + ms) Q (F0 m (pc + 3) ls (.float r :: rest))) : W p l e R s m args below meth c H locs cells slots Q (F0 m pc ls st0) := by
  intro T hT X
  rcases hr T hT X with ⟨v, st₀, t, T', L, h0, X', hL, e1, e2, ⟨⟨r, u, hv, hp, hb⟩, hF⟩, st⟩ | ⟨q, st₀, t, T', L, E, ce, h0, X', hL, e1, e2, ⟨u, hp, hb, hF⟩, hce, hcv, hcl, st⟩
  · cases hv
    obtain ⟨k1, k2, k3⟩ := vx_keep h0 e1 hS hA hf hL hF
    obtain ⟨t2, a1, b1⟩ := kk r u t T'.heap (locs ++ L) e1.symm (by rw [← e2]; exact X'.warmed.alike) hp hb k1 k2 k3 T' rfl X'
    exact ⟨t2, st t2 a1, b1⟩
  · obtain ⟨k1, k2, k3⟩ := vx_keep h0 e1 hS hAX hf hL hF
    obtain ⟨t2, a1, b1⟩ := kx E ce q u t T'.heap (locs ++ L) e1.symm (by rw [← e2]; exact X'.warmed.alike) hp hb k1 k2 k3 (by rw [e1]; exact hce) hcv hcl T' rfl X'
    exact ⟨t2, st.trans a1, b1⟩
theorem vx_calld {S SX : Type} {post : UInt64 → S → Prop} {px : SX → Prop} {B : S → State → Prop} {BX : String → SX → State → Prop} {AX : Nat → Prop} (hr : vx_Run p l e R s m args below meth c H locs cells slots mc ms (F0 m pc ls st0) rest (va_Qd post B A1 a) (vx_X px BX AX) free) (hS : va_S A0 H0 H locs) (hA : ∀ q, q < H.size → A1 q → A0 q) (hf : ∀ q, free q → A0 q) (hAX : ∀ q, q < H.size → AX q → A0 q)
    (kx : ∀ (E : String) (ce : Cell) (q9 : Addr) (u : SX) (t : State) (H1 : Heap) (locs1 : List Loc), t.heap = H1 → s.vm.Alike t.vm → px u → BX E u t → H.size ≤ H1.size → (∀ q : Nat, q < H.size → ¬ AX q → H1[q]? = H[q]?) → va_S A0 H0 H1 locs1 → H1[q9]? = some ce → ce.vm = .none → s.vm.findClass E = some ce.cls → vx_W p l e R s m args below meth c H1 locs1 (cells + mc) (slots + ms) Q (F0 m pc ls rest) q9)
    (kk : ∀ (r : UInt64) (u : S) (t : State) (H1 : Heap) (locs1 : List Loc), t.heap = H1 → s.vm.Alike t.vm → post r u → B u t → H.size ≤ H1.size → (∀ q : Nat, q < H.size → ¬ A1 q → H1[q]? = H[q]?) → va_S A0 H0 H1 locs1 → W p l e R s m args below meth c H1 locs1 (cells + mc) (slots + ms) Q (F0 m (pc + 3) ls (.double r :: rest))) : W p l e R s m args below meth c H locs cells slots Q (F0 m pc ls st0) := by
  intro T hT X
  rcases hr T hT X with ⟨v, st₀, t, T', L, h0, X', hL, e1, e2, ⟨⟨r, u, hv, hp, hb⟩, hF⟩, st⟩ | ⟨q, st₀, t, T', L, E, ce, h0, X', hL, e1, e2, ⟨u, hp, hb, hF⟩, hce, hcv, hcl, st⟩
  · cases hv
    obtain ⟨k1, k2, k3⟩ := vx_keep h0 e1 hS hA hf hL hF
    obtain ⟨t2, a1, b1⟩ := kk r u t T'.heap (locs ++ L) e1.symm (by rw [← e2]; exact X'.warmed.alike) hp hb k1 k2 k3 T' rfl X'
    exact ⟨t2, st t2 a1, b1⟩
  · obtain ⟨k1, k2, k3⟩ := vx_keep h0 e1 hS hAX hf hL hF
    obtain ⟨t2, a1, b1⟩ := kx E ce q u t T'.heap (locs ++ L) e1.symm (by rw [← e2]; exact X'.warmed.alike) hp hb k1 k2 k3 (by rw [e1]; exact hce) hcv hcl T' rfl X'
    exact ⟨t2, st.trans a1, b1⟩
theorem vx_callv {S SX : Type} {post : S → Prop} {px : SX → Prop} {B : S → State → Prop} {BX : String → SX → State → Prop} {AX : Nat → Prop} (hr : vx_Run p l e R s m args below meth c H locs cells slots mc ms (F0 m pc ls st0) rest (va_Qv post B A1 a) (vx_X px BX AX) free) (hS : va_S A0 H0 H locs) (hA : ∀ q, q < H.size → A1 q → A0 q) (hf : ∀ q, free q → A0 q) (hAX : ∀ q, q < H.size → AX q → A0 q)
    (kx : ∀ (E : String) (ce : Cell) (q9 : Addr) (u : SX) (t : State) (H1 : Heap) (locs1 : List Loc), t.heap = H1 → s.vm.Alike t.vm → px u → BX E u t → H.size ≤ H1.size → (∀ q : Nat, q < H.size → ¬ AX q → H1[q]? = H[q]?) → va_S A0 H0 H1 locs1 → H1[q9]? = some ce → ce.vm = .none → s.vm.findClass E = some ce.cls → vx_W p l e R s m args below meth c H1 locs1 (cells + mc) (slots + ms) Q (F0 m pc ls rest) q9)
    (kk : ∀ (u : S) (t : State) (H1 : Heap) (locs1 : List Loc), t.heap = H1 → s.vm.Alike t.vm → post u → B u t → H.size ≤ H1.size → (∀ q : Nat, q < H.size → ¬ A1 q → H1[q]? = H[q]?) → va_S A0 H0 H1 locs1 → W p l e R s m args below meth c H1 locs1 (cells + mc) (slots + ms) Q (F0 m (pc + 3) ls (rest))) : W p l e R s m args below meth c H locs cells slots Q (F0 m pc ls st0) := by
  intro T hT X
  rcases hr T hT X with ⟨v, st₀, t, T', L, h0, X', hL, e1, e2, ⟨⟨u, hv, hp, hb⟩, hF⟩, st⟩ | ⟨q, st₀, t, T', L, E, ce, h0, X', hL, e1, e2, ⟨u, hp, hb, hF⟩, hce, hcv, hcl, st⟩
  · cases hv
    obtain ⟨k1, k2, k3⟩ := vx_keep h0 e1 hS hA hf hL hF
    obtain ⟨t2, a1, b1⟩ := kk u t T'.heap (locs ++ L) e1.symm (by rw [← e2]; exact X'.warmed.alike) hp hb k1 k2 k3 T' rfl X'
    exact ⟨t2, st t2 a1, b1⟩
  · obtain ⟨k1, k2, k3⟩ := vx_keep h0 e1 hS hAX hf hL hF
    obtain ⟨t2, a1, b1⟩ := kx E ce q u t T'.heap (locs ++ L) e1.symm (by rw [← e2]; exact X'.warmed.alike) hp hb k1 k2 k3 (by rw [e1]; exact hce) hcv hcl T' rfl X'
    exact ⟨t2, st.trans a1, b1⟩
/-- caught by the row x of this method's table; the rows ahead don't take it -/
theorem vx_catch {own name : String} {E : String} {ce : Cell} {q : Addr} (hown : s.vm.findClass own = some m.cls) (pre : List ExceptionTableEntry) (x : ExceptionTableEntry) (suf : List ExceptionTableEntry) (hsplit : c.exceptionTable.toList = pre ++ x :: suf)
    (hpass : ∀ z ∈ pre, covers z pc = false ∨ (z.catchType ≠ 0 ∧ ∃ nm : String, (Cond.classLink own z.catchType nm).before args s = true ∧ va_Nc E nm s)) (hx : covers x pc = true) (h0 : x.catchType ≠ 0)
    (hlink : (Cond.classLink own x.catchType name).before args s = true) (hcast : (Cond.castable E name).before args s = true) (hcell : H[q]? = some ce) (hv : ce.vm = .none) (hcl : s.vm.findClass E = some ce.cls)
    (kk : W p l e R s m args below meth c H locs cells slots Q (F0 m x.handlerPc ls [.ref q])) : vx_W p l e R s m args below meth c H locs cells slots Q (F0 m pc ls rest) q := by
  intro T hT X
  have hpl : e.platform.magicAccessors = ({} : Platform).magicAccessors := by rw [X.admits.platform]
  obtain ⟨c3, c4, hc3, hc4, hasg⟩ := Cond.castable_spec hcast
  cases Option.some.inj (hc3.symm.trans hcl)
  obtain ⟨c5, hc5, hcl5⟩ := Cond.classLink_spec hown hlink e.platform hpl
  cases Option.some.inj (hc4.symm.trans hc5)
  obtain ⟨vm', X', st⟩ := X.thenCaughtThrough q (g := F0 m pc ls rest) rfl (Steps.refl _) (by rw [hT]; exact hcell) (by rw [hv]; rfl) (by obtain ⟨k9, h9, -⟩ := Vm.findClass_spec hcl; exact ⟨k9, h9⟩) pre x suf hsplit
    (fun z hz => by
      rcases hpass z hz with h | ⟨hz0, nm, hl1, hn1⟩
      · exact Or.inl h
      · obtain ⟨c6, hc6, hcl6⟩ := Cond.classLink_spec hown hl1 e.platform hpl
        obtain ⟨a8, b8, h1, h2, h3⟩ := hn1
        cases Option.some.inj (h1.symm.trans hcl)
        cases Option.some.inj (h2.symm.trans hc6)
        exact Or.inr ⟨hz0, _, hcl6, h3⟩) hx (Or.inr ⟨h0, c4, hcl5, hasg⟩)
  obtain ⟨t, a1, b1⟩ := kk (T.setVm vm') hT X'
  exact ⟨t, st.trans a1, b1⟩
end Rows
section Ends
variable {p : Program} {l : Launch} {e : Env} {R : Room} {s : State} {m : MethodId} {args : Array Value} {below : List Frame} {meth : Method} {c : Code} {H : Heap} {locs : List Loc} {cells slots : Nat} {Q : State → Prop}
variable {mc ms : Nat} {free : Addr → Prop} {A0 A1 : Nat → Prop} {H0 : Heap} {a : Array Value} {ls : Array Slot} {st0 rest : List Value}
variable {Qc : Array Value → State → Outcome → State → Prop} {XC : String → State → State → Prop}
/-- what a body that may throw owes at its end -/
def vx_MQ (below : List Frame) (Qc : Array Value → State → Outcome → State → Prop) (XC : String → State → State → Prop) (a : Array Value) (s : State) (mc ms : Nat) (free : Addr → Prop) : State → Prop := fun t =>
  ∃ o, t.status = .running ∧ Ended t below o ∧ vx_Q Qc XC mc ms free a s o t
theorem vx_ret {g : JFrame} {mc ms : Nat} (k : W p l e R s m args below meth c H locs cells slots (MQ below Qc args s mc ms free) g) : W p l e R s m args below meth c H locs cells slots (vx_MQ below Qc XC args s mc ms free) g := by
  intro T hT X
  obtain ⟨t, a1, o, b1, b2, b3, b4⟩ := k T hT X
  exact ⟨t, a1, o, b1, b2, Or.inl ⟨b3, b4⟩⟩
/-- not caught here: it goes on to the caller -/
theorem vx_widen {g : JFrame} {q : Addr} {k n : Nat} (h1 : cells ≤ k) (h2 : slots ≤ n) (kk : vx_W p l e R s m args below meth c H locs k n Q g q) : vx_W p l e R s m args below meth c H locs cells slots Q g q := fun T hT X => kk T hT (stand_widen X h1 h2)
theorem vx_out {pc : Nat} {E : String} {ce : Cell} {q : Addr} {mc ms : Nat} (hout : ∀ x ∈ c.exceptionTable.toList, covers x pc = false) (hlocks : meth.locks = false) (hcell : H[q]? = some ce) (hv : ce.vm = .none) (hcl : s.vm.findClass E = some ce.cls)
    (hx : ∀ t : State, t.heap = H → s.vm.Alike t.vm → XC E s t) (hf : ∀ z ∈ locs, free z.base) (hc : cells ≤ mc) (hs : slots ≤ ms) :
    vx_W p l e R s m args below meth c H locs cells slots (vx_MQ below Qc XC args s mc ms free) (F0 m pc ls rest) q := by
  intro T hT X
  obtain ⟨st1, hrun, hend, hW, hsm⟩ := X.leaveThrown q (g := F0 m pc ls rest) rfl rfl rfl hout hlocks
  have hcell9 : (T.setFrames (.throwing q :: below)).heap[q]? = some ce := by
    show T.heap[q]? = some ce
    rw [hT]; exact hcell
  exact ⟨_, st1, .threw q, hrun, hend, Or.inr ⟨q, rfl, E, ce, locs, hx _ hT hW.alike, hcell9, hv, hcl, hW, hsm.mono hc hs, hf⟩⟩
theorem vx_frame {U : State} {k n : Nat} (h : s.sameButNew ({ U with vm := s.vm } : State) locs k n) : s.heap.size ≤ U.heap.size ∧ ∀ q : Nat, q < s.heap.size → (∀ z ∈ locs, z.base ≠ q) → U.heap[q]? = s.heap[q]? := by
  obtain ⟨-, h2, -, -, -, h6⟩ := h
  refine ⟨h2, fun q hq hz => ?_⟩
  obtain ⟨c9, e1, e2, e3, e4⟩ := h6 q _ (Array.getElem?_eq_getElem hq)
  have hs : c9.slots = (s.heap[q]).slots := Array.ext_getElem? fun i => e4 i fun hm => hz _ hm rfl
  have h9 : c9 = s.heap[q] := by
    rw [hs] at e2
    exact e2
  have e5 : U.heap[q]? = some c9 := e1
  rw [e5, h9, Array.getElem?_eq_getElem hq]
/-- the words of a throw but the four that speak of the heap -/
def vx_no (w : Cond) : Bool := decide (w ≠ .isRef (.static Bundle.tN "UNASSIGNED_STACK" Bundle.steD)) && decide (w ≠ .isRef (.static Bundle.tN "SUPPRESSED_SENTINEL" Bundle.listD)) && decide (w ≠ .laysStatic Bundle.tN "UNASSIGNED_STACK" Bundle.steD) && decide (w ≠ .laysStatic Bundle.tN "SUPPRESSED_SENTINEL" Bundle.listD)
def vx_at0 (own : String) (ic : Nat) (X : String) (names : List String) : List Cond := (Bundle.ownAtoms0 own ic X names).filter vx_no
def vx_atS (own : String) (ic : Nat) (X : String) (names : List String) : List Cond := (Bundle.ownAtoms own ic X names).filter vx_no
/-- a word that the tables alone decide, or a good one -/
def vx_ot (w : Cond) : Bool := w.onTables || goodWord w
theorem vx_ot_at {args a' : Array Value} {s U : State} {w : Cond} (hW : s.WarmedH U.vm) (hvm : s.vm = U.vm) (hg : vx_ot w = true) (h : w.before args s = true) : w.before a' U = true := by
  simp only [vx_ot, Bool.or_eq_true] at hg
  rcases hg with hg | hg
  · exact va_tabs hg hvm h
  · exact word_at hW (good_of_word hg) h
/-- a list's words: the good ones out of the method's own list, the others by premises of their own -/
theorem vx_hat {args : Array Value} {s : State} {L B : List Cond} (h1 : ∀ w ∈ L.filter goodWord, w.before args s = true) (h2 : ∀ w ∈ L.filter (fun w => !goodWord w), w ∈ B) (h3 : ∀ w ∈ B, w.before args s = true) : ∀ w ∈ L, w.before args s = true := by
  intro w hw
  by_cases g : goodWord w = true
  · exact h1 w (List.mem_filter.mpr ⟨hw, g⟩)
  · refine h3 w (h2 w (List.mem_filter.mpr ⟨hw, ?_⟩))
    show (!goodWord w) = true
    cases hgw : goodWord w
    · rfl
    · exact absurd hgw g
theorem vx_c {args : Array Value} {s : State} {w : Cond} {B : List Cond} (h : w.before args s = true) (t : ∀ w ∈ B, w.before args s = true) : ∀ w' ∈ w :: B, w'.before args s = true := fun w' h' => (List.mem_cons.mp h').elim (fun e => by rw [e]; exact h) (t w')
theorem vx_n {args : Array Value} {s : State} : ∀ w ∈ ([] : List Cond), w.before args s = true := fun _ h => nomatch h
theorem vx_own {args : Array Value} {s : State} {L : List Cond} (h1 : ∀ w ∈ L.filter vx_no, w.before args s = true)
    (hU : (Cond.isRef (.static Bundle.tN "UNASSIGNED_STACK" Bundle.steD)).before args s = true) (hN : (Cond.isRef (.static Bundle.tN "SUPPRESSED_SENTINEL" Bundle.listD)).before args s = true)
    (lU : (Cond.laysStatic Bundle.tN "UNASSIGNED_STACK" Bundle.steD).before args s = true) (lN : (Cond.laysStatic Bundle.tN "SUPPRESSED_SENTINEL" Bundle.listD).before args s = true) : ∀ w ∈ L, w.before args s = true := by
  intro w hw
  by_cases e1 : w = .isRef (.static Bundle.tN "UNASSIGNED_STACK" Bundle.steD)
  · rw [e1]; exact hU
  · by_cases e2 : w = .isRef (.static Bundle.tN "SUPPRESSED_SENTINEL" Bundle.listD)
    · rw [e2]; exact hN
    · by_cases e3 : w = .laysStatic Bundle.tN "UNASSIGNED_STACK" Bundle.steD
      · rw [e3]; exact lU
      · by_cases e4 : w = .laysStatic Bundle.tN "SUPPRESSED_SENTINEL" Bundle.listD
        · rw [e4]; exact lN
        · exact h1 w (List.mem_filter.mpr ⟨hw, by unfold vx_no; rw [decide_eq_true e1, decide_eq_true e2, decide_eq_true e3, decide_eq_true e4]; rfl⟩)
/-- where a static field lies, its class's statics cell in H -/
def vx_L (C n d : String) (A : Nat → Prop) (U : State) (H : Heap) : Prop := ∃ (c : ClassId) (k : Class) (i : Nat) (f : Field) (a : Nat) (cell : Cell), U.vm.findClass C = some c ∧ U.fieldFound? C n d = some (c, k, i, f) ∧ f.isStatic = true ∧ k.statics = some a ∧ H[a]? = some cell ∧ cell.vm.isStatics = true ∧ cell.cls = c ∧ f.slot < cell.slots.size ∧ k.staticTypes[f.slot]? = some f.type ∧ ¬ A a
theorem vx_L.moved {C n d : String} {A : Nat → Prop} {u U : State} {H : Heap} (hvm : u.vm.Alike U.vm) (h : vx_L C n d A u H) : vx_L C n d A U H := by
  obtain ⟨c, k, i, f, a, cell, h1, h2, h3, h4, h5, h6, h7, h8, h9, h10⟩ := h
  obtain ⟨k', hi', he⟩ := State.fieldFound?_setVm hvm h2
  exact ⟨c, k', i, f, a, cell, by rw [hvm.findClass]; exact h1, hi', h3, by rw [he]; exact h4, h5, h6, h7, h8, by rw [he]; exact h9, h10⟩
theorem vx_L.kept {C n d : String} {A : Nat → Prop} {U : State} {H H1 : Heap} (h : vx_L C n d A U H) (hq : ∀ a : Nat, a < H.size → ¬ A a → H1[a]? = H[a]?) : vx_L C n d A U H1 := by
  obtain ⟨c, k, i, f, a, cell, h1, h2, h3, h4, h5, h6, h7, h8, h9, h10⟩ := h
  exact ⟨c, k, i, f, a, cell, h1, h2, h3, h4, by rw [hq a (Array.getElem?_eq_some_iff.mp h5).1 h10]; exact h5, h6, h7, h8, h9, h10⟩
theorem vx_L.narrow {C n d : String} {A B : Nat → Prop} {U : State} {H : Heap} (h : vx_L C n d A U H) (hAB : ∀ q, B q → A q) : vx_L C n d B U H := by
  obtain ⟨c, k, i, f, a, cell, h1, h2, h3, h4, h5, h6, h7, h8, h9, h10⟩ := h
  exact ⟨c, k, i, f, a, cell, h1, h2, h3, h4, h5, h6, h7, h8, h9, fun z => h10 (hAB _ z)⟩
theorem vx_L.word {C n d : String} {A : Nat → Prop} {s : State} {args : Array Value} (h : vx_L C n d A s s.heap) : (Cond.laysStatic C n d).before args s = true := by
  obtain ⟨c, k, i, f, a, cell, h1, h2, h3, h4, h5, h6, h7, h8, h9, -⟩ := h
  show (Cond.laysStatic C n d).holds args s none s [] = true
  exact Cond.laysStatic_of h1 h2 h3 h4 h5 h6 h7 h8 h9
/-- .. and what it holds: null or some reference -/
def vx_Zq (C n d : String) (A : Nat → Prop) (U : State) (H : Heap) : Prop := va_Zq C n d A U H ∧ vx_L C n d A U H
theorem vx_Zq.moved {C n d : String} {A : Nat → Prop} {u U : State} {H : Heap} (hvm : u.vm.Alike U.vm) (h : vx_Zq C n d A u H) : vx_Zq C n d A U H := ⟨va_Zq.moved hvm h.1, vx_L.moved hvm h.2⟩
theorem vx_Zq.kept {C n d : String} {A : Nat → Prop} {U : State} {H H1 : Heap} (h : vx_Zq C n d A U H) (hq : ∀ a : Nat, a < H.size → ¬ A a → H1[a]? = H[a]?) : vx_Zq C n d A U H1 := ⟨va_Zq.kept h.1 hq, vx_L.kept h.2 hq⟩
theorem vx_Zq.narrow {C n d : String} {A B : Nat → Prop} {U : State} {H : Heap} (h : vx_Zq C n d A U H) (hAB : ∀ q, B q → A q) : vx_Zq C n d B U H := ⟨va_Zq.narrow h.1 hAB, vx_L.narrow h.2 hAB⟩
theorem vx_Zqof {args : Array Value} {s : State} {C n d : String} {A : Nat → Prop} (hl : (Cond.laysStatic C n d).before args s = true) (hini : (Cond.initialized C).before args s = true) (h : (Cond.isRef (.static C n d)).before args s = true) (hA : ∀ a : Nat, a < s.heap.size → ¬ A a) : vx_Zq C n d A s s.heap := by
  refine ⟨va_Zqof hl hini h hA, ?_⟩
  obtain ⟨c, k, i, f, a, cell, h1, h2, h3, h4, h5, h6, h7, h8, h9⟩ := Cond.laysStatic_spec hl
  exact ⟨c, k, i, f, a, cell, h1, h2, h3, h4, h5, h6, h7, h8, h9, hA a (Array.getElem?_eq_some_iff.mp h5).1⟩
theorem vx_isRef {C n d : String} {v : Value} {A : Nat → Prop} {s : State} {args : Array Value} (h : va_Z C n d v A s s.heap) (hv : v.isRef = true) : (Cond.isRef (.static C n d)).before args s = true := by
  obtain ⟨cf, kf, fi, f, a, cell, h1, h2, h3, h4, h5, h6, h7, -⟩ := h
  have he : (Term.static C n d).eval args s none [] s = some v := by
    simp [Term.eval, State.fieldNamed?, h1, h2, h4, h5, h6, h7]
  simp only [Cond.before, Cond.holds, Cond.value, he]
  cases v <;> simp_all [Value.isRef]
theorem vx_isRefq {C n d : String} {A : Nat → Prop} {s : State} {args : Array Value} (h : va_Zq C n d A s s.heap) : (Cond.isRef (.static C n d)).before args s = true := by
  rcases h with h | ⟨t, h⟩
  · exact vx_isRef h rfl
  · exact vx_isRef h rfl
/-- the same frame, seen from here: as if the method were called anew in this heap -/
theorem vx_rebase {T : State} (X : Stand p l e R s m args below meth c T locs cells slots) {R' : Room} (hf : R'.frames ≤ R.frames) (hl : R'.locals ≤ R.locals) (hc : cells + R'.cells ≤ R.cells) (hs : slots + R'.slots ≤ R.slots) :
    Stand p l e R' ((T.setVm s.vm).setFrames (.invoking m args :: below)) m args below meth c T [] 0 0 := by
  have htop : (T.setVm s.vm).topJava?.isSome := X.here.top
  have hF : ((T.setVm s.vm).setFrames (.invoking m args :: below)).frames = .invoking m args :: below := State.frames_setFrames _ (State.cur_lt_of_top htop)
  obtain ⟨g₀, hg0⟩ := Option.isSome_iff_exists.mp htop
  obtain ⟨r, hr⟩ := State.topJava?_eq_some.mp hg0
  have hl9 : e.platform.stackLimits (T.setVm s.vm).me = e.platform.stackLimits s.me := X.limits
  have hb9 : (T.setVm s.vm).me.stackBytes = s.me.stackBytes := X.bytes
  refine ⟨X.admits, X.cas, X.clock, hF, ?_, X.hears, X.method, X.code, X.here, X.tail, X.warmed, ?_, ?_, ?_⟩
  · have h := X.room
    have hU : ((T.setVm s.vm).setFrames (.invoking m args :: below)).localsInUse = s.localsInUse := by
      rw [State.localsInUse_invoking hF (meth := meth) (c := c) X.method X.code, State.localsInUse_invoking X.frames X.method X.code]
    simp only [State.hasRoom, Bool.and_eq_true, decide_eq_true_eq] at h ⊢
    obtain ⟨⟨⟨⟨h1, h2, h3, h4, h5, h6⟩, h7⟩, h8⟩, h9⟩ := h
    rw [X.frames, List.length_cons] at h2 h3
    have q1 := X.heapSize
    have q2 := X.used
    simp only [hF, hU, List.length_cons, State.stackLimits_setFrames, State.stackBytes_setFrames, hl9, hb9]
    refine ⟨⟨⟨⟨by omega, by omega, by omega, by omega, by omega, h6⟩, ?_⟩, ?_⟩, X.book⟩
    · show T.heap.size + R'.cells ≤ e.platform.maxCells
      omega
    · show T.slotsUsed + R'.slots ≤ e.platform.maxSlots
      omega
  · rw [State.stackLimits_setFrames]; rfl
  · rw [State.stackBytes_setFrames]; rfl
  · refine ⟨?_, Nat.le_refl _, Nat.le_refl _, ?_, ?_, fun a c9 h9 => ⟨c9, h9, rfl, rfl, fun _ _ => rfl⟩⟩
    · obtain ⟨t, ht, -⟩ := State.frames_cons hr
      show T.setVm s.vm = { ((T.setVm s.vm).setFrames (.invoking m args :: below)).setFrames (T.setVm s.vm).frames with heap := T.heap, slotsUsed := T.slotsUsed }
      rw [State.setFrames_setFrames, State.setFrames_self ht]
      rfl
    · show T.slotsUsed = T.slotsUsed + ((T.heap.toList.drop T.heap.size).map (·.slots.size)).sum
      rw [List.drop_eq_nil_of_le (Nat.le_of_eq Array.length_toList)]
      rfl
    · show ((T.heap.toList.drop T.heap.size).map (·.slots.size)).sum ≤ 0
      rw [List.drop_eq_nil_of_le (Nat.le_of_eq Array.length_toList)]
      exact Nat.le_refl _
/-- 'throw new E()': new; dup; invokespecial; athrow -/
theorem vx_throw0 {cc : ByteArray} {pc : Nat} (hexec : p.tables.exec = Jvm.exec) (hb : c.code = cc) (hl : l.stackTraces = false) {own cls : String} {names : List String} {ik ic mc ms : Nat} {A : Nat → Prop}
    (hown : s.vm.findClass own = some m.cls) (hcls : Bundle.fit cls = true) (hnames : ∀ n ∈ names, Bundle.fit n = true)
    (hk : (Cond.classLink own ik cls).before args s = true) (hini : (Cond.initialized cls).before args s = true) (hat : ∀ w ∈ vx_at0 own ic cls names, w.before args s = true)
    (hgood : ∀ w ∈ Cond.classLink own ik cls :: Cond.initialized cls :: vx_at0 own ic cls names, vx_ot w = true)
    (hU : vx_Zq Bundle.tN "UNASSIGNED_STACK" Bundle.steD A s s.heap) (hN : vx_Zq Bundle.tN "SUPPRESSED_SENTINEL" Bundle.listD A s s.heap) (hS : va_S A s.heap H locs) (hsize : ls.size = c.maxLocals)
    (d0 : decode cc pc = .ok (.new ik, 3)) (d3 : decode cc (pc + 3) = .ok (.dup, 1)) (d4 : decode cc (pc + 4) = .ok (.invokespecial ic, 3)) (d7 : decode cc (pc + 7) = .ok (.athrow, 1))
    (hout : ∀ x ∈ c.exceptionTable.toList, covers x (pc + 7) = false)
    (hRframes : names.length + 3 < R.frames) (hRlocals : (rest.map fun v => v.category).sum + (13 * (names.length + 1) + 42) ≤ R.locals) (hRcells : cells + 1 ≤ R.cells) (hRslots : slots + 6 ≤ R.slots) (hlocks : meth.locks = false)
    (hx : ∀ t : State, s.vm.Alike t.vm → H.size ≤ t.heap.size → (∀ q : Nat, q < H.size → t.heap[q]? = H[q]?) → XC cls s t)
    (hf : ∀ z ∈ locs, free z.base) (hc : cells + 1 ≤ mc) (hs : slots + 6 ≤ ms) :
    W p l e R s m args below meth c H locs cells slots (vx_MQ below Qc XC args s mc ms free) (F0 m pc ls rest) := by
  intro T hT X
  have htr : e.platform.stackTraces = false := (show e.platform.stackTraces = l.stackTraces by rw [X.admits.platform]).trans hl
  have Y := vx_rebase X (R' := { frames := R.frames, locals := R.locals, cells := 1, slots := 6 }) (Nat.le_refl _) (Nat.le_refl _) hRcells hRslots
  obtain ⟨s', hA⟩ : ∃ z, z = (T.setVm s.vm).setFrames (.invoking m args :: below) := ⟨_, rfl⟩
  rw [← hA] at Y
  have hvm : s'.vm = s.vm := by rw [hA]; rfl
  have hhp : s'.heap = H := by rw [hA]; exact hT
  have hW0 : s.WarmedH s'.vm := by rw [hvm]; exact State.WarmedH.refl s
  have hat' : ∀ w ∈ vx_at0 own ic cls names, w.before args s' = true := fun w hw => vx_ot_at hW0 hvm.symm (hgood w (List.mem_cons_of_mem _ (List.mem_cons_of_mem _ hw))) (hat w hw)
  have hk' : (Cond.classLink own ik cls).before args s' = true := vx_ot_at hW0 hvm.symm (hgood _ List.mem_cons_self) hk
  have hini' : (Cond.initialized cls).before args s' = true := vx_ot_at hW0 hvm.symm (hgood _ (List.mem_cons_of_mem _ List.mem_cons_self)) hini
  have hU' : vx_Zq Bundle.tN "UNASSIGNED_STACK" Bundle.steD A s' s'.heap := by rw [hhp]; exact vx_Zq.moved hW0.alike (hU.kept hS.2.1)
  have hN' : vx_Zq Bundle.tN "SUPPRESSED_SENTINEL" Bundle.listD A s' s'.heap := by rw [hhp]; exact vx_Zq.moved hW0.alike (hN.kept hS.2.1)
  have h : ∀ w ∈ Bundle.ownAtoms0 own ic cls names, w.before args s' = true := vx_own hat' (vx_isRefq hU'.1) (vx_isRefq hN'.1) hU'.2.word hN'.2.word
  have hown' : s'.vm.findClass own = some m.cls := by rw [hvm]; exact hown
  have hins : (Cond.instantiable cls 6).before args s' = true := h _ (by simp [Bundle.ownAtoms0])
  obtain ⟨vm₁, cX, kX, hfX, hkX, -, -, X₁, st1⟩ := Y.newCold hexec (own := own) (C := cls) (index := ik) (n := 6) hown' hk' hins hini'
    (g := F0 m pc ls rest) rfl (by rw [hb]; exact d0) (Nat.le_refl _) (Nat.le_refl _)
  generalize hT1 : (T.setVm vm₁).pushCell { cls := cX, slots := kX.instanceTypes.map defaultValue, vm := .none } = T1 at X₁ st1
  have hcat : (Value.ref T.heap.size).category = 1 := rfl
  have hcellA : T1.heap[T.heap.size]? = some (freshCell cX kX) := by rw [← hT1]; exact State.heap_pushCell_size _ _
  have d3' : decode c.code (pc + 3) = .ok (.dup, 1) := by rw [hb]; exact d3
  obtain ⟨U, hsteps, hrun, hend, hW, hsame, ce, hce, hO⟩ := X₁.ctorThrow0 hexec htr (own := own) (cls := cls) (names := names) (ic := ic) hown' hcls hnames h (fun x hx => nomatch hx) hfX hkX hcellA (by rw [hhp, hT]; exact Nat.le_refl _)
    (g := { method := m, pc := pc + 4, locals := ls, stack := .ref T.heap.size :: .ref T.heap.size :: rest, locked := none }) rfl hsize rfl rfl (rest := rest) rfl
    (by rw [hb]; exact d4) (by rw [hb]; exact d7) hout hRframes (by simp only [List.map_cons, List.sum_cons, hcat]; omega) hlocks
  obtain ⟨f1, f2⟩ := vx_frame hsame
  rw [hhp] at f1 f2
  have hWs : s.WarmedH U.vm := State.WarmedH.trans hW0 hW
  have hcl : s.vm.findClass cls = some ce.cls := by
    have h9 := hO.cls
    rw [hvm] at h9
    exact h9
  have hall : s.sameButNew ({ U with vm := s.vm } : State) locs mc ms := by
    subst hA
    obtain ⟨e1, e2⟩ := hsame
    rw [State.setFrames_setFrames] at e1
    have h2 : (T.setVm s.vm).sameButNew ({ U with vm := s.vm } : State) [] (0 + 1) (0 + 6) := ⟨e1, e2⟩
    have h3 := X.same.trans h2
    rw [List.append_nil] at h3
    exact h3.mono hc hs
  refine ⟨U, ?_, .threw T.heap.size, hrun, hend, Or.inr ⟨T.heap.size, rfl, cls, ce, locs, hx U hWs.alike f1 (fun q hq => f2 q hq (fun z hz => nomatch hz)), hce, hO.vm, hcl, hWs, hall, hf⟩⟩
  refine st1 _ ?_
  show Steps p.tables e below (T1.setTop { method := m, pc := pc + 3, locals := ls, stack := .ref T.heap.size :: rest, locked := none }) _
  jvm_step X₁.here [X₁.here.top, hexec, d3', Value.category]
  exact hsteps
/-- 'throw new E("text")': new; dup; ldc; invokespecial; athrow -/
theorem vx_throwS {cc : ByteArray} {pc : Nat} (hexec : p.tables.exec = Jvm.exec) (hb : c.code = cc) (hl : l.stackTraces = false) {own cls text : String} {names : List String} {ik is ic mc ms sa : Nat} {A : Nat → Prop}
    (hown : s.vm.findClass own = some m.cls) (hcls : Bundle.fit cls = true) (hnames : ∀ n ∈ names, Bundle.fit n = true)
    (hk : (Cond.classLink own ik cls).before args s = true) (hini : (Cond.initialized cls).before args s = true) (hstr : vk_R own is text sa s) (hat : ∀ w ∈ vx_atS own ic cls names, w.before args s = true)
    (hgood : ∀ w ∈ Cond.classLink own ik cls :: Cond.initialized cls :: vx_atS own ic cls names, vx_ot w = true)
    (hU : vx_Zq Bundle.tN "UNASSIGNED_STACK" Bundle.steD A s s.heap) (hN : vx_Zq Bundle.tN "SUPPRESSED_SENTINEL" Bundle.listD A s s.heap) (hS : va_S A s.heap H locs) (hsize : ls.size = c.maxLocals)
    (d0 : decode cc pc = .ok (.new ik, 3)) (d3 : decode cc (pc + 3) = .ok (.dup, 1)) (d4 : decode cc (pc + 4) = .ok (.ldc is, 2)) (d6 : decode cc (pc + 6) = .ok (.invokespecial ic, 3)) (d9 : decode cc (pc + 9) = .ok (.athrow, 1))
    (hout : ∀ x ∈ c.exceptionTable.toList, covers x (pc + 9) = false)
    (hRframes : names.length + 3 < R.frames) (hRlocals : (rest.map fun v => v.category).sum + (13 * (names.length + 1) + 43) ≤ R.locals) (hRcells : cells + 1 ≤ R.cells) (hRslots : slots + 6 ≤ R.slots) (hlocks : meth.locks = false)
    (hx : ∀ t : State, s.vm.Alike t.vm → H.size ≤ t.heap.size → (∀ q : Nat, q < H.size → t.heap[q]? = H[q]?) → XC cls s t)
    (hf : ∀ z ∈ locs, free z.base) (hc : cells + 1 ≤ mc) (hs : slots + 6 ≤ ms) :
    W p l e R s m args below meth c H locs cells slots (vx_MQ below Qc XC args s mc ms free) (F0 m pc ls rest) := by
  intro T hT X
  have htr : e.platform.stackTraces = false := (show e.platform.stackTraces = l.stackTraces by rw [X.admits.platform]).trans hl
  have Y := vx_rebase X (R' := { frames := R.frames, locals := R.locals, cells := 1, slots := 6 }) (Nat.le_refl _) (Nat.le_refl _) hRcells hRslots
  obtain ⟨s', hA⟩ : ∃ z, z = (T.setVm s.vm).setFrames (.invoking m args :: below) := ⟨_, rfl⟩
  rw [← hA] at Y
  have hvm : s'.vm = s.vm := by rw [hA]; rfl
  have hhp : s'.heap = H := by rw [hA]; exact hT
  have hW0 : s.WarmedH s'.vm := by rw [hvm]; exact State.WarmedH.refl s
  have hat' : ∀ w ∈ vx_atS own ic cls names, w.before args s' = true := fun w hw => vx_ot_at hW0 hvm.symm (hgood w (List.mem_cons_of_mem _ (List.mem_cons_of_mem _ hw))) (hat w hw)
  have hk' : (Cond.classLink own ik cls).before args s' = true := vx_ot_at hW0 hvm.symm (hgood _ List.mem_cons_self) hk
  have hini' : (Cond.initialized cls).before args s' = true := vx_ot_at hW0 hvm.symm (hgood _ (List.mem_cons_of_mem _ List.mem_cons_self)) hini
  have hU' : vx_Zq Bundle.tN "UNASSIGNED_STACK" Bundle.steD A s' s'.heap := by rw [hhp]; exact vx_Zq.moved hW0.alike (hU.kept hS.2.1)
  have hN' : vx_Zq Bundle.tN "SUPPRESSED_SENTINEL" Bundle.listD A s' s'.heap := by rw [hhp]; exact vx_Zq.moved hW0.alike (hN.kept hS.2.1)
  have h : ∀ w ∈ Bundle.ownAtoms own ic cls names, w.before args s' = true := vx_own hat' (vx_isRefq hU'.1) (vx_isRefq hN'.1) hU'.2.word hN'.2.word
  have hown' : s'.vm.findClass own = some m.cls := by rw [hvm]; exact hown
  have hins : (Cond.instantiable cls 6).before args s' = true := h _ (by simp [Bundle.ownAtoms])
  obtain ⟨vm₁, cX, kX, hfX, hkX, -, -, X₁, st1⟩ := Y.newCold hexec (own := own) (C := cls) (index := ik) (n := 6) hown' hk' hins hini'
    (g := F0 m pc ls rest) rfl (by rw [hb]; exact d0) (Nat.le_refl _) (Nat.le_refl _)
  generalize hT1 : (T.setVm vm₁).pushCell { cls := cX, slots := kX.instanceTypes.map defaultValue, vm := .none } = T1 at X₁ st1
  have hcat : (Value.ref T.heap.size).category = 1 := rfl
  have hcellA : T1.heap[T.heap.size]? = some (freshCell cX kX) := by rw [← hT1]; exact State.heap_pushCell_size _ _
  have d3' : decode c.code (pc + 3) = .ok (.dup, 1) := by rw [hb]; exact d3
  have d4' : decode c.code (pc + 4) = .ok (.ldc is, 2) := by rw [hb]; exact d4
  have hstr' : vk_R own is text sa s' := vk_R.warm hW0 hstr
  obtain ⟨U, hsteps, hrun, hend, hW, hsame, ce, hce, hO⟩ := X₁.ctorThrowS hexec htr (own := own) (cls := cls) (names := names) (ic := ic) hown' hcls hnames h (fun x hx => nomatch hx) hfX hkX hcellA (by rw [hhp, hT]; exact Nat.le_refl _) (msg := .ref sa) rfl
    (g := { method := m, pc := pc + 6, locals := ls, stack := .ref sa :: .ref T.heap.size :: .ref T.heap.size :: rest, locked := none }) rfl hsize rfl rfl (rest := rest) rfl
    (by rw [hb]; exact d6) (by rw [hb]; exact d9) hout hRframes (by simp only [List.map_cons, List.sum_cons, hcat]; omega) hlocks
  obtain ⟨f1, f2⟩ := vx_frame hsame
  rw [hhp] at f1 f2
  have hWs : s.WarmedH U.vm := State.WarmedH.trans hW0 hW
  have hcl : s.vm.findClass cls = some ce.cls := by
    have h9 := hO.cls
    rw [hvm] at h9
    exact h9
  have hall : s.sameButNew ({ U with vm := s.vm } : State) locs mc ms := by
    subst hA
    obtain ⟨e1, e2⟩ := hsame
    rw [State.setFrames_setFrames] at e1
    have h2 : (T.setVm s.vm).sameButNew ({ U with vm := s.vm } : State) [] (0 + 1) (0 + 6) := ⟨e1, e2⟩
    have h3 := X.same.trans h2
    rw [List.append_nil] at h3
    exact h3.mono hc hs
  refine ⟨U, ?_, .threw T.heap.size, hrun, hend, Or.inr ⟨T.heap.size, rfl, cls, ce, locs, hx U hWs.alike f1 (fun q hq => f2 q hq (fun z hz => nomatch hz)), hce, hO.vm, hcl, hWs, hall, hf⟩⟩
  refine st1 _ ?_
  show Steps p.tables e below (T1.setTop { method := m, pc := pc + 3, locals := ls, stack := .ref T.heap.size :: rest, locked := none }) _
  jvm_step X₁.here [X₁.here.top, hexec, d3', Value.category]
  exact X₁.ldcString hexec (own := own) (text := text) (index := is) (a := sa) hown' hstr'.1 hstr'.2
    (g := { method := m, pc := pc + 4, locals := ls, stack := .ref T.heap.size :: .ref T.heap.size :: rest, locked := none }) rfl d4' _ hsteps
/-- 'throw new E("text")', the text by a wide index -/
theorem vx_throwSW {cc : ByteArray} {pc : Nat} (hexec : p.tables.exec = Jvm.exec) (hb : c.code = cc) (hl : l.stackTraces = false) {own cls text : String} {names : List String} {ik is ic mc ms sa : Nat} {A : Nat → Prop}
    (hown : s.vm.findClass own = some m.cls) (hcls : Bundle.fit cls = true) (hnames : ∀ n ∈ names, Bundle.fit n = true)
    (hk : (Cond.classLink own ik cls).before args s = true) (hini : (Cond.initialized cls).before args s = true) (hstr : vk_R own is text sa s) (hat : ∀ w ∈ vx_atS own ic cls names, w.before args s = true)
    (hgood : ∀ w ∈ Cond.classLink own ik cls :: Cond.initialized cls :: vx_atS own ic cls names, vx_ot w = true)
    (hU : vx_Zq Bundle.tN "UNASSIGNED_STACK" Bundle.steD A s s.heap) (hN : vx_Zq Bundle.tN "SUPPRESSED_SENTINEL" Bundle.listD A s s.heap) (hS : va_S A s.heap H locs) (hsize : ls.size = c.maxLocals)
    (d0 : decode cc pc = .ok (.new ik, 3)) (d3 : decode cc (pc + 3) = .ok (.dup, 1)) (d4 : decode cc (pc + 4) = .ok (.ldc_w is, 3)) (d7 : decode cc (pc + 7) = .ok (.invokespecial ic, 3)) (d10 : decode cc (pc + 10) = .ok (.athrow, 1))
    (hout : ∀ x ∈ c.exceptionTable.toList, covers x (pc + 10) = false)
    (hRframes : names.length + 3 < R.frames) (hRlocals : (rest.map fun v => v.category).sum + (13 * (names.length + 1) + 43) ≤ R.locals) (hRcells : cells + 1 ≤ R.cells) (hRslots : slots + 6 ≤ R.slots) (hlocks : meth.locks = false)
    (hx : ∀ t : State, s.vm.Alike t.vm → H.size ≤ t.heap.size → (∀ q : Nat, q < H.size → t.heap[q]? = H[q]?) → XC cls s t)
    (hf : ∀ z ∈ locs, free z.base) (hc : cells + 1 ≤ mc) (hs : slots + 6 ≤ ms) :
    W p l e R s m args below meth c H locs cells slots (vx_MQ below Qc XC args s mc ms free) (F0 m pc ls rest) := by
  intro T hT X
  have htr : e.platform.stackTraces = false := (show e.platform.stackTraces = l.stackTraces by rw [X.admits.platform]).trans hl
  have Y := vx_rebase X (R' := { frames := R.frames, locals := R.locals, cells := 1, slots := 6 }) (Nat.le_refl _) (Nat.le_refl _) hRcells hRslots
  obtain ⟨s', hA⟩ : ∃ z, z = (T.setVm s.vm).setFrames (.invoking m args :: below) := ⟨_, rfl⟩
  rw [← hA] at Y
  have hvm : s'.vm = s.vm := by rw [hA]; rfl
  have hhp : s'.heap = H := by rw [hA]; exact hT
  have hW0 : s.WarmedH s'.vm := by rw [hvm]; exact State.WarmedH.refl s
  have hat' : ∀ w ∈ vx_atS own ic cls names, w.before args s' = true := fun w hw => vx_ot_at hW0 hvm.symm (hgood w (List.mem_cons_of_mem _ (List.mem_cons_of_mem _ hw))) (hat w hw)
  have hk' : (Cond.classLink own ik cls).before args s' = true := vx_ot_at hW0 hvm.symm (hgood _ List.mem_cons_self) hk
  have hini' : (Cond.initialized cls).before args s' = true := vx_ot_at hW0 hvm.symm (hgood _ (List.mem_cons_of_mem _ List.mem_cons_self)) hini
  have hU' : vx_Zq Bundle.tN "UNASSIGNED_STACK" Bundle.steD A s' s'.heap := by rw [hhp]; exact vx_Zq.moved hW0.alike (hU.kept hS.2.1)
  have hN' : vx_Zq Bundle.tN "SUPPRESSED_SENTINEL" Bundle.listD A s' s'.heap := by rw [hhp]; exact vx_Zq.moved hW0.alike (hN.kept hS.2.1)
  have h : ∀ w ∈ Bundle.ownAtoms own ic cls names, w.before args s' = true := vx_own hat' (vx_isRefq hU'.1) (vx_isRefq hN'.1) hU'.2.word hN'.2.word
  have hown' : s'.vm.findClass own = some m.cls := by rw [hvm]; exact hown
  have hins : (Cond.instantiable cls 6).before args s' = true := h _ (by simp [Bundle.ownAtoms])
  obtain ⟨vm₁, cX, kX, hfX, hkX, -, -, X₁, st1⟩ := Y.newCold hexec (own := own) (C := cls) (index := ik) (n := 6) hown' hk' hins hini'
    (g := F0 m pc ls rest) rfl (by rw [hb]; exact d0) (Nat.le_refl _) (Nat.le_refl _)
  generalize hT1 : (T.setVm vm₁).pushCell { cls := cX, slots := kX.instanceTypes.map defaultValue, vm := .none } = T1 at X₁ st1
  have hcat : (Value.ref T.heap.size).category = 1 := rfl
  have hcellA : T1.heap[T.heap.size]? = some (freshCell cX kX) := by rw [← hT1]; exact State.heap_pushCell_size _ _
  have d3' : decode c.code (pc + 3) = .ok (.dup, 1) := by rw [hb]; exact d3
  have d4' : decode c.code (pc + 4) = .ok (.ldc_w is, 3) := by rw [hb]; exact d4
  have hstr' : vk_R own is text sa s' := vk_R.warm hW0 hstr
  obtain ⟨U, hsteps, hrun, hend, hW, hsame, ce, hce, hO⟩ := X₁.ctorThrowS hexec htr (own := own) (cls := cls) (names := names) (ic := ic) hown' hcls hnames h (fun x hx => nomatch hx) hfX hkX hcellA (by rw [hhp, hT]; exact Nat.le_refl _) (msg := .ref sa) rfl
    (g := { method := m, pc := pc + 7, locals := ls, stack := .ref sa :: .ref T.heap.size :: .ref T.heap.size :: rest, locked := none }) rfl hsize rfl rfl (rest := rest) rfl
    (by rw [hb]; exact d7) (by rw [hb]; exact d10) hout hRframes (by simp only [List.map_cons, List.sum_cons, hcat]; omega) hlocks
  obtain ⟨f1, f2⟩ := vx_frame hsame
  rw [hhp] at f1 f2
  have hWs : s.WarmedH U.vm := State.WarmedH.trans hW0 hW
  have hcl : s.vm.findClass cls = some ce.cls := by
    have h9 := hO.cls
    rw [hvm] at h9
    exact h9
  have hall : s.sameButNew ({ U with vm := s.vm } : State) locs mc ms := by
    subst hA
    obtain ⟨e1, e2⟩ := hsame
    rw [State.setFrames_setFrames] at e1
    have h2 : (T.setVm s.vm).sameButNew ({ U with vm := s.vm } : State) [] (0 + 1) (0 + 6) := ⟨e1, e2⟩
    have h3 := X.same.trans h2
    rw [List.append_nil] at h3
    exact h3.mono hc hs
  refine ⟨U, ?_, .threw T.heap.size, hrun, hend, Or.inr ⟨T.heap.size, rfl, cls, ce, locs, hx U hWs.alike f1 (fun q hq => f2 q hq (fun z hz => nomatch hz)), hce, hO.vm, hcl, hWs, hall, hf⟩⟩
  refine st1 _ ?_
  show Steps p.tables e below (T1.setTop { method := m, pc := pc + 3, locals := ls, stack := .ref T.heap.size :: rest, locked := none }) _
  jvm_step X₁.here [X₁.here.top, hexec, d3', Value.category]
  exact X₁.ldcStringW hexec (own := own) (text := text) (index := is) (a := sa) hown' hstr'.1 hstr'.2
    (g := { method := m, pc := pc + 4, locals := ls, stack := .ref T.heap.size :: .ref T.heap.size :: rest, locked := none }) rfl d4' _ hsteps
end Ends
section Bodies
variable {l : Launch}
theorem vx_ofW {y : MethodName} {ws ws' : List Cond} {rm : Room} {Pc : Array Value → State → Prop} {Qc : Array Value → State → Outcome → State → Prop} {XC : String → State → State → Prop} {mc ms : Nat} {free : Addr → Prop} {cc : ByteArray} {maxL : Nat} {ret : Option FieldType}
    (hy : plainName y.cls = true) (hw : ws = Cond.code y cc maxL ret :: ws')
    (body : ∀ p e s m args below meth c s₁, BodyLoose p l y (headSpec ws rm) cc maxL ret e s m args below meth c s₁ → c.maxLocals = maxL → (∀ x ∈ c.exceptionTable.toList, False) → Pc args s →
      W p l e (headSpec ws rm).room s m args below meth c s.heap [] 0 0 (vx_MQ below Qc XC args s mc ms free) (entryFrame m args maxL)) : vx_Met l y ws rm Pc Qc XC mc ms free := by
  refine MetFree.of_bodyS (code := cc) (maxLocals := maxL) (ret := ret) hy ?_ ?_
  · intro args s m h hn
    obtain ⟨meth, c, h1, h2, h3, h4, h5, h6, -, -⟩ := Cond.code_spec hn (atoms_spec (ws := ws) h _ (by rw [hw]; exact List.mem_cons_self))
    exact ⟨meth, c, h1, h2, h3, h4, h5, h6⟩
  · intro p e s m args below meth c s₁ B hml hP _
    have hh0 : s₁.heap = s.heap := by rw [B.state]; rfl
    have ht : ∀ x ∈ c.exceptionTable.toList, False := by
      obtain ⟨meth9, c9, h1, h2, -, -, -, -, h7, -⟩ := Cond.code_spec B.named (atoms_spec (ws := ws) B.pre _ (by rw [hw]; exact List.mem_cons_self))
      cases Option.some.inj (h1.symm.trans B.method)
      cases Option.some.inj (h2.symm.trans (Stand.of_body B).code)
      intro x hx
      rw [Array.isEmpty_iff.mp h7] at hx
      cases hx
    obtain ⟨t, a1, o, b1, b2, b3⟩ := body p e s m args below meth c s₁ B hml ht hP s₁ hh0 (Stand.of_body B)
    exact ⟨t, o, a1, b1, b2, b3⟩
/-- the table of a body with handlers -/
theorem vx_table {p : Program} {x y : MethodName} {S : Spec} {cc bytes : ByteArray} {maxL maxL' : Nat} {ret ret' : Option FieldType} {e : Env} {s s₁ : State} {m : MethodId} {args : Array Value} {below : List Frame} {meth : Method} {c : Code} {hh : List (Nat × Nat × Nat × Nat)}
    (B : BodyLoose p l y S cc maxL ret e s m args below meth c s₁) (h : (Cond.codeWith y bytes maxL' ret' hh).before args s = true) : c.exceptionTable.toList = tableOf hh := by
  obtain ⟨m9, meth9, c9, hn9, h1, h2, -, -, h6, -⟩ := Cond.codeWith_spec h
  cases Option.some.inj (hn9.symm.trans B.named)
  cases Option.some.inj (h1.symm.trans B.method)
  cases Option.some.inj (h2.symm.trans (Stand.of_body B).code)
  rw [← h6, table_eq]
end Bodies
end VXA
/-! ===== END ===== -/
/-! ===== BEGIN a static call of a method with an exception table ===== -/
section VXS
variable {p : Program} {l : Launch} {e : Env} {R : Room} {s : State} {m : MethodId} {args : Array Value} {below : List Frame} {meth : Method} {c : Code} {T : State} {H : Heap} {locs : List Loc} {cells slots : Nat}
abbrev vx_CSW (R : Room) (s : State) (args : Array Value) (own : String) (index : Nat) (y : MethodName) (bytes : ByteArray) (maxL : Nat) (ret : Option FieldType) (hh : List (Nat × Nat × Nat × Nat)) (ws : List Cond) (rm : Room) (mc ms n : Nat) : Prop :=
  (rm.cells = mc ∧ rm.slots = ms ∧ rm.frames + 1 ≤ R.frames ∧ 8 + (maxL + 11) + rm.locals ≤ R.locals ∧ (∀ w ∈ ws, ∀ (a' : Array Value) (U : State), s.WarmedH U.vm → w.before a' U = true) ∧ Cond.codeWith y bytes maxL ret hh ∈ ws) ∧
  (Cond.codeWith y bytes maxL ret hh).before args s = true ∧ (Cond.initialized y.cls).before args s = true ∧ (y.cls ≠ "java/lang/invoke/MethodHandle" ∧ y.cls ≠ "java/lang/invoke/VarHandle") ∧
  (∀ sig, parseMethodDescriptor y.desc = some sig → n = sig.parameters.length) ∧ (Cond.methodLink own index y).before args s = true ∧ (Cond.static y).before args s = true
theorem vx_cwSW {own : String} {index maxL mc ms : Nat} {y : MethodName} {bytes : ByteArray} {ret : Option FieldType} {hh : List (Nat × Nat × Nat × Nat)} {Ts ws ws' : List Cond} {rm : Room} (n : Nat) (ht : ∀ w ∈ Ts, w.before args s = true) (hT : GoodIn Ts (va_wsS own index y ws)) (hw : ws = Cond.codeWith y bytes maxL ret hh :: ws') (hrc : rm.cells = mc) (hrs : rm.slots = ms)
    (hd : y.cls ≠ "java/lang/invoke/MethodHandle" ∧ y.cls ≠ "java/lang/invoke/VarHandle" ∧ (parseMethodDescriptor y.desc).map (fun d => d.parameters.length) = some n) (hR : rm.frames + 1 ≤ R.frames ∧ 8 + (maxL + 11) + rm.locals ≤ R.locals) :
    vx_CSW R s args own index y bytes maxL ret hh ws rm mc ms n := by
  have ok : ∀ w ∈ va_wsS own index y ws, w.before args s = true := fun w h => ht w (hT w h).1
  have hG : GoodIn Ts ws := fun w h => hT w (by unfold va_wsS; exact List.mem_append_right _ h)
  have hc : Cond.codeWith y bytes maxL ret hh ∈ ws := by rw [hw]; exact List.mem_cons_self
  refine ⟨⟨hrc, hrs, hR.1, hR.2, pay_in ht hG, hc⟩, ht _ (hG _ hc).1, ok _ (by simp [va_wsS]), ⟨hd.1, hd.2.1⟩, fun sig h => ?_, ok _ (by simp [va_wsS]), ok _ (by simp [va_wsS])⟩
  have h2 := hd.2.2
  rw [h] at h2
  exact (Option.some.inj h2).symm
theorem vx_callSW (X : Stand p l e R s m args below meth c T locs cells slots) (hexec : p.tables.exec = Jvm.exec) {own : String} {index : Nat} {y : MethodName} {bytes : ByteArray} {maxL : Nat} {ret : Option FieldType} {hh : List (Nat × Nat × Nat × Nat)}
    (hown : s.vm.findClass own = some m.cls) (hlink : (Cond.methodLink own index y).before args s = true) (hstat : (Cond.static y).before args s = true) (hinit : (Cond.initialized y.cls).before args s = true)
    (hcode : (Cond.codeWith y bytes maxL ret hh).before args s = true) (hy : y.cls ≠ "java/lang/invoke/MethodHandle" ∧ y.cls ≠ "java/lang/invoke/VarHandle")
    {W9 : Nat} {Pre : Pt → Array Value → Prop} {Post : Pt → Array Value → Option Value → Pt → Prop} (hK : Back l R p e below s args y 3 W9 Pre Post)
    {g : JFrame} (hg : g.method = m) (hsize : g.locals.size = c.maxLocals) {argsL rest : List Value} (hlen : ∀ sig, parseMethodDescriptor y.desc = some sig → argsL.length = sig.parameters.length)
    (hstack : g.stack = argsL.reverse ++ rest) (hW : 2 * g.monitorRoom + (rest.map fun v => v.category).sum ≤ W9) (hdg : decode c.code g.pc = .ok (.invokestatic index, 3))
    (hpre : ∀ vm₁, s.WarmedH vm₁ → Pre ⟨T.setVm vm₁, locs, cells, slots⟩ argsL.toArray) :
    ∃ (v : Option Value) (vm₁ : Vm) (B : Pt), s.WarmedH vm₁ ∧ Stand p l e R s m args below meth c B.U B.locs B.cells B.slots ∧ Post ⟨T.setVm vm₁, locs, cells, slots⟩ argsL.toArray v B ∧
      ∀ target, Steps p.tables e below (B.U.setTop { g with pc := g.pc + 3, stack := v.toList ++ rest }) target → Steps p.tables e below (T.setTop g) target := by
  obtain ⟨mk, methM, cM, hnamed, hmethM, -, -, -, -, -, -, hsigM⟩ := Cond.codeWith_spec hcode
  have hstatic : methM.isStatic = true := Cond.static_spec hnamed hmethM hstat
  obtain ⟨kP, hkP, -⟩ := className_of_methodNamed hnamed
  have hinitP : kP.init = .initialized := Cond.initialized_spec (findClass_of_methodNamed hnamed) hkP hinit
  obtain ⟨vm₁, X₁, hstep₁⟩ := X.invokestatic hexec hown hlink hnamed hmethM hstatic hkP hinitP hy (g := g) hg (argsL := argsL) (rest := rest) (hlen _ hsigM) hstack hdg
  obtain ⟨v, B, X', hpost, hsteps⟩ := hK m meth c ⟨T.setVm vm₁, locs, cells, slots⟩ { g with stack := rest } (.invokestatic index) mk argsL.toArray X₁ hg hsize hdg hW (X₁.named hnamed) (hpre vm₁ X₁.warmed)
  exact ⟨v, vm₁, B, X₁.warmed, X', hpost, fun target h => hstep₁ _ fun acts => by rw [doInvoke_state]; exact hsteps.trans h⟩
theorem vx_runSW {y : MethodName} {bytes cc : ByteArray} {maxL nL mc ms n index : Nat} {ret : Option FieldType} {hh : List (Nat × Nat × Nat × Nat)} {ws : List Cond} {rm : Room} {Pc : Array Value → State → Prop} {Qc : Array Value → State → Outcome → State → Prop} {free : Addr → Prop} {Ts : List Cond} {own : String} {As rest : List Value} {g : JFrame}
    (S : CallFix p m c cc nL s args Ts own) (hM : Met l y ws rm Pc Qc mc ms free) (cw : vx_CSW R s args own index y bytes maxL ret hh ws rm mc ms n) (hp : PreS s H Pc As)
    (hg : g.method = m) (hn : As.length = n) (hsize : g.locals.size = nL) (hstack : g.stack = As.reverse ++ rest) (hW : 2 * g.monitorRoom + (rest.map fun v => v.category).sum ≤ 8) (hdg : decode cc g.pc = .ok (.invokestatic index, 3)) (hf : cells + mc ≤ R.cells ∧ slots + ms ≤ R.slots) :
    va_Run p l e R s m args below meth c H locs cells slots mc ms g rest (Qc As.toArray) (free) := by
  obtain ⟨⟨hrc, hrs, hfr, hlo, hws, hcw⟩, hcode, hini, hy, hlen, hl, hstt⟩ := cw
  have hK : Back l R p e below s args y 3 8 (PreOf R mc ms Pc) (PostOf Qc mc ms free) := va_backW (hh := hh) (bytes := bytes) (maxL := maxL) (ret := ret) hM hp.1 hrc hrs hfr hlo hws hcw (fun a' U hW => word_at hW (Or.inl (by first | rfl | simp [Cond.onTables, Cond.keeps, Cond.steady])) hini)
  obtain ⟨hx, hb, hml, ho, -⟩ := S
  intro T hT X
  obtain ⟨v, vm₁, ⟨U', l2, c2, s2⟩, hW₁, X', ⟨g', mk, t, L, e1, e2, hq, h1, hL, h2, h3⟩, st⟩ := vx_callSW X hx (hh := hh) (bytes := bytes) (maxL := maxL) (ret := ret) ho hl hstt hini hcode hy hK hg (hsize.trans hml.symm) (argsL := As) (rest := rest) (fun sig h => hn.trans (hlen sig h)) hstack hW (by rw [hb]; exact hdg)
    (fun vm₁ hW₁ => ⟨hf.1, hf.2, hp.2 (T.setVm vm₁) hT hW₁⟩)
  dsimp only [Pt.U, Pt.locs, Pt.cells, Pt.slots] at X' e1 e2 h1 h2 h3 st
  subst h1; subst h2; subst h3
  exact ⟨v, (T.setVm vm₁).calling g' mk As.toArray, t, U', L, hT, X', hL, e1, e2, hq, st⟩
/-- not caught here, past rows that name other classes: it goes on to the caller -/
theorem vx_outP {p : Program} {l : Launch} {e : Env} {R : Room} {s : State} {m : MethodId} {args : Array Value} {below : List Frame} {meth : Method} {c : Code} {H : Heap} {locs : List Loc} {cells slots : Nat} {free : Addr → Prop} {ls : Array Slot} {rest : List Value} {Qc : Array Value → State → Outcome → State → Prop} {XC : String → State → State → Prop}
    {pc : Nat} {own E : String} {ce : Cell} {q : Addr} {mc ms : Nat} (hown : s.vm.findClass own = some m.cls) (hlocks : meth.locks = false)
    (hpass : ∀ z ∈ c.exceptionTable.toList, covers z pc = false ∨ (z.catchType ≠ 0 ∧ ∃ nm : String, (Cond.classLink own z.catchType nm).before args s = true ∧ va_Nc E nm s)) (hcell : H[q]? = some ce) (hv : ce.vm = .none) (hcl : s.vm.findClass E = some ce.cls)
    (hx : ∀ t : State, t.heap = H → s.vm.Alike t.vm → XC E s t) (hf : ∀ z ∈ locs, free z.base) (hc : cells ≤ mc) (hs : slots ≤ ms) :
    vx_W p l e R s m args below meth c H locs cells slots (vx_MQ below Qc XC args s mc ms free) (F0 m pc ls rest) q := by
  intro T hT X
  have hpl : e.platform.magicAccessors = ({} : Platform).magicAccessors := by rw [X.admits.platform]
  obtain ⟨vm', hW', X', st⟩ := X.outThrough hlocks q (g := F0 m pc ls rest) rfl rfl rfl (cell := ce) (by rw [hT]; exact hcell) (by rw [hv]; rfl)
    (by obtain ⟨k9, h9, -⟩ := Vm.findClass_spec hcl; exact ⟨k9, h9⟩) (fun z hz => by
      rcases hpass z hz with h | ⟨hz0, nm, hl1, hn1⟩
      · exact Or.inl h
      · obtain ⟨c6, hc6, hcl6⟩ := Cond.classLink_spec hown hl1 e.platform hpl
        obtain ⟨a8, b8, h1, h2, h3⟩ := hn1
        cases Option.some.inj (h1.symm.trans hcl)
        cases Option.some.inj (h2.symm.trans hc6)
        exact Or.inr ⟨hz0, _, hcl6, h3⟩)
  obtain ⟨g₀, hfr⟩ := X'.frames_eq
  have hcell9 : ((T.setVm vm').setFrames (.throwing q :: below)).heap[q]? = some ce := by
    show T.heap[q]? = some ce
    rw [hT]; exact hcell
  have hend : Ended ((T.setVm vm').setFrames (.throwing q :: below)) below (.threw q) := State.frames_setFrames _ (State.cur_lt_of_frames hfr)
  refine ⟨(T.setVm vm').setFrames (.throwing q :: below), ?_, .threw q, X'.here.running, hend, Or.inr ⟨q, rfl, E, ce, locs, hx _ hT (X'.ends _).1.alike, hcell9, hv, hcl, (X'.ends _).1, (X'.ends _).2.mono hc hs, hf⟩⟩
  rw [X.pushThrowing_eq]
  exact st
/-- a thing of a world lies in the heap -/
theorem vx_lt {D : va_G} {cl : List vw_C} {ws : va_W} {H1 : Heap} (h : va_P D cl ws H1) {k : Nat} {q : Nat × va_E} (hk : ws[k]? = some q) : q.1 < H1.size := (h k q hk).lt
end VXS
/-! ===== END ===== -/
/-! ===== BEGIN methods with a table of their own: called by a name, returning or throwing ===== -/
section VXH
/-! vx_backW, vx_callVX, vx_callSX, vx_callVW, vx_runVW, vx_runVX, vx_runSX, vx_ofWH follow the same proofs as their sisters above (Free/Laws.lean, Shelf42/LK1.lean); vx_outP calls Shelf42/NT130.lean (outThrough). -/
section
variable {l : Launch} {R : Room} {p : Program} {e : Env} {below : List Frame} {s : State} {sargs : Array Value} {y : MethodName} {len W9 : Nat}
theorem vx_backW {ws : List Cond} {rm : Room} {Pc : Array Value → State → Prop} {Qc : Array Value → State → Outcome → State → Prop} {XC : String → State → State → Prop} {mc ms : Nat} {free : Addr → Prop} {bytes : ByteArray} {maxL : Nat} {ret : Option FieldType} {hh : List (Nat × Nat × Nat × Nat)}
    (hM : vx_Met l y ws rm Pc Qc XC mc ms free) (hblind : FrameBlind Pc) (hrc : rm.cells = mc) (hrs : rm.slots = ms)
    (hframes : rm.frames + 1 ≤ R.frames) (hlocals : W9 + (maxL + 11) + rm.locals ≤ R.locals)
    (hws : ∀ w ∈ ws, ∀ a' U, s.WarmedH U.vm → w.before a' U = true) (hcode : Cond.codeWith y bytes maxL ret hh ∈ ws) (hinit : ∀ a' U, s.WarmedH U.vm → (Cond.initialized y.cls).before a' U = true) :
    vx_Back l R p e below s sargs y len W9 (PreOf R mc ms Pc) (PostOf Qc mc ms free) (vx_Post XC mc ms free) := by
  intro m meth c A g ig mk a X hg hsize hdg hW hn hp
  have h1 : (headSpec ws rm).pre.before a A.U = true := atoms_intro fun w hw => hws w hw _ _ X.warmed
  have h2 : (Cond.codeWith y bytes maxL ret hh).before a A.U = true := hws _ hcode _ _ X.warmed
  have h3 : (Cond.initialized y.cls).before a A.U = true := hinit _ _ X.warmed
  have h4 : A.cells + (headSpec ws rm).room.cells ≤ R.cells := by rw [show (headSpec ws rm).room.cells = mc from hrc]; exact hp.1
  have h5 : A.slots + (headSpec ws rm).room.slots ≤ R.slots := by rw [show (headSpec ws rm).room.slots = ms from hrs]; exact hp.2.1
  have hPc : Pc a (A.U.calling g mk a) := hblind _ _ _ _ hp.2.2
  obtain ⟨U, Ls, c0, s0⟩ := A
  dsimp only [Pt.U, Pt.locs, Pt.cells, Pt.slots] at h1 h2 h3 h4 h5 X hn hPc ⊢
  obtain ⟨m9, methY, cY, hn9, hmY, hcY, -, hlY, -⟩ := Cond.codeWith_spec h2
  cases Option.some.inj (hn9.symm.trans hn)
  obtain ⟨kY, hkY, -⟩ := className_of_methodNamed hn
  have hinitY : kY.init = .initialized := Cond.initialized_spec (findClass_of_methodNamed hn) hkY h3
  have h : At U g.method c below := by rw [hg]; exact X.here
  have hlocals9 : W9 + (maxL + 11) + (headSpec ws rm).room.locals ≤ R.locals := hlocals
  have happ : (headSpec ws rm).appliesLoose y e.platform (U.calling g mk a) = true :=
    Spec.appliesLoose_calling (g := g) h hdg hn hkY hinitY
      (X.room_calling (g := g) (R' := (headSpec ws rm).room) hsize hmY hcY hframes (by rw [hlY]; omega) h4 h5) h1
  obtain ⟨mid, hmid⟩ := h.above
  have hfr : (U.setTop g).frames = (.java g :: mid) ++ below := by rw [State.frames_setTop' g h.top, hmid]; rfl
  obtain ⟨o, s₂, hsteps, -, hend, hq⟩ := Steps.callFree hM p X.admits X.cas X.clock (acts := []) hfr happ hPc trivial
  have hq' : vx_Q Qc XC mc ms free a (U.calling g mk a) o s₂ := hq
  rw [State.frames_setTop' g h.top] at hend
  obtain ⟨g₀, hg0⟩ := Option.isSome_iff_exists.mp h.top
  obtain ⟨r, hr⟩ := State.topJava?_eq_some.mp hg0
  have hr' : (({ U with heap := s₂.heap, slotsUsed := s₂.slotsUsed } : State).setVm s₂.vm).frames = .java g₀ :: r := hr
  rcases hq' with ⟨hqc, L, hfe, hL⟩ | ⟨q, rfl, E, ce, L, hx, hce, hcv, hcl, hW₂, hsm, hL⟩
  · obtain ⟨⟨v, rfl⟩, hW₂, e2, q2, q3, q4, q5, q6⟩ := id hfe
    have e3 : s₂ = ({ (U.calling g mk a).setFrames s₂.frames with heap := s₂.heap, slotsUsed := s₂.slotsUsed } : State).setVm s₂.vm := by
      have : s₂ = ({ s₂ with vm := (U.calling g mk a).vm } : State).setVm s₂.vm := rfl
      rw [e2] at this
      exact this
    obtain ⟨c₂, i₂, len₂, hc₂, hd₂, hf₂⟩ := hend
    have hW' : U.WarmedH s₂.vm := hW₂
    have hcc : c₂ = c := by
      have h1 : s₂.code? g.method = U.code? g.method := by
        rw [State.code?_eq, State.code?_eq, hW'.alike.method?]
      exact Option.some.inj (hc₂.symm.trans (h1.trans h.code))
    subst hcc
    have hlen : len₂ = len := by rw [hdg] at hd₂; cases hd₂; rfl
    subst hlen
    have hs₂ : s₂ = (({ U with heap := s₂.heap, slotsUsed := s₂.slotsUsed } : State).setVm s₂.vm).setTop { g with pc := g.pc + len₂, stack := v.toList ++ g.stack } := by
      refine e3.trans ?_
      rw [hf₂, State.calling_eq h.top, State.setFrames_setFrames, State.setTop_of_frames _ hr', hr]
      rfl
    have hsame : U.sameButNew ({ U with heap := s₂.heap, slotsUsed := s₂.slotsUsed } : State) L mc ms := by
      refine ⟨?_, q2, q3, q4, q5, q6⟩
      obtain ⟨t, ht, -⟩ := State.frames_cons hr
      show ({ U with heap := s₂.heap, slotsUsed := s₂.slotsUsed } : State) = { U.setFrames U.frames with heap := s₂.heap, slotsUsed := s₂.slotsUsed }
      rw [State.setFrames_self ht]
    subst hg
    refine Or.inl ⟨v, ⟨(({ U with heap := s₂.heap, slotsUsed := s₂.slotsUsed } : State).setVm s₂.vm), Ls ++ L, c0 + mc, s0 + ms⟩,
      ⟨X.admits, X.cas, X.clock, X.frames, X.room, X.hears, X.method, X.code, (X.here.setHeapUsed s₂.heap s₂.slotsUsed).setVm hW'.alike, X.tail, State.WarmedH.trans X.warmed hW', X.limits, X.bytes, X.same.trans (hsame.setVm s.vm)⟩,
      ⟨g, mk, s₂, L, rfl, rfl, hqc, rfl, hL, rfl, rfl⟩, ?_⟩
    show Steps p.tables e below _ ((({ U with heap := s₂.heap, slotsUsed := s₂.slotsUsed } : State).setVm s₂.vm).setTop { g with pc := g.pc + len₂, stack := v.toList ++ g.stack })
    rw [← hs₂]
    exact hsteps
  · obtain ⟨e2, q2, q3, q4, q5, q6⟩ := id hsm
    have e3 : s₂ = ({ (U.calling g mk a).setFrames s₂.frames with heap := s₂.heap, slotsUsed := s₂.slotsUsed } : State).setVm s₂.vm := by
      have : s₂ = ({ s₂ with vm := (U.calling g mk a).vm } : State).setVm s₂.vm := rfl
      rw [e2] at this
      exact this
    have hf₂ : s₂.frames = .throwing q :: .java g :: U.frames.tail := hend
    have hW' : U.WarmedH s₂.vm := hW₂
    have hs₂ : s₂ = ((({ U with heap := s₂.heap, slotsUsed := s₂.slotsUsed } : State).setVm s₂.vm).setTop g).pushFrame (.throwing q) := by
      refine e3.trans ?_
      rw [hf₂, State.calling_eq h.top, State.setFrames_setFrames, State.pushFrame, State.frames_setTop _ hr', State.setTop_of_frames _ hr', State.setFrames_setFrames, hr]
      rfl
    have hsame : U.sameButNew ({ U with heap := s₂.heap, slotsUsed := s₂.slotsUsed } : State) L mc ms := by
      refine ⟨?_, q2, q3, q4, q5, q6⟩
      obtain ⟨t, ht, -⟩ := State.frames_cons hr
      show ({ U with heap := s₂.heap, slotsUsed := s₂.slotsUsed } : State) = { U.setFrames U.frames with heap := s₂.heap, slotsUsed := s₂.slotsUsed }
      rw [State.setFrames_self ht]
    subst hg
    refine Or.inr ⟨q, ⟨(({ U with heap := s₂.heap, slotsUsed := s₂.slotsUsed } : State).setVm s₂.vm), Ls ++ L, c0 + mc, s0 + ms⟩,
      ⟨X.admits, X.cas, X.clock, X.frames, X.room, X.hears, X.method, X.code, (X.here.setHeapUsed s₂.heap s₂.slotsUsed).setVm hW'.alike, X.tail, State.WarmedH.trans X.warmed hW', X.limits, X.bytes, X.same.trans (hsame.setVm s.vm)⟩,
      ⟨g, mk, s₂, L, E, ce, rfl, rfl, hx, hce, hcv, hcl, rfl, hL, rfl, rfl⟩, ?_⟩
    show Steps p.tables e below _ (((({ U with heap := s₂.heap, slotsUsed := s₂.slotsUsed } : State).setVm s₂.vm).setTop g).pushFrame (.throwing q))
    rw [← hs₂]
    exact hsteps
end
variable {p : Program} {l : Launch} {e : Env} {R : Room} {s : State} {m : MethodId} {args : Array Value} {below : List Frame} {meth : Method} {c : Code} {T : State} {H : Heap} {locs : List Loc} {cells slots : Nat}
theorem vx_callVX (X : Stand p l e R s m args below meth c T locs cells slots) (hexec : p.tables.exec = Jvm.exec) {own C : String} {index : Nat} {y : MethodName} {bytes : ByteArray} {maxL : Nat} {ret : Option FieldType} {hh : List (Nat × Nat × Nat × Nat)}
    (hown : s.vm.findClass own = some m.cls) (hlink : (Cond.methodLink own index y).before args s = true) (hinst : (Cond.instanceMethod y).before args s = true) (hsel : (Cond.selects C y y).before args s = true)
    (hcode : (Cond.codeWith y bytes maxL ret hh).before args s = true) (hy : y.cls ≠ "java/lang/invoke/MethodHandle" ∧ y.cls ≠ "java/lang/invoke/VarHandle")
    {W9 : Nat} {Pre : Pt → Array Value → Prop} {Post : Pt → Array Value → Option Value → Pt → Prop} {PostX : Pt → Array Value → Addr → Pt → Prop} (hK : vx_Back l R p e below s args y 3 W9 Pre Post PostX)
    {b : Addr} {cellB : Cell} (hcell : T.heap[b]? = some cellB) (hobj : cellB.vm.isStatics = false) (hcls : s.vm.findClass C = some cellB.cls)
    {g : JFrame} (hg : g.method = m) (hsize : g.locals.size = c.maxLocals) {argsL rest : List Value} (hlen : ∀ sig, parseMethodDescriptor y.desc = some sig → argsL.length = sig.parameters.length)
    (hstack : g.stack = argsL.reverse ++ .ref b :: rest) (hW : 2 * g.monitorRoom + (rest.map fun v => v.category).sum ≤ W9) (hdg : decode c.code g.pc = .ok (.invokevirtual index, 3))
    (hpre : ∀ vm₁, s.WarmedH vm₁ → Pre ⟨T.setVm vm₁, locs, cells, slots⟩ (Value.ref b :: argsL).toArray) :
    (∃ (v : Option Value) (vm₁ : Vm) (B : Pt), s.WarmedH vm₁ ∧ Stand p l e R s m args below meth c B.U B.locs B.cells B.slots ∧ Post ⟨T.setVm vm₁, locs, cells, slots⟩ (Value.ref b :: argsL).toArray v B ∧
      ∀ target, Steps p.tables e below (B.U.setTop { g with pc := g.pc + 3, stack := v.toList ++ rest }) target → Steps p.tables e below (T.setTop g) target) ∨
    (∃ (q : Addr) (vm₁ : Vm) (B : Pt), s.WarmedH vm₁ ∧ Stand p l e R s m args below meth c B.U B.locs B.cells B.slots ∧ PostX ⟨T.setVm vm₁, locs, cells, slots⟩ (Value.ref b :: argsL).toArray q B ∧
      Steps p.tables e below (T.setTop g) ((B.U.setTop { g with stack := rest }).pushFrame (.throwing q))) := by
  obtain ⟨mk, methM, hnamed, hmethM, hstM, habM⟩ := Cond.instanceMethod_spec hinst
  obtain ⟨m8, methM', cM, hn8, hmethM', -, -, -, -, -, -, hsigM⟩ := Cond.codeWith_spec hcode
  cases Option.some.inj (hn8.symm.trans hnamed)
  cases hmethM.symm.trans hmethM'
  obtain ⟨c2, r2, m2, q1, q2, q3, q4, kP, hkP, hkPi⟩ := Cond.selects_spec hsel
  cases hcls.symm.trans q1
  cases (State.methodFound?_of_named hnamed hy).symm.trans q2
  cases hnamed.symm.trans q3
  have hselP : selectMethod e.platform s.vm cellB.cls mk = .method mk := by rw [Launch.admits_selectMethod X.admits]; exact q4
  obtain ⟨vm₁, X₁, hstep₁⟩ := X.invokevirtual hexec hown hlink hnamed hmethM hstM hkP hkPi hy (a := b) (cell := cellB) hcell
    (fun z h => by rw [h] at hobj; cases hobj) hselP hmethM habM hkP hkPi (g := g) hg (argsL := argsL) (rest := rest) (hlen _ hsigM) hstack hdg
  rcases hK m meth c ⟨T.setVm vm₁, locs, cells, slots⟩ { g with stack := rest } (.invokevirtual index) mk (Value.ref b :: argsL).toArray X₁ hg hsize hdg hW (X₁.named hnamed) (hpre vm₁ X₁.warmed) with ⟨v, B, X', hpost, hsteps⟩ | ⟨q, B, X', hpost, hsteps⟩
  · exact Or.inl ⟨v, vm₁, B, X₁.warmed, X', hpost, fun target h => hstep₁ _ fun acts => by rw [doInvoke_state]; exact hsteps.trans h⟩
  · exact Or.inr ⟨q, vm₁, B, X₁.warmed, X', hpost, hstep₁ _ fun acts => by rw [doInvoke_state]; exact hsteps⟩
theorem vx_callSX (X : Stand p l e R s m args below meth c T locs cells slots) (hexec : p.tables.exec = Jvm.exec) {own : String} {index : Nat} {y : MethodName} {bytes : ByteArray} {maxL : Nat} {ret : Option FieldType} {hh : List (Nat × Nat × Nat × Nat)}
    (hown : s.vm.findClass own = some m.cls) (hlink : (Cond.methodLink own index y).before args s = true) (hstat : (Cond.static y).before args s = true) (hinit : (Cond.initialized y.cls).before args s = true)
    (hcode : (Cond.codeWith y bytes maxL ret hh).before args s = true) (hy : y.cls ≠ "java/lang/invoke/MethodHandle" ∧ y.cls ≠ "java/lang/invoke/VarHandle")
    {W9 : Nat} {Pre : Pt → Array Value → Prop} {Post : Pt → Array Value → Option Value → Pt → Prop} {PostX : Pt → Array Value → Addr → Pt → Prop} (hK : vx_Back l R p e below s args y 3 W9 Pre Post PostX)
    {g : JFrame} (hg : g.method = m) (hsize : g.locals.size = c.maxLocals) {argsL rest : List Value} (hlen : ∀ sig, parseMethodDescriptor y.desc = some sig → argsL.length = sig.parameters.length)
    (hstack : g.stack = argsL.reverse ++ rest) (hW : 2 * g.monitorRoom + (rest.map fun v => v.category).sum ≤ W9) (hdg : decode c.code g.pc = .ok (.invokestatic index, 3))
    (hpre : ∀ vm₁, s.WarmedH vm₁ → Pre ⟨T.setVm vm₁, locs, cells, slots⟩ argsL.toArray) :
    (∃ (v : Option Value) (vm₁ : Vm) (B : Pt), s.WarmedH vm₁ ∧ Stand p l e R s m args below meth c B.U B.locs B.cells B.slots ∧ Post ⟨T.setVm vm₁, locs, cells, slots⟩ argsL.toArray v B ∧
      ∀ target, Steps p.tables e below (B.U.setTop { g with pc := g.pc + 3, stack := v.toList ++ rest }) target → Steps p.tables e below (T.setTop g) target) ∨
    (∃ (q : Addr) (vm₁ : Vm) (B : Pt), s.WarmedH vm₁ ∧ Stand p l e R s m args below meth c B.U B.locs B.cells B.slots ∧ PostX ⟨T.setVm vm₁, locs, cells, slots⟩ argsL.toArray q B ∧
      Steps p.tables e below (T.setTop g) ((B.U.setTop { g with stack := rest }).pushFrame (.throwing q))) := by
  obtain ⟨mk, methM, cM, hnamed, hmethM, -, -, -, -, -, -, hsigM⟩ := Cond.codeWith_spec hcode
  have hstatic : methM.isStatic = true := Cond.static_spec hnamed hmethM hstat
  obtain ⟨kP, hkP, -⟩ := className_of_methodNamed hnamed
  have hinitP : kP.init = .initialized := Cond.initialized_spec (findClass_of_methodNamed hnamed) hkP hinit
  obtain ⟨vm₁, X₁, hstep₁⟩ := X.invokestatic hexec hown hlink hnamed hmethM hstatic hkP hinitP hy (g := g) hg (argsL := argsL) (rest := rest) (hlen _ hsigM) hstack hdg
  rcases hK m meth c ⟨T.setVm vm₁, locs, cells, slots⟩ { g with stack := rest } (.invokestatic index) mk argsL.toArray X₁ hg hsize hdg hW (X₁.named hnamed) (hpre vm₁ X₁.warmed) with ⟨v, B, X', hpost, hsteps⟩ | ⟨q, B, X', hpost, hsteps⟩
  · exact Or.inl ⟨v, vm₁, B, X₁.warmed, X', hpost, fun target h => hstep₁ _ fun acts => by rw [doInvoke_state]; exact hsteps.trans h⟩
  · exact Or.inr ⟨q, vm₁, B, X₁.warmed, X', hpost, hstep₁ _ fun acts => by rw [doInvoke_state]; exact hsteps⟩
theorem vx_callVW (X : Stand p l e R s m args below meth c T locs cells slots) (hexec : p.tables.exec = Jvm.exec) {own C : String} {index : Nat} {y : MethodName} {bytes : ByteArray} {maxL : Nat} {ret : Option FieldType} {hh : List (Nat × Nat × Nat × Nat)}
    (hown : s.vm.findClass own = some m.cls) (hlink : (Cond.methodLink own index y).before args s = true) (hinst : (Cond.instanceMethod y).before args s = true) (hsel : (Cond.selects C y y).before args s = true)
    (hcode : (Cond.codeWith y bytes maxL ret hh).before args s = true) (hy : y.cls ≠ "java/lang/invoke/MethodHandle" ∧ y.cls ≠ "java/lang/invoke/VarHandle")
    {W9 : Nat} {Pre : Pt → Array Value → Prop} {Post : Pt → Array Value → Option Value → Pt → Prop} (hK : Back l R p e below s args y 3 W9 Pre Post)
    {b : Addr} {cellB : Cell} (hcell : T.heap[b]? = some cellB) (hobj : cellB.vm.isStatics = false) (hcls : s.vm.findClass C = some cellB.cls)
    {g : JFrame} (hg : g.method = m) (hsize : g.locals.size = c.maxLocals) {argsL rest : List Value} (hlen : ∀ sig, parseMethodDescriptor y.desc = some sig → argsL.length = sig.parameters.length)
    (hstack : g.stack = argsL.reverse ++ .ref b :: rest) (hW : 2 * g.monitorRoom + (rest.map fun v => v.category).sum ≤ W9) (hdg : decode c.code g.pc = .ok (.invokevirtual index, 3))
    (hpre : ∀ vm₁, s.WarmedH vm₁ → Pre ⟨T.setVm vm₁, locs, cells, slots⟩ (Value.ref b :: argsL).toArray) :
    ∃ (v : Option Value) (vm₁ : Vm) (B : Pt), s.WarmedH vm₁ ∧ Stand p l e R s m args below meth c B.U B.locs B.cells B.slots ∧ Post ⟨T.setVm vm₁, locs, cells, slots⟩ (Value.ref b :: argsL).toArray v B ∧
      ∀ target, Steps p.tables e below (B.U.setTop { g with pc := g.pc + 3, stack := v.toList ++ rest }) target → Steps p.tables e below (T.setTop g) target := by
  obtain ⟨mk, methM, hnamed, hmethM, hstM, habM⟩ := Cond.instanceMethod_spec hinst
  obtain ⟨m8, methM', cM, hn8, hmethM', -, -, -, -, -, -, hsigM⟩ := Cond.codeWith_spec hcode
  cases Option.some.inj (hn8.symm.trans hnamed)
  cases hmethM.symm.trans hmethM'
  obtain ⟨c2, r2, m2, q1, q2, q3, q4, kP, hkP, hkPi⟩ := Cond.selects_spec hsel
  cases hcls.symm.trans q1
  cases (State.methodFound?_of_named hnamed hy).symm.trans q2
  cases hnamed.symm.trans q3
  have hselP : selectMethod e.platform s.vm cellB.cls mk = .method mk := by rw [Launch.admits_selectMethod X.admits]; exact q4
  obtain ⟨vm₁, X₁, hstep₁⟩ := X.invokevirtual hexec hown hlink hnamed hmethM hstM hkP hkPi hy (a := b) (cell := cellB) hcell
    (fun z h => by rw [h] at hobj; cases hobj) hselP hmethM habM hkP hkPi (g := g) hg (argsL := argsL) (rest := rest) (hlen _ hsigM) hstack hdg
  obtain ⟨v, B, X', hpost, hsteps⟩ := hK m meth c ⟨T.setVm vm₁, locs, cells, slots⟩ { g with stack := rest } (.invokevirtual index) mk (Value.ref b :: argsL).toArray X₁ hg hsize hdg hW (X₁.named hnamed) (hpre vm₁ X₁.warmed)
  exact ⟨v, vm₁, B, X₁.warmed, X', hpost, fun target h => hstep₁ _ fun acts => by rw [doInvoke_state]; exact hsteps.trans h⟩
abbrev vx_CVW (R : Room) (s : State) (args : Array Value) (own C : String) (index : Nat) (y : MethodName) (bytes : ByteArray) (maxL : Nat) (ret : Option FieldType) (hh : List (Nat × Nat × Nat × Nat)) (ws : List Cond) (rm : Room) (mc ms n : Nat) : Prop :=
  (rm.cells = mc ∧ rm.slots = ms ∧ rm.frames + 1 ≤ R.frames ∧ 8 + (maxL + 11) + rm.locals ≤ R.locals ∧ (∀ w ∈ ws, ∀ (a' : Array Value) (U : State), s.WarmedH U.vm → w.before a' U = true) ∧ Cond.codeWith y bytes maxL ret hh ∈ ws) ∧
  (Cond.codeWith y bytes maxL ret hh).before args s = true ∧ (Cond.initialized y.cls).before args s = true ∧ (y.cls ≠ "java/lang/invoke/MethodHandle" ∧ y.cls ≠ "java/lang/invoke/VarHandle") ∧
  (∀ sig, parseMethodDescriptor y.desc = some sig → n = sig.parameters.length) ∧ (Cond.methodLink own index y).before args s = true ∧ (Cond.instanceMethod y).before args s = true ∧ (Cond.selects C y y).before args s = true
theorem vx_cwVW {own C : String} {index maxL mc ms : Nat} {y : MethodName} {bytes : ByteArray} {ret : Option FieldType} {hh : List (Nat × Nat × Nat × Nat)} {Ts ws ws' : List Cond} {rm : Room} (n : Nat) (ht : ∀ w ∈ Ts, w.before args s = true) (hT : GoodIn Ts (wsV own index C y ws)) (hw : ws = Cond.codeWith y bytes maxL ret hh :: ws') (hrc : rm.cells = mc) (hrs : rm.slots = ms)
    (hd : y.cls = C ∧ y.cls ≠ "java/lang/invoke/MethodHandle" ∧ y.cls ≠ "java/lang/invoke/VarHandle" ∧ (parseMethodDescriptor y.desc).map (fun d => d.parameters.length) = some n) (hR : rm.frames + 1 ≤ R.frames ∧ 8 + (maxL + 11) + rm.locals ≤ R.locals) :
    vx_CVW R s args own C index y bytes maxL ret hh ws rm mc ms n := by
  obtain ⟨hC, hd⟩ := hd
  subst hC
  have ok : ∀ w ∈ wsV own index y.cls y ws, w.before args s = true := fun w h => ht w (hT w h).1
  have hG : GoodIn Ts ws := fun w h => hT w (by unfold wsV; exact List.mem_append_right _ h)
  have hc : Cond.codeWith y bytes maxL ret hh ∈ ws := by rw [hw]; exact List.mem_cons_self
  refine ⟨⟨hrc, hrs, hR.1, hR.2, pay_in ht hG, hc⟩, ht _ (hG _ hc).1, ok _ (by simp [wsV]), ⟨hd.1, hd.2.1⟩, fun sig h => ?_, ok _ (by simp [wsV]), ok _ (by simp [wsV]), ok _ (by simp [wsV])⟩
  have h2 := hd.2.2
  rw [h] at h2
  exact (Option.some.inj h2).symm
theorem vx_runVW {y : MethodName} {bytes cc : ByteArray} {maxL nL mc ms n index : Nat} {ret : Option FieldType} {hh : List (Nat × Nat × Nat × Nat)} {ws : List Cond} {rm : Room} {Pc : Array Value → State → Prop} {Qc : Array Value → State → Outcome → State → Prop} {free : Addr → Prop} {Ts : List Cond} {own C : String} {b : Addr} {As rest : List Value} {g : JFrame}
    (S : CallFix p m c cc nL s args Ts own) (hM : Met l y ws rm Pc Qc mc ms free) (cw : vx_CVW R s args own C index y bytes maxL ret hh ws rm mc ms n) (hp : PreV s H C b Pc As)
    (hg : g.method = m) (hn : As.length = n) (hsize : g.locals.size = nL) (hstack : g.stack = As.reverse ++ .ref b :: rest) (hW : 2 * g.monitorRoom + (rest.map fun v => v.category).sum ≤ 8) (hdg : decode cc g.pc = .ok (.invokevirtual index, 3)) (hf : cells + mc ≤ R.cells ∧ slots + ms ≤ R.slots) :
    va_Run p l e R s m args below meth c H locs cells slots mc ms g rest (Qc (Value.ref b :: As).toArray) free := by
  obtain ⟨⟨hrc, hrs, hfr, hlo, hws, hcw⟩, hcode, hini, hy, hlen, hl, hin, hse⟩ := cw
  have hK : Back l R p e below s args y 3 8 (PreOf R mc ms Pc) (PostOf Qc mc ms free) := va_backW (hh := hh) (bytes := bytes) (maxL := maxL) (ret := ret) hM hp.1 hrc hrs hfr hlo hws hcw (fun a' U hW => word_at hW (Or.inl (by first | rfl | simp [Cond.onTables, Cond.keeps, Cond.steady])) hini)
  obtain ⟨hx, hb, hml, ho, -⟩ := S
  obtain ⟨-, ⟨cellB, hcB, hoB, hclB⟩, hPc⟩ := hp
  intro T hT X
  obtain ⟨v, vm₁, ⟨U', l2, c2, s2⟩, hW₁, X', ⟨g', mk, t, L, e1, e2, hq, h1, hL, h2, h3⟩, st⟩ := vx_callVW X hx (C := C) (hh := hh) (bytes := bytes) (maxL := maxL) (ret := ret) ho hl hin hse hcode hy hK (by rw [hT]; exact hcB) hoB hclB hg (hsize.trans hml.symm) (argsL := As) (rest := rest) (fun sig h => hn.trans (hlen sig h)) hstack hW (by rw [hb]; exact hdg)
    (fun vm₁ hW₁ => ⟨hf.1, hf.2, hPc (T.setVm vm₁) hT hW₁⟩)
  dsimp only [Pt.U, Pt.locs, Pt.cells, Pt.slots] at X' e1 e2 h1 h2 h3 st
  subst h1; subst h2; subst h3
  exact ⟨v, (T.setVm vm₁).calling g' mk (Value.ref b :: As).toArray, t, U', L, hT, X', hL, e1, e2, hq, st⟩
section
variable {y : MethodName} {bytes cc : ByteArray} {maxL nL mc ms n index : Nat} {ret : Option FieldType} {ws : List Cond} {rm : Room} {Pc : Array Value → State → Prop} {Qc : Array Value → State → Outcome → State → Prop} {XC : String → State → State → Prop} {free : Addr → Prop} {Ts : List Cond} {own C : String} {b : Addr} {As rest : List Value} {g : JFrame}
theorem vx_runVX {hh : List (Nat × Nat × Nat × Nat)} (S : CallFix p m c cc nL s args Ts own) (hM : vx_Met l y ws rm Pc Qc XC mc ms free) (cw : vx_CVW R s args own C index y bytes maxL ret hh ws rm mc ms n) (hp : PreV s H C b Pc As)
    (hg : g.method = m) (hn : As.length = n) (hsize : g.locals.size = nL) (hstack : g.stack = As.reverse ++ .ref b :: rest) (hW : 2 * g.monitorRoom + (rest.map fun v => v.category).sum ≤ 8) (hdg : decode cc g.pc = .ok (.invokevirtual index, 3)) (hf : cells + mc ≤ R.cells ∧ slots + ms ≤ R.slots) :
    vx_Run p l e R s m args below meth c H locs cells slots mc ms g rest (Qc (Value.ref b :: As).toArray) XC free := by
  obtain ⟨⟨hrc, hrs, hfr, hlo, hws, hcw⟩, hcode, hini, hy, hlen, hl, hin, hse⟩ := cw
  have hK : vx_Back l R p e below s args y 3 8 (PreOf R mc ms Pc) (PostOf Qc mc ms free) (vx_Post XC mc ms free) := vx_backW (hh := hh) (bytes := bytes) (maxL := maxL) (ret := ret) hM hp.1 hrc hrs hfr hlo hws hcw (fun a' U hW => word_at hW (Or.inl (by first | rfl | simp [Cond.onTables, Cond.keeps, Cond.steady])) hini)
  obtain ⟨hx, hb, hml, ho, -⟩ := S
  obtain ⟨-, ⟨cellB, hcB, hoB, hclB⟩, hPc⟩ := hp
  intro T hT X
  rcases vx_callVX X hx (C := C) (hh := hh) (bytes := bytes) (maxL := maxL) (ret := ret) ho hl hin hse hcode hy hK (by rw [hT]; exact hcB) hoB hclB hg (hsize.trans hml.symm) (argsL := As) (rest := rest) (fun sig h => hn.trans (hlen sig h)) hstack hW (by rw [hb]; exact hdg)
    (fun vm₁ hW₁ => ⟨hf.1, hf.2, hPc (T.setVm vm₁) hT hW₁⟩) with ⟨v, vm₁, ⟨U', l2, c2, s2⟩, hW₁, X', ⟨g', mk, t, L, e1, e2, hq, h1, hL, h2, h3⟩, st⟩ | ⟨q, vm₁, ⟨U', l2, c2, s2⟩, hW₁, X', ⟨g', mk, t, L, E, ce, e1, e2, hq, hce, hcv, hcl, h1, hL, h2, h3⟩, st⟩
  · dsimp only [Pt.U, Pt.locs, Pt.cells, Pt.slots] at X' e1 e2 h1 h2 h3 st
    subst h1; subst h2; subst h3
    exact Or.inl ⟨v, (T.setVm vm₁).calling g' mk (Value.ref b :: As).toArray, t, U', L, hT, X', hL, e1, e2, hq, st⟩
  · dsimp only [Pt.U, Pt.locs, Pt.cells, Pt.slots] at X' e1 e2 h1 h2 h3 st hcl
    subst h1; subst h2; subst h3
    exact Or.inr ⟨q, (T.setVm vm₁).calling g' mk (Value.ref b :: As).toArray, t, U', L, E, ce, hT, X', hL, e1, e2, hq, hce, hcv, vx_cls hW₁ hcl, st⟩
theorem vx_runSX {hh : List (Nat × Nat × Nat × Nat)} (S : CallFix p m c cc nL s args Ts own) (hM : vx_Met l y ws rm Pc Qc XC mc ms free) (cw : vx_CSW R s args own index y bytes maxL ret hh ws rm mc ms n) (hp : PreS s H Pc As)
    (hg : g.method = m) (hn : As.length = n) (hsize : g.locals.size = nL) (hstack : g.stack = As.reverse ++ rest) (hW : 2 * g.monitorRoom + (rest.map fun v => v.category).sum ≤ 8) (hdg : decode cc g.pc = .ok (.invokestatic index, 3)) (hf : cells + mc ≤ R.cells ∧ slots + ms ≤ R.slots) :
    vx_Run p l e R s m args below meth c H locs cells slots mc ms g rest (Qc As.toArray) XC free := by
  obtain ⟨⟨hrc, hrs, hfr, hlo, hws, hcw⟩, hcode, hini, hy, hlen, hl, hstt⟩ := cw
  have hK : vx_Back l R p e below s args y 3 8 (PreOf R mc ms Pc) (PostOf Qc mc ms free) (vx_Post XC mc ms free) := vx_backW (hh := hh) (bytes := bytes) (maxL := maxL) (ret := ret) hM hp.1 hrc hrs hfr hlo hws hcw (fun a' U hW => word_at hW (Or.inl (by first | rfl | simp [Cond.onTables, Cond.keeps, Cond.steady])) hini)
  obtain ⟨hx, hb, hml, ho, -⟩ := S
  intro T hT X
  rcases vx_callSX X hx (hh := hh) (bytes := bytes) (maxL := maxL) (ret := ret) ho hl hstt hini hcode hy hK hg (hsize.trans hml.symm) (argsL := As) (rest := rest) (fun sig h => hn.trans (hlen sig h)) hstack hW (by rw [hb]; exact hdg)
    (fun vm₁ hW₁ => ⟨hf.1, hf.2, hp.2 (T.setVm vm₁) hT hW₁⟩) with ⟨v, vm₁, ⟨U', l2, c2, s2⟩, hW₁, X', ⟨g', mk, t, L, e1, e2, hq, h1, hL, h2, h3⟩, st⟩ | ⟨q, vm₁, ⟨U', l2, c2, s2⟩, hW₁, X', ⟨g', mk, t, L, E, ce, e1, e2, hq, hce, hcv, hcl, h1, hL, h2, h3⟩, st⟩
  · dsimp only [Pt.U, Pt.locs, Pt.cells, Pt.slots] at X' e1 e2 h1 h2 h3 st
    subst h1; subst h2; subst h3
    exact Or.inl ⟨v, (T.setVm vm₁).calling g' mk As.toArray, t, U', L, hT, X', hL, e1, e2, hq, st⟩
  · dsimp only [Pt.U, Pt.locs, Pt.cells, Pt.slots] at X' e1 e2 h1 h2 h3 st hcl
    subst h1; subst h2; subst h3
    exact Or.inr ⟨q, (T.setVm vm₁).calling g' mk As.toArray, t, U', L, E, ce, hT, X', hL, e1, e2, hq, hce, hcv, vx_cls hW₁ hcl, st⟩
end
end VXH
theorem vx_ofWH {l : Launch} {y : MethodName} {ws ws' : List Cond} {rm : Room} {Pc : Array Value → State → Prop} {Qc : Array Value → State → Outcome → State → Prop} {XC : String → State → State → Prop} {mc ms : Nat} {free : Addr → Prop} {cc : ByteArray} {maxL : Nat} {ret : Option FieldType} {hh : List (Nat × Nat × Nat × Nat)}
    (hy : plainName y.cls = true) (hw : ws = Cond.codeWith y cc maxL ret hh :: ws')
    (body : ∀ p e s m args below meth c s₁, BodyLoose p l y (headSpec ws rm) cc maxL ret e s m args below meth c s₁ → c.maxLocals = maxL → Pc args s →
      W p l e (headSpec ws rm).room s m args below meth c s.heap [] 0 0 (vx_MQ below Qc XC args s mc ms free) (entryFrame m args maxL)) : vx_Met l y ws rm Pc Qc XC mc ms free := by
  refine MetFree.of_bodyS (code := cc) (maxLocals := maxL) (ret := ret) hy ?_ ?_
  · intro args s m h hn
    obtain ⟨m9, meth, c, hn9, h1, h2, h3, h4, -, h5, h6, -⟩ := Cond.codeWith_spec (atoms_spec (ws := ws) h _ (by rw [hw]; exact List.mem_cons_self))
    cases hn.symm.trans hn9
    exact ⟨meth, c, h1, h2, h3, h4, h5, h6⟩
  · intro p e s m args below meth c s₁ B hml hP _
    have hh0 : s₁.heap = s.heap := by rw [B.state]; rfl
    obtain ⟨t, a1, o, b1, b2, b3⟩ := body p e s m args below meth c s₁ B hml hP s₁ hh0 (Stand.of_body B)
    exact ⟨t, o, a1, b1, b2, b3⟩
/-! ===== END ===== -/
end
section
def RX0 : String := "FormatVault$BestWays"
def TX0 : u_T := fun k => match k with
  | 0 => ("FormatVault$BestWays", "quality", "[I", true)
  | 1 => ("FormatVault$BestWays", "cost", "[I", true)
  | 2 => ("FormatVault$BestWays", "length", "[I", true)
  | 3 => ("FormatVault$BestWays", "steps", "[[I", true)
  | _ => ("FormatVault$BestWays", "isCurrent", "Z", false)
def tyX0 : Nat → FieldType := fun k => match k with
  | 0 => .array .int
  | 1 => .array .int
  | 2 => .array .int
  | 3 => .array (.array .int)
  | _ => .boolean
theorem nmX0 : ∀ a, a < 5 → ∀ b, b < 5 → a ≠ b → (TX0 a).2.1 ≠ (TX0 b).2.1 := by decide +kernel
theorem tyX0_ok : ∀ k, k < 5 → parseFieldDescriptor (TX0 k).2.2.1 = some (tyX0 k) := by decide +kernel
abbrev cX0_init : ByteArray := prog_2_method_1_code
def yX0_init : MethodName := ⟨RX0, "<init>", "()V"⟩
abbrev cX0_restart : ByteArray := prog_2_method_2_code
def yX0_restart : MethodName := ⟨RX0, "restart", "(I)V"⟩
abbrev cX0_offer : ByteArray := prog_2_method_3_code
def yX0_offer : MethodName := ⟨RX0, "offer", "(III[II)Z"⟩
def RX1 : String := "FormatVault$Converter"
def TX1 : u_T := fun k => match k with
  | 0 => ("FormatVault$Converter", "number", "I", true)
  | 1 => ("FormatVault$Converter", "from", "I", true)
  | 2 => ("FormatVault$Converter", "to", "I", true)
  | 3 => ("FormatVault$Converter", "loss", "I", true)
  | 4 => ("FormatVault$Converter", "cost", "I", true)
  | 5 => ("FormatVault$Converter", "isWithdrawn", "Z", false)
  | _ => ("FormatVault$Converter", "next", "LFormatVault$Converter;", false)
def tyX1 : Nat → FieldType := fun k => match k with
  | 0 => .int
  | 1 => .int
  | 2 => .int
  | 3 => .int
  | 4 => .int
  | 5 => .boolean
  | _ => .object "FormatVault$Converter"
theorem nmX1 : ∀ a, a < 7 → ∀ b, b < 7 → a ≠ b → (TX1 a).2.1 ≠ (TX1 b).2.1 := by decide +kernel
theorem tyX1_ok : ∀ k, k < 7 → parseFieldDescriptor (TX1 k).2.2.1 = some (tyX1 k) := by decide +kernel
abbrev cX1_init : ByteArray := prog_3_method_1_code
def yX1_init : MethodName := ⟨RX1, "<init>", "(IIIII)V"⟩
abbrev cX1_goesOn : ByteArray := prog_3_method_2_code
def yX1_goesOn : MethodName := ⟨RX1, "goesOn", "(I)Z"⟩
abbrev cX1_qualityAfter : ByteArray := prog_3_method_3_code
def yX1_qualityAfter : MethodName := ⟨RX1, "qualityAfter", "(I)I"⟩
def RX2 : String := "FormatVault$Law"
def TX2 : u_T := fun k => match k with
  | 0 => ("FormatVault$Law", "years", "I", false)
  | 1 => ("FormatVault$Law", "least", "I", false)
  | _ => ("FormatVault$Law", "reads", "I", false)
def tyX2 : Nat → FieldType := fun k => match k with
  | 0 => .int
  | 1 => .int
  | _ => .int
theorem nmX2 : ∀ a, a < 3 → ∀ b, b < 3 → a ≠ b → (TX2 a).2.1 ≠ (TX2 b).2.1 := by decide +kernel
theorem tyX2_ok : ∀ k, k < 3 → parseFieldDescriptor (TX2 k).2.2.1 = some (tyX2 k) := by decide +kernel
abbrev cX2_init : ByteArray := prog_4_method_1_code
def yX2_init : MethodName := ⟨RX2, "<init>", "()V"⟩
def RX3 : String := "FormatVault$Network"
def TX3 : u_T := fun k => match k with
  | 0 => ("FormatVault$Network", "converters", "[LFormatVault$Converter;", true)
  | 1 => ("FormatVault$Network", "count", "I", false)
  | 2 => ("FormatVault$Network", "lowestFrom", "[LFormatVault$Converter;", true)
  | 3 => ("FormatVault$Network", "highestFrom", "[LFormatVault$Converter;", true)
  | 4 => ("FormatVault$Network", "best", "[LFormatVault$BestWays;", true)
  | _ => ("FormatVault$Network", "trail", "[I", true)
def tyX3 : Nat → FieldType := fun k => match k with
  | 0 => .array (.object "FormatVault$Converter")
  | 1 => .int
  | 2 => .array (.object "FormatVault$Converter")
  | 3 => .array (.object "FormatVault$Converter")
  | 4 => .array (.object "FormatVault$BestWays")
  | _ => .array .int
theorem nmX3 : ∀ a, a < 6 → ∀ b, b < 6 → a ≠ b → (TX3 a).2.1 ≠ (TX3 b).2.1 := by decide +kernel
theorem tyX3_ok : ∀ k, k < 6 → parseFieldDescriptor (TX3 k).2.2.1 = some (tyX3 k) := by decide +kernel
abbrev cX3_init : ByteArray := prog_5_method_1_code
def yX3_init : MethodName := ⟨RX3, "<init>", "()V"⟩
abbrev cX3_add : ByteArray := prog_5_method_2_code
def yX3_add : MethodName := ⟨RX3, "add", "(LFormatVault$Converter;)I"⟩
abbrev cX3_withdrawOne : ByteArray := prog_5_method_3_code
def yX3_withdrawOne : MethodName := ⟨RX3, "withdrawOne", "(I)V"⟩
abbrev cX3_forgetWays : ByteArray := prog_5_method_4_code
def yX3_forgetWays : MethodName := ⟨RX3, "forgetWays", "()V"⟩
abbrev cX3_waysFrom : ByteArray := prog_5_method_5_code
def yX3_waysFrom : MethodName := ⟨RX3, "waysFrom", "(I)LFormatVault$BestWays;"⟩
abbrev cX3_greatestOfAllWays : ByteArray := prog_5_method_6_code
def yX3_greatestOfAllWays : MethodName := ⟨RX3, "greatestOfAllWays", "(II)I"⟩
abbrev cX3_qualityBehind : ByteArray := prog_5_method_7_code
def yX3_qualityBehind : MethodName := ⟨RX3, "qualityBehind", "(LFormatVault$BestWays;II)I"⟩
abbrev cX3_search : ByteArray := prog_5_method_8_code
def yX3_search : MethodName := ⟨RX3, "search", "(LFormatVault$Network;LFormatVault$BestWays;IIIII)V"⟩
abbrev cX3_greatestQuality : ByteArray := prog_5_method_9_code
def yX3_greatestQuality : MethodName := ⟨RX3, "greatestQuality", "(LFormatVault$Network;IIIII)I"⟩
def RX4 : String := "FormatVault$StoredFile"
def TX4 : u_T := fun k => match k with
  | 0 => ("FormatVault$StoredFile", "size", "I", true)
  | 1 => ("FormatVault$StoredFile", "law", "LFormatVault$Law;", true)
  | 2 => ("FormatVault$StoredFile", "end", "I", true)
  | 3 => ("FormatVault$StoredFile", "format", "I", false)
  | 4 => ("FormatVault$StoredFile", "quality", "I", false)
  | 5 => ("FormatVault$StoredFile", "lastRead", "I", false)
  | 6 => ("FormatVault$StoredFile", "state", "I", false)
  | _ => ("FormatVault$StoredFile", "isHeld", "Z", false)
def tyX4 : Nat → FieldType := fun k => match k with
  | 0 => .int
  | 1 => .object "FormatVault$Law"
  | 2 => .int
  | 3 => .int
  | 4 => .int
  | 5 => .int
  | 6 => .int
  | _ => .boolean
theorem nmX4 : ∀ a, a < 8 → ∀ b, b < 8 → a ≠ b → (TX4 a).2.1 ≠ (TX4 b).2.1 := by decide +kernel
theorem tyX4_ok : ∀ k, k < 8 → parseFieldDescriptor (TX4 k).2.2.1 = some (tyX4 k) := by decide +kernel
abbrev cX4_init : ByteArray := prog_6_method_1_code
def yX4_init : MethodName := ⟨RX4, "<init>", "(IILFormatVault$Law;I)V"⟩
def RX5 : String := "FormatVault"
def TX5 : u_T := fun k => match k with
  | 0 => ("FormatVault", "lasts", "[I", true)
  | 1 => ("FormatVault", "laws", "[LFormatVault$Law;", true)
  | 2 => ("FormatVault", "files", "[LFormatVault$StoredFile;", true)
  | 3 => ("FormatVault", "network", "LFormatVault$Network;", true)
  | 4 => ("FormatVault", "fileCount", "I", false)
  | 5 => ("FormatVault", "now", "I", false)
  | 6 => ("FormatVault", "budget", "I", false)
  | _ => ("FormatVault", "unspent", "I", false)
def tyX5 : Nat → FieldType := fun k => match k with
  | 0 => .array .int
  | 1 => .array (.object "FormatVault$Law")
  | 2 => .array (.object "FormatVault$StoredFile")
  | 3 => .object "FormatVault$Network"
  | 4 => .int
  | 5 => .int
  | 6 => .int
  | _ => .int
theorem nmX5 : ∀ a, a < 8 → ∀ b, b < 8 → a ≠ b → (TX5 a).2.1 ≠ (TX5 b).2.1 := by decide +kernel
theorem tyX5_ok : ∀ k, k < 8 → parseFieldDescriptor (TX5 k).2.2.1 = some (tyX5 k) := by decide +kernel
abbrev cX5_init : ByteArray := prog_1_method_1_code
def yX5_init : MethodName := ⟨RX5, "<init>", "()V"⟩
abbrev cX5_setLast : ByteArray := prog_1_method_2_code
def yX5_setLast : MethodName := ⟨RX5, "setLast", "(II)I"⟩
abbrev cX5_converter : ByteArray := prog_1_method_3_code
def yX5_converter : MethodName := ⟨RX5, "converter", "(IIII)I"⟩
abbrev cX5_withdraw : ByteArray := prog_1_method_4_code
def yX5_withdraw : MethodName := ⟨RX5, "withdraw", "(I)I"⟩
abbrev cX5_law : ByteArray := prog_1_method_5_code
def yX5_law : MethodName := ⟨RX5, "law", "(IIII)V"⟩
abbrev cX5_quality : ByteArray := prog_1_method_6_code
def yX5_quality : MethodName := ⟨RX5, "quality", "(II)I"⟩
abbrev cX5_qualityByAll : ByteArray := prog_1_method_7_code
def yX5_qualityByAll : MethodName := ⟨RX5, "qualityByAll", "(II)I"⟩
abbrev cX5_cost : ByteArray := prog_1_method_8_code
def yX5_cost : MethodName := ⟨RX5, "cost", "(II)I"⟩
abbrev cX5_stepAt : ByteArray := prog_1_method_9_code
def yX5_stepAt : MethodName := ⟨RX5, "stepAt", "(III)I"⟩
abbrev cX5_file : ByteArray := prog_1_method_10_code
def yX5_file : MethodName := ⟨RX5, "file", "(III)I"⟩
abbrev cX5_hold : ByteArray := prog_1_method_11_code
def yX5_hold : MethodName := ⟨RX5, "hold", "(IZ)Z"⟩
abbrev cX5_read : ByteArray := prog_1_method_12_code
def yX5_read : MethodName := ⟨RX5, "read", "(I)I"⟩
abbrev cX5_move : ByteArray := prog_1_method_13_code
def yX5_move : MethodName := ⟨RX5, "move", "(II)I"⟩
abbrev cX5_moveAhead : ByteArray := prog_1_method_14_code
def yX5_moveAhead : MethodName := ⟨RX5, "moveAhead", "()I"⟩
abbrev cX5_haven : ByteArray := prog_1_method_15_code
def yX5_haven : MethodName := ⟨RX5, "haven", "(I)I"⟩
abbrev cX5_isSafe : ByteArray := prog_1_method_16_code
def yX5_isSafe : MethodName := ⟨RX5, "isSafe", "(I)Z"⟩
abbrev cX5_stateOf : ByteArray := prog_1_method_17_code
def yX5_stateOf : MethodName := ⟨RX5, "stateOf", "(I)I"⟩
abbrev cX5_formatOf : ByteArray := prog_1_method_18_code
def yX5_formatOf : MethodName := ⟨RX5, "formatOf", "(I)I"⟩
abbrev cX5_qualityOf : ByteArray := prog_1_method_19_code
def yX5_qualityOf : MethodName := ⟨RX5, "qualityOf", "(I)I"⟩
abbrev cX5_endOf : ByteArray := prog_1_method_20_code
def yX5_endOf : MethodName := ⟨RX5, "endOf", "(I)I"⟩
abbrev cX5_setBudget : ByteArray := prog_1_method_21_code
def yX5_setBudget : MethodName := ⟨RX5, "setBudget", "(I)I"⟩
abbrev cX5_left : ByteArray := prog_1_method_22_code
def yX5_left : MethodName := ⟨RX5, "left", "()I"⟩
abbrev cX5_begin : ByteArray := prog_1_method_23_code
def yX5_begin : MethodName := ⟨RX5, "begin", "()I"⟩
abbrev cX5_year : ByteArray := prog_1_method_24_code
def yX5_year : MethodName := ⟨RX5, "year", "()I"⟩
abbrev cX5_overdue : ByteArray := prog_1_method_25_code
def yX5_overdue : MethodName := ⟨RX5, "overdue", "()I"⟩
abbrev cX5_promise : ByteArray := prog_1_method_26_code
def yX5_promise : MethodName := ⟨RX5, "promise", "(II)I"⟩
abbrev cX5_requireFormat : ByteArray := prog_1_method_27_code
def yX5_requireFormat : MethodName := ⟨RX5, "requireFormat", "(I)V"⟩
abbrev cX5_requireRange : ByteArray := prog_1_method_28_code
def yX5_requireRange : MethodName := ⟨RX5, "requireRange", "(III)V"⟩
abbrev cX5_requireKept : ByteArray := prog_1_method_29_code
def yX5_requireKept : MethodName := ⟨RX5, "requireKept", "(LFormatVault$StoredFile;)V"⟩
abbrev cX5_requireReadable : ByteArray := prog_1_method_30_code
def yX5_requireReadable : MethodName := ⟨RX5, "requireReadable", "(I)V"⟩
abbrev cX5_lawAt : ByteArray := prog_1_method_31_code
def yX5_lawAt : MethodName := ⟨RX5, "lawAt", "(I)LFormatVault$Law;"⟩
abbrev cX5_fileAt : ByteArray := prog_1_method_32_code
def yX5_fileAt : MethodName := ⟨RX5, "fileAt", "(I)LFormatVault$StoredFile;"⟩
abbrev cX5_isReadable : ByteArray := prog_1_method_33_code
def yX5_isReadable : MethodName := ⟨RX5, "isReadable", "(I)Z"⟩
abbrev cX5_yearsToPromiseIn : ByteArray := prog_1_method_34_code
def yX5_yearsToPromiseIn : MethodName := ⟨RX5, "yearsToPromiseIn", "(I)I"⟩
abbrev cX5_stateInNewYear : ByteArray := prog_1_method_35_code
def yX5_stateInNewYear : MethodName := ⟨RX5, "stateInNewYear", "(LFormatVault$StoredFile;)I"⟩
abbrev cX5_isSafeIn : ByteArray := prog_1_method_36_code
def yX5_isSafeIn : MethodName := ⟨RX5, "isSafeIn", "(LFormatVault$StoredFile;I)Z"⟩
abbrev cX5_findHaven : ByteArray := prog_1_method_37_code
def yX5_findHaven : MethodName := ⟨RX5, "findHaven", "(LFormatVault$StoredFile;)I"⟩
abbrev cX5_filesWithHaven : ByteArray := prog_1_method_38_code
def yX5_filesWithHaven : MethodName := ⟨RX5, "filesWithHaven", "()J"⟩
abbrev cX5_filesThatAreSafe : ByteArray := prog_1_method_39_code
def yX5_filesThatAreSafe : MethodName := ⟨RX5, "filesThatAreSafe", "()J"⟩
abbrev cX5_firstToEnd : ByteArray := prog_1_method_40_code
def yX5_firstToEnd : MethodName := ⟨RX5, "firstToEnd", "(J)I"⟩
abbrev cX5_costOfMove : ByteArray := prog_1_method_41_code
def yX5_costOfMove : MethodName := ⟨RX5, "costOfMove", "(LFormatVault$StoredFile;I)I"⟩
abbrev cX5_take : ByteArray := prog_1_method_42_code
def yX5_take : MethodName := ⟨RX5, "take", "(LFormatVault$StoredFile;I)V"⟩
def RX6 : String := "FormatVaultModel"
def TX6 : u_T := fun k => match k with
  | 0 => ("FormatVaultModel", "last", "[I", true)
  | 1 => ("FormatVaultModel", "from", "[I", true)
  | 2 => ("FormatVaultModel", "to", "[I", true)
  | 3 => ("FormatVaultModel", "loss", "[I", true)
  | 4 => ("FormatVaultModel", "price", "[I", true)
  | 5 => ("FormatVaultModel", "isGone", "[Z", true)
  | 6 => ("FormatVaultModel", "years", "[I", true)
  | 7 => ("FormatVaultModel", "least", "[I", true)
  | 8 => ("FormatVaultModel", "reads", "[I", true)
  | 9 => ("FormatVaultModel", "format", "[I", true)
  | 10 => ("FormatVaultModel", "size", "[I", true)
  | 11 => ("FormatVaultModel", "lawOf", "[I", true)
  | 12 => ("FormatVaultModel", "its", "[I", true)
  | 13 => ("FormatVaultModel", "end", "[I", true)
  | 14 => ("FormatVaultModel", "readIn", "[I", true)
  | 15 => ("FormatVaultModel", "state", "[I", true)
  | 16 => ("FormatVaultModel", "isHeld", "[Z", true)
  | 17 => ("FormatVaultModel", "had", "[Z", true)
  | 18 => ("FormatVaultModel", "due", "[Z", true)
  | 19 => ("FormatVaultModel", "bestQuality", "[I", true)
  | 20 => ("FormatVaultModel", "bestCost", "[I", true)
  | 21 => ("FormatVaultModel", "bestSteps", "[I", true)
  | 22 => ("FormatVaultModel", "bestWay", "[I", true)
  | 23 => ("FormatVaultModel", "way", "[I", true)
  | 24 => ("FormatVaultModel", "at", "[I", true)
  | 25 => ("FormatVaultModel", "quality", "[I", true)
  | 26 => ("FormatVaultModel", "cost", "[I", true)
  | 27 => ("FormatVaultModel", "next", "[I", true)
  | 28 => ("FormatVaultModel", "isOn", "[Z", true)
  | 29 => ("FormatVaultModel", "converters", "I", false)
  | 30 => ("FormatVaultModel", "files", "I", false)
  | 31 => ("FormatVaultModel", "budget", "I", false)
  | 32 => ("FormatVaultModel", "rest", "I", false)
  | 33 => ("FormatVaultModel", "now", "I", false)
  | 34 => ("FormatVaultModel", "isFound", "Z", false)
  | _ => ("FormatVaultModel", "thrown", "I", false)
def tyX6 : Nat → FieldType := fun k => match k with
  | 0 => .array .int
  | 1 => .array .int
  | 2 => .array .int
  | 3 => .array .int
  | 4 => .array .int
  | 5 => .array .boolean
  | 6 => .array .int
  | 7 => .array .int
  | 8 => .array .int
  | 9 => .array .int
  | 10 => .array .int
  | 11 => .array .int
  | 12 => .array .int
  | 13 => .array .int
  | 14 => .array .int
  | 15 => .array .int
  | 16 => .array .boolean
  | 17 => .array .boolean
  | 18 => .array .boolean
  | 19 => .array .int
  | 20 => .array .int
  | 21 => .array .int
  | 22 => .array .int
  | 23 => .array .int
  | 24 => .array .int
  | 25 => .array .int
  | 26 => .array .int
  | 27 => .array .int
  | 28 => .array .boolean
  | 29 => .int
  | 30 => .int
  | 31 => .int
  | 32 => .int
  | 33 => .int
  | 34 => .boolean
  | _ => .int
theorem nmX6 : ∀ a, a < 36 → ∀ b, b < 36 → a ≠ b → (TX6 a).2.1 ≠ (TX6 b).2.1 := by decide +kernel
theorem tyX6_ok : ∀ k, k < 36 → parseFieldDescriptor (TX6 k).2.2.1 = some (tyX6 k) := by decide +kernel
abbrev cX6_init : ByteArray := prog_8_method_1_code
def yX6_init : MethodName := ⟨RX6, "<init>", "()V"⟩
abbrev cX6_thrown : ByteArray := prog_8_method_2_code
def yX6_thrown : MethodName := ⟨RX6, "thrown", "()I"⟩
abbrev cX6_fails : ByteArray := prog_8_method_3_code
def yX6_fails : MethodName := ⟨RX6, "fails", "(I)I"⟩
abbrev cX6_in : ByteArray := prog_8_method_4_code
def yX6_in : MethodName := ⟨RX6, "in", "(III)Z"⟩
abbrev cX6_isNoFormat : ByteArray := prog_8_method_5_code
def yX6_isNoFormat : MethodName := ⟨RX6, "isNoFormat", "(I)Z"⟩
abbrev cX6_isNoFile : ByteArray := prog_8_method_6_code
def yX6_isNoFile : MethodName := ⟨RX6, "isNoFile", "(I)Z"⟩
abbrev cX6_canBeRead : ByteArray := prog_8_method_7_code
def yX6_canBeRead : MethodName := ⟨RX6, "canBeRead", "(I)Z"⟩
abbrev cX6_behind : ByteArray := prog_8_method_8_code
def yX6_behind : MethodName := ⟨RX6, "behind", "(II)I"⟩
abbrev cX6_offer : ByteArray := prog_8_method_9_code
def yX6_offer : MethodName := ⟨RX6, "offer", "(IIII)V"⟩
abbrev cX6_nextFrom : ByteArray := prog_8_method_10_code
def yX6_nextFrom : MethodName := ⟨RX6, "nextFrom", "(II)I"⟩
abbrev cX6_goAll : ByteArray := prog_8_method_11_code
def yX6_goAll : MethodName := ⟨RX6, "goAll", "(II)I"⟩
abbrev cX6_find : ByteArray := prog_8_method_12_code
def yX6_find : MethodName := ⟨RX6, "find", "()V"⟩
abbrev cX6_along : ByteArray := prog_8_method_13_code
def yX6_along : MethodName := ⟨RX6, "along", "(II)I"⟩
abbrev cX6_isSafeIn : ByteArray := prog_8_method_14_code
def yX6_isSafeIn : MethodName := ⟨RX6, "isSafeIn", "(II)Z"⟩
abbrev cX6_havenOf : ByteArray := prog_8_method_15_code
def yX6_havenOf : MethodName := ⟨RX6, "havenOf", "(I)I"⟩
abbrev cX6_affords : ByteArray := prog_8_method_16_code
def yX6_affords : MethodName := ⟨RX6, "affords", "(II)Z"⟩
abbrev cX6_take : ByteArray := prog_8_method_17_code
def yX6_take : MethodName := ⟨RX6, "take", "(II)V"⟩
abbrev cX6_setLast : ByteArray := prog_8_method_18_code
def yX6_setLast : MethodName := ⟨RX6, "setLast", "(II)I"⟩
abbrev cX6_converter : ByteArray := prog_8_method_19_code
def yX6_converter : MethodName := ⟨RX6, "converter", "(IIII)I"⟩
abbrev cX6_withdraw : ByteArray := prog_8_method_20_code
def yX6_withdraw : MethodName := ⟨RX6, "withdraw", "(I)I"⟩
abbrev cX6_law : ByteArray := prog_8_method_21_code
def yX6_law : MethodName := ⟨RX6, "law", "(IIII)V"⟩
abbrev cX6_quality : ByteArray := prog_8_method_22_code
def yX6_quality : MethodName := ⟨RX6, "quality", "(II)I"⟩
abbrev cX6_qualityByAll : ByteArray := prog_8_method_23_code
def yX6_qualityByAll : MethodName := ⟨RX6, "qualityByAll", "(II)I"⟩
abbrev cX6_cost : ByteArray := prog_8_method_24_code
def yX6_cost : MethodName := ⟨RX6, "cost", "(II)I"⟩
abbrev cX6_stepAt : ByteArray := prog_8_method_25_code
def yX6_stepAt : MethodName := ⟨RX6, "stepAt", "(III)I"⟩
abbrev cX6_file : ByteArray := prog_8_method_26_code
def yX6_file : MethodName := ⟨RX6, "file", "(III)I"⟩
abbrev cX6_hold : ByteArray := prog_8_method_27_code
def yX6_hold : MethodName := ⟨RX6, "hold", "(IZ)Z"⟩
abbrev cX6_read : ByteArray := prog_8_method_28_code
def yX6_read : MethodName := ⟨RX6, "read", "(I)I"⟩
abbrev cX6_move : ByteArray := prog_8_method_29_code
def yX6_move : MethodName := ⟨RX6, "move", "(II)I"⟩
abbrev cX6_nextDue : ByteArray := prog_8_method_30_code
def yX6_nextDue : MethodName := ⟨RX6, "nextDue", "()I"⟩
abbrev cX6_moveAhead : ByteArray := prog_8_method_31_code
def yX6_moveAhead : MethodName := ⟨RX6, "moveAhead", "()I"⟩
abbrev cX6_haven : ByteArray := prog_8_method_32_code
def yX6_haven : MethodName := ⟨RX6, "haven", "(I)I"⟩
abbrev cX6_isSafe : ByteArray := prog_8_method_33_code
def yX6_isSafe : MethodName := ⟨RX6, "isSafe", "(I)Z"⟩
abbrev cX6_stateOf : ByteArray := prog_8_method_34_code
def yX6_stateOf : MethodName := ⟨RX6, "stateOf", "(I)I"⟩
abbrev cX6_formatOf : ByteArray := prog_8_method_35_code
def yX6_formatOf : MethodName := ⟨RX6, "formatOf", "(I)I"⟩
abbrev cX6_qualityOf : ByteArray := prog_8_method_36_code
def yX6_qualityOf : MethodName := ⟨RX6, "qualityOf", "(I)I"⟩
abbrev cX6_endOf : ByteArray := prog_8_method_37_code
def yX6_endOf : MethodName := ⟨RX6, "endOf", "(I)I"⟩
abbrev cX6_setBudget : ByteArray := prog_8_method_38_code
def yX6_setBudget : MethodName := ⟨RX6, "setBudget", "(I)I"⟩
abbrev cX6_left : ByteArray := prog_8_method_39_code
def yX6_left : MethodName := ⟨RX6, "left", "()I"⟩
abbrev cX6_begin : ByteArray := prog_8_method_40_code
def yX6_begin : MethodName := ⟨RX6, "begin", "()I"⟩
abbrev cX6_year : ByteArray := prog_8_method_41_code
def yX6_year : MethodName := ⟨RX6, "year", "()I"⟩
abbrev cX6_overdue : ByteArray := prog_8_method_42_code
def yX6_overdue : MethodName := ⟨RX6, "overdue", "()I"⟩
abbrev cX6_promise : ByteArray := prog_8_method_43_code
def yX6_promise : MethodName := ⟨RX6, "promise", "(II)I"⟩
def RJ13 : String := "java/lang/Long"
abbrev cJ13_bitCount_95d88 : ByteArray := prog_13_method_50_code
def yJ13_bitCount_95d88 : MethodName := ⟨RJ13, "bitCount", "(J)I"⟩
def RJ9 : String := "java/lang/Math"
abbrev cJ9_max_7cf53 : ByteArray := prog_14_method_65_code
def yJ9_max_7cf53 : MethodName := ⟨RJ9, "max", "(II)I"⟩
abbrev cJ9_min_7cf53 : ByteArray := prog_14_method_69_code
def yJ9_min_7cf53 : MethodName := ⟨RJ9, "min", "(II)I"⟩
def RJ0 : String := "java/lang/String"
def RL : String := "FormatVaultLaw"
abbrev cL_setLast : ByteArray := method_3_code
def yL_setLast : MethodName := ⟨RL, "setLast", "(LFormatVault;II[J)I"⟩
abbrev cL_converter : ByteArray := method_4_code
def yL_converter : MethodName := ⟨RL, "converter", "(LFormatVault;IIII[J)I"⟩
abbrev cL_withdraw : ByteArray := method_5_code
def yL_withdraw : MethodName := ⟨RL, "withdraw", "(LFormatVault;I[J)I"⟩
abbrev cL_law : ByteArray := method_6_code
def yL_law : MethodName := ⟨RL, "law", "(LFormatVault;IIII)I"⟩
abbrev cL_quality : ByteArray := method_7_code
def yL_quality : MethodName := ⟨RL, "quality", "(LFormatVault;II[J)I"⟩
abbrev cL_qualityByAll : ByteArray := method_8_code
def yL_qualityByAll : MethodName := ⟨RL, "qualityByAll", "(LFormatVault;II[J)I"⟩
abbrev cL_cost : ByteArray := method_9_code
def yL_cost : MethodName := ⟨RL, "cost", "(LFormatVault;II[J)I"⟩
abbrev cL_stepAt : ByteArray := method_10_code
def yL_stepAt : MethodName := ⟨RL, "stepAt", "(LFormatVault;III[J)I"⟩
abbrev cL_file : ByteArray := method_11_code
def yL_file : MethodName := ⟨RL, "file", "(LFormatVault;III[J)I"⟩
abbrev cL_hold : ByteArray := method_12_code
def yL_hold : MethodName := ⟨RL, "hold", "(LFormatVault;IZ[J)I"⟩
abbrev cL_read : ByteArray := method_13_code
def yL_read : MethodName := ⟨RL, "read", "(LFormatVault;I[J)I"⟩
abbrev cL_move : ByteArray := method_14_code
def yL_move : MethodName := ⟨RL, "move", "(LFormatVault;II[J)I"⟩
abbrev cL_haven : ByteArray := method_15_code
def yL_haven : MethodName := ⟨RL, "haven", "(LFormatVault;I[J)I"⟩
abbrev cL_isSafe : ByteArray := method_16_code
def yL_isSafe : MethodName := ⟨RL, "isSafe", "(LFormatVault;I[J)I"⟩
abbrev cL_stateOf : ByteArray := method_17_code
def yL_stateOf : MethodName := ⟨RL, "stateOf", "(LFormatVault;I[J)I"⟩
abbrev cL_formatOf : ByteArray := method_18_code
def yL_formatOf : MethodName := ⟨RL, "formatOf", "(LFormatVault;I[J)I"⟩
abbrev cL_qualityOf : ByteArray := method_19_code
def yL_qualityOf : MethodName := ⟨RL, "qualityOf", "(LFormatVault;I[J)I"⟩
abbrev cL_endOf : ByteArray := method_20_code
def yL_endOf : MethodName := ⟨RL, "endOf", "(LFormatVault;I[J)I"⟩
abbrev cL_setBudget : ByteArray := method_21_code
def yL_setBudget : MethodName := ⟨RL, "setBudget", "(LFormatVault;I[J)I"⟩
abbrev cL_begin : ByteArray := method_22_code
def yL_begin : MethodName := ⟨RL, "begin", "(LFormatVault;[J)I"⟩
abbrev cL_promise : ByteArray := method_23_code
def yL_promise : MethodName := ⟨RL, "promise", "(LFormatVault;II[J)I"⟩
abbrev cL_law_ : ByteArray := code
def yL_law_ : MethodName := ⟨RL, "law", "([I)Z"⟩
abbrev vwCl : List vw_C := [(RX0, TX0, 5), (RX1, TX1, 7), (RX2, TX2, 3), (RX3, TX3, 6), (RX4, TX4, 8), (RX5, TX5, 8), (RX6, TX6, 36)]
end
section
theorem dX0_init_0 : decode cX0_init 0 = .ok (.aload_n 0, 1) := by decide +kernel
theorem dX0_init_1 : decode cX0_init 1 = .ok (.invokespecial 3, 3) := by decide +kernel
theorem dX0_init_4 : decode cX0_init 4 = .ok (.aload_n 0, 1) := by decide +kernel
theorem dX0_init_5 : decode cX0_init 5 = .ok (.bipush 10, 2) := by decide +kernel
theorem dX0_init_7 : decode cX0_init 7 = .ok (.newarray .int, 2) := by decide +kernel
theorem dX0_init_9 : decode cX0_init 9 = .ok (.putfield 9, 3) := by decide +kernel
theorem dX0_init_12 : decode cX0_init 12 = .ok (.aload_n 0, 1) := by decide +kernel
theorem dX0_init_13 : decode cX0_init 13 = .ok (.bipush 10, 2) := by decide +kernel
theorem dX0_init_15 : decode cX0_init 15 = .ok (.newarray .int, 2) := by decide +kernel
theorem dX0_init_17 : decode cX0_init 17 = .ok (.putfield 15, 3) := by decide +kernel
theorem dX0_init_20 : decode cX0_init 20 = .ok (.aload_n 0, 1) := by decide +kernel
theorem dX0_init_21 : decode cX0_init 21 = .ok (.bipush 10, 2) := by decide +kernel
theorem dX0_init_23 : decode cX0_init 23 = .ok (.newarray .int, 2) := by decide +kernel
theorem dX0_init_25 : decode cX0_init 25 = .ok (.putfield 18, 3) := by decide +kernel
theorem dX0_init_28 : decode cX0_init 28 = .ok (.aload_n 0, 1) := by decide +kernel
theorem dX0_init_29 : decode cX0_init 29 = .ok (.bipush 10, 2) := by decide +kernel
theorem dX0_init_31 : decode cX0_init 31 = .ok (.bipush 9, 2) := by decide +kernel
theorem dX0_init_33 : decode cX0_init 33 = .ok (.multianewarray 21 2, 4) := by decide +kernel
theorem dX0_init_37 : decode cX0_init 37 = .ok (.putfield 23, 3) := by decide +kernel
theorem dX0_init_40 : decode cX0_init 40 = .ok (.return_, 1) := by decide +kernel
theorem dX0_restart_0 : decode cX0_restart 0 = .ok (.iconst 0, 1) := by decide +kernel
theorem dX0_restart_1 : decode cX0_restart 1 = .ok (.istore_n 2, 1) := by decide +kernel
theorem dX0_restart_2 : decode cX0_restart 2 = .ok (.iload_n 2, 1) := by decide +kernel
theorem dX0_restart_3 : decode cX0_restart 3 = .ok (.bipush 10, 2) := by decide +kernel
theorem dX0_restart_5 : decode cX0_restart 5 = .ok (.if_icmp .ge 30, 3) := by decide +kernel
theorem dX0_restart_8 : decode cX0_restart 8 = .ok (.aload_n 0, 1) := by decide +kernel
theorem dX0_restart_9 : decode cX0_restart 9 = .ok (.getfield 9, 3) := by decide +kernel
theorem dX0_restart_12 : decode cX0_restart 12 = .ok (.iload_n 2, 1) := by decide +kernel
theorem dX0_restart_13 : decode cX0_restart 13 = .ok (.iconst (-1), 1) := by decide +kernel
theorem dX0_restart_14 : decode cX0_restart 14 = .ok (.iastore, 1) := by decide +kernel
theorem dX0_restart_15 : decode cX0_restart 15 = .ok (.aload_n 0, 1) := by decide +kernel
theorem dX0_restart_16 : decode cX0_restart 16 = .ok (.getfield 15, 3) := by decide +kernel
theorem dX0_restart_19 : decode cX0_restart 19 = .ok (.iload_n 2, 1) := by decide +kernel
theorem dX0_restart_20 : decode cX0_restart 20 = .ok (.iconst (-1), 1) := by decide +kernel
theorem dX0_restart_21 : decode cX0_restart 21 = .ok (.iastore, 1) := by decide +kernel
theorem dX0_restart_22 : decode cX0_restart 22 = .ok (.aload_n 0, 1) := by decide +kernel
theorem dX0_restart_23 : decode cX0_restart 23 = .ok (.getfield 18, 3) := by decide +kernel
theorem dX0_restart_26 : decode cX0_restart 26 = .ok (.iload_n 2, 1) := by decide +kernel
theorem dX0_restart_27 : decode cX0_restart 27 = .ok (.iconst 0, 1) := by decide +kernel
theorem dX0_restart_28 : decode cX0_restart 28 = .ok (.iastore, 1) := by decide +kernel
theorem dX0_restart_29 : decode cX0_restart 29 = .ok (.iinc 2 1, 3) := by decide +kernel
theorem dX0_restart_32 : decode cX0_restart 32 = .ok (.goto (-30), 3) := by decide +kernel
theorem dX0_restart_35 : decode cX0_restart 35 = .ok (.aload_n 0, 1) := by decide +kernel
theorem dX0_restart_36 : decode cX0_restart 36 = .ok (.getfield 9, 3) := by decide +kernel
theorem dX0_restart_39 : decode cX0_restart 39 = .ok (.iload_n 1, 1) := by decide +kernel
theorem dX0_restart_40 : decode cX0_restart 40 = .ok (.sipush 1000, 3) := by decide +kernel
theorem dX0_restart_43 : decode cX0_restart 43 = .ok (.iastore, 1) := by decide +kernel
theorem dX0_restart_44 : decode cX0_restart 44 = .ok (.aload_n 0, 1) := by decide +kernel
theorem dX0_restart_45 : decode cX0_restart 45 = .ok (.getfield 15, 3) := by decide +kernel
theorem dX0_restart_48 : decode cX0_restart 48 = .ok (.iload_n 1, 1) := by decide +kernel
theorem dX0_restart_49 : decode cX0_restart 49 = .ok (.iconst 0, 1) := by decide +kernel
theorem dX0_restart_50 : decode cX0_restart 50 = .ok (.iastore, 1) := by decide +kernel
theorem dX0_restart_51 : decode cX0_restart 51 = .ok (.return_, 1) := by decide +kernel
theorem dX0_offer_0 : decode cX0_offer 0 = .ok (.aload_n 0, 1) := by decide +kernel
theorem dX0_offer_1 : decode cX0_offer 1 = .ok (.getfield 9, 3) := by decide +kernel
theorem dX0_offer_4 : decode cX0_offer 4 = .ok (.iload_n 1, 1) := by decide +kernel
theorem dX0_offer_5 : decode cX0_offer 5 = .ok (.iaload, 1) := by decide +kernel
theorem dX0_offer_6 : decode cX0_offer 6 = .ok (.iconst (-1), 1) := by decide +kernel
theorem dX0_offer_7 : decode cX0_offer 7 = .ok (.if_icmp .ne 7, 3) := by decide +kernel
theorem dX0_offer_10 : decode cX0_offer 10 = .ok (.iconst 1, 1) := by decide +kernel
theorem dX0_offer_11 : decode cX0_offer 11 = .ok (.goto 4, 3) := by decide +kernel
theorem dX0_offer_14 : decode cX0_offer 14 = .ok (.iconst 0, 1) := by decide +kernel
theorem dX0_offer_15 : decode cX0_offer 15 = .ok (.istore 6, 2) := by decide +kernel
theorem dX0_offer_17 : decode cX0_offer 17 = .ok (.iload_n 3, 1) := by decide +kernel
theorem dX0_offer_18 : decode cX0_offer 18 = .ok (.aload_n 0, 1) := by decide +kernel
theorem dX0_offer_19 : decode cX0_offer 19 = .ok (.getfield 15, 3) := by decide +kernel
theorem dX0_offer_22 : decode cX0_offer 22 = .ok (.iload_n 1, 1) := by decide +kernel
theorem dX0_offer_23 : decode cX0_offer 23 = .ok (.iaload, 1) := by decide +kernel
theorem dX0_offer_24 : decode cX0_offer 24 = .ok (.if_icmp .ge 7, 3) := by decide +kernel
theorem dX0_offer_27 : decode cX0_offer 27 = .ok (.iconst 1, 1) := by decide +kernel
theorem dX0_offer_28 : decode cX0_offer 28 = .ok (.goto 4, 3) := by decide +kernel
theorem dX0_offer_31 : decode cX0_offer 31 = .ok (.iconst 0, 1) := by decide +kernel
theorem dX0_offer_32 : decode cX0_offer 32 = .ok (.istore 7, 2) := by decide +kernel
theorem dX0_offer_34 : decode cX0_offer 34 = .ok (.iload 5, 2) := by decide +kernel
theorem dX0_offer_36 : decode cX0_offer 36 = .ok (.aload_n 0, 1) := by decide +kernel
theorem dX0_offer_37 : decode cX0_offer 37 = .ok (.getfield 18, 3) := by decide +kernel
theorem dX0_offer_40 : decode cX0_offer 40 = .ok (.iload_n 1, 1) := by decide +kernel
theorem dX0_offer_41 : decode cX0_offer 41 = .ok (.iaload, 1) := by decide +kernel
theorem dX0_offer_42 : decode cX0_offer 42 = .ok (.if_icmp .ge 7, 3) := by decide +kernel
theorem dX0_offer_45 : decode cX0_offer 45 = .ok (.iconst 1, 1) := by decide +kernel
theorem dX0_offer_46 : decode cX0_offer 46 = .ok (.goto 4, 3) := by decide +kernel
theorem dX0_offer_49 : decode cX0_offer 49 = .ok (.iconst 0, 1) := by decide +kernel
theorem dX0_offer_50 : decode cX0_offer 50 = .ok (.istore 8, 2) := by decide +kernel
theorem dX0_offer_52 : decode cX0_offer 52 = .ok (.iload_n 2, 1) := by decide +kernel
theorem dX0_offer_53 : decode cX0_offer 53 = .ok (.aload_n 0, 1) := by decide +kernel
theorem dX0_offer_54 : decode cX0_offer 54 = .ok (.getfield 9, 3) := by decide +kernel
theorem dX0_offer_57 : decode cX0_offer 57 = .ok (.iload_n 1, 1) := by decide +kernel
theorem dX0_offer_58 : decode cX0_offer 58 = .ok (.iaload, 1) := by decide +kernel
theorem dX0_offer_59 : decode cX0_offer 59 = .ok (.if_icmp .gt 33, 3) := by decide +kernel
theorem dX0_offer_62 : decode cX0_offer 62 = .ok (.iload_n 2, 1) := by decide +kernel
theorem dX0_offer_63 : decode cX0_offer 63 = .ok (.aload_n 0, 1) := by decide +kernel
theorem dX0_offer_64 : decode cX0_offer 64 = .ok (.getfield 9, 3) := by decide +kernel
theorem dX0_offer_67 : decode cX0_offer 67 = .ok (.iload_n 1, 1) := by decide +kernel
theorem dX0_offer_68 : decode cX0_offer 68 = .ok (.iaload, 1) := by decide +kernel
theorem dX0_offer_69 : decode cX0_offer 69 = .ok (.if_icmp .ne 27, 3) := by decide +kernel
theorem dX0_offer_72 : decode cX0_offer 72 = .ok (.iload 7, 2) := by decide +kernel
theorem dX0_offer_74 : decode cX0_offer 74 = .ok (.ifCond .ne 18, 3) := by decide +kernel
theorem dX0_offer_77 : decode cX0_offer 77 = .ok (.iload_n 3, 1) := by decide +kernel
theorem dX0_offer_78 : decode cX0_offer 78 = .ok (.aload_n 0, 1) := by decide +kernel
theorem dX0_offer_79 : decode cX0_offer 79 = .ok (.getfield 15, 3) := by decide +kernel
theorem dX0_offer_82 : decode cX0_offer 82 = .ok (.iload_n 1, 1) := by decide +kernel
theorem dX0_offer_83 : decode cX0_offer 83 = .ok (.iaload, 1) := by decide +kernel
theorem dX0_offer_84 : decode cX0_offer 84 = .ok (.if_icmp .ne 12, 3) := by decide +kernel
theorem dX0_offer_87 : decode cX0_offer 87 = .ok (.iload 8, 2) := by decide +kernel
theorem dX0_offer_89 : decode cX0_offer 89 = .ok (.ifCond .eq 7, 3) := by decide +kernel
theorem dX0_offer_92 : decode cX0_offer 92 = .ok (.iconst 1, 1) := by decide +kernel
theorem dX0_offer_93 : decode cX0_offer 93 = .ok (.goto 4, 3) := by decide +kernel
theorem dX0_offer_96 : decode cX0_offer 96 = .ok (.iconst 0, 1) := by decide +kernel
theorem dX0_offer_97 : decode cX0_offer 97 = .ok (.istore 9, 2) := by decide +kernel
theorem dX0_offer_99 : decode cX0_offer 99 = .ok (.iload 6, 2) := by decide +kernel
theorem dX0_offer_101 : decode cX0_offer 101 = .ok (.ifCond .ne 8, 3) := by decide +kernel
theorem dX0_offer_104 : decode cX0_offer 104 = .ok (.iload 9, 2) := by decide +kernel
theorem dX0_offer_106 : decode cX0_offer 106 = .ok (.ifCond .eq 55, 3) := by decide +kernel
theorem dX0_offer_109 : decode cX0_offer 109 = .ok (.aload_n 0, 1) := by decide +kernel
theorem dX0_offer_110 : decode cX0_offer 110 = .ok (.getfield 9, 3) := by decide +kernel
theorem dX0_offer_113 : decode cX0_offer 113 = .ok (.iload_n 1, 1) := by decide +kernel
theorem dX0_offer_114 : decode cX0_offer 114 = .ok (.iload_n 2, 1) := by decide +kernel
theorem dX0_offer_115 : decode cX0_offer 115 = .ok (.iastore, 1) := by decide +kernel
theorem dX0_offer_116 : decode cX0_offer 116 = .ok (.aload_n 0, 1) := by decide +kernel
theorem dX0_offer_117 : decode cX0_offer 117 = .ok (.getfield 15, 3) := by decide +kernel
theorem dX0_offer_120 : decode cX0_offer 120 = .ok (.iload_n 1, 1) := by decide +kernel
theorem dX0_offer_121 : decode cX0_offer 121 = .ok (.iload_n 3, 1) := by decide +kernel
theorem dX0_offer_122 : decode cX0_offer 122 = .ok (.iastore, 1) := by decide +kernel
theorem dX0_offer_123 : decode cX0_offer 123 = .ok (.aload_n 0, 1) := by decide +kernel
theorem dX0_offer_124 : decode cX0_offer 124 = .ok (.getfield 18, 3) := by decide +kernel
theorem dX0_offer_127 : decode cX0_offer 127 = .ok (.iload_n 1, 1) := by decide +kernel
theorem dX0_offer_128 : decode cX0_offer 128 = .ok (.iload 5, 2) := by decide +kernel
theorem dX0_offer_130 : decode cX0_offer 130 = .ok (.iastore, 1) := by decide +kernel
theorem dX0_offer_131 : decode cX0_offer 131 = .ok (.iconst 0, 1) := by decide +kernel
theorem dX0_offer_132 : decode cX0_offer 132 = .ok (.istore 10, 2) := by decide +kernel
theorem dX0_offer_134 : decode cX0_offer 134 = .ok (.iload 10, 2) := by decide +kernel
theorem dX0_offer_136 : decode cX0_offer 136 = .ok (.iload 5, 2) := by decide +kernel
theorem dX0_offer_138 : decode cX0_offer 138 = .ok (.if_icmp .ge 23, 3) := by decide +kernel
theorem dX0_offer_141 : decode cX0_offer 141 = .ok (.aload_n 0, 1) := by decide +kernel
theorem dX0_offer_142 : decode cX0_offer 142 = .ok (.getfield 23, 3) := by decide +kernel
theorem dX0_offer_145 : decode cX0_offer 145 = .ok (.iload_n 1, 1) := by decide +kernel
theorem dX0_offer_146 : decode cX0_offer 146 = .ok (.aaload, 1) := by decide +kernel
theorem dX0_offer_147 : decode cX0_offer 147 = .ok (.iload 10, 2) := by decide +kernel
theorem dX0_offer_149 : decode cX0_offer 149 = .ok (.aload 4, 2) := by decide +kernel
theorem dX0_offer_151 : decode cX0_offer 151 = .ok (.iload 10, 2) := by decide +kernel
theorem dX0_offer_153 : decode cX0_offer 153 = .ok (.iaload, 1) := by decide +kernel
theorem dX0_offer_154 : decode cX0_offer 154 = .ok (.iastore, 1) := by decide +kernel
theorem dX0_offer_155 : decode cX0_offer 155 = .ok (.iinc 10 1, 3) := by decide +kernel
theorem dX0_offer_158 : decode cX0_offer 158 = .ok (.goto (-24), 3) := by decide +kernel
theorem dX0_offer_161 : decode cX0_offer 161 = .ok (.iload 6, 2) := by decide +kernel
theorem dX0_offer_163 : decode cX0_offer 163 = .ok (.ifCond .ne 18, 3) := by decide +kernel
theorem dX0_offer_166 : decode cX0_offer 166 = .ok (.iload 9, 2) := by decide +kernel
theorem dX0_offer_168 : decode cX0_offer 168 = .ok (.ifCond .ne 13, 3) := by decide +kernel
theorem dX0_offer_171 : decode cX0_offer 171 = .ok (.iload 7, 2) := by decide +kernel
theorem dX0_offer_173 : decode cX0_offer 173 = .ok (.ifCond .ne 8, 3) := by decide +kernel
theorem dX0_offer_176 : decode cX0_offer 176 = .ok (.iload 8, 2) := by decide +kernel
theorem dX0_offer_178 : decode cX0_offer 178 = .ok (.ifCond .eq 7, 3) := by decide +kernel
theorem dX0_offer_181 : decode cX0_offer 181 = .ok (.iconst 1, 1) := by decide +kernel
theorem dX0_offer_182 : decode cX0_offer 182 = .ok (.goto 4, 3) := by decide +kernel
theorem dX0_offer_185 : decode cX0_offer 185 = .ok (.iconst 0, 1) := by decide +kernel
theorem dX0_offer_186 : decode cX0_offer 186 = .ok (.ireturn, 1) := by decide +kernel
theorem dX1_init_0 : decode cX1_init 0 = .ok (.aload_n 0, 1) := by decide +kernel
theorem dX1_init_1 : decode cX1_init 1 = .ok (.invokespecial 3, 3) := by decide +kernel
theorem dX1_init_4 : decode cX1_init 4 = .ok (.aload_n 0, 1) := by decide +kernel
theorem dX1_init_5 : decode cX1_init 5 = .ok (.iload_n 1, 1) := by decide +kernel
theorem dX1_init_6 : decode cX1_init 6 = .ok (.putfield 9, 3) := by decide +kernel
theorem dX1_init_9 : decode cX1_init 9 = .ok (.aload_n 0, 1) := by decide +kernel
theorem dX1_init_10 : decode cX1_init 10 = .ok (.iload_n 2, 1) := by decide +kernel
theorem dX1_init_11 : decode cX1_init 11 = .ok (.putfield 15, 3) := by decide +kernel
theorem dX1_init_14 : decode cX1_init 14 = .ok (.aload_n 0, 1) := by decide +kernel
theorem dX1_init_15 : decode cX1_init 15 = .ok (.iload_n 3, 1) := by decide +kernel
theorem dX1_init_16 : decode cX1_init 16 = .ok (.putfield 18, 3) := by decide +kernel
theorem dX1_init_19 : decode cX1_init 19 = .ok (.aload_n 0, 1) := by decide +kernel
theorem dX1_init_20 : decode cX1_init 20 = .ok (.iload 4, 2) := by decide +kernel
theorem dX1_init_22 : decode cX1_init 22 = .ok (.putfield 21, 3) := by decide +kernel
theorem dX1_init_25 : decode cX1_init 25 = .ok (.aload_n 0, 1) := by decide +kernel
theorem dX1_init_26 : decode cX1_init 26 = .ok (.iload 5, 2) := by decide +kernel
theorem dX1_init_28 : decode cX1_init 28 = .ok (.putfield 24, 3) := by decide +kernel
theorem dX1_init_31 : decode cX1_init 31 = .ok (.return_, 1) := by decide +kernel
theorem dX1_goesOn_0 : decode cX1_goesOn 0 = .ok (.aload_n 0, 1) := by decide +kernel
theorem dX1_goesOn_1 : decode cX1_goesOn 1 = .ok (.getfield 27, 3) := by decide +kernel
theorem dX1_goesOn_4 : decode cX1_goesOn 4 = .ok (.ifCond .ne 18, 3) := by decide +kernel
theorem dX1_goesOn_7 : decode cX1_goesOn 7 = .ok (.iload_n 1, 1) := by decide +kernel
theorem dX1_goesOn_8 : decode cX1_goesOn 8 = .ok (.iconst 1, 1) := by decide +kernel
theorem dX1_goesOn_9 : decode cX1_goesOn 9 = .ok (.aload_n 0, 1) := by decide +kernel
theorem dX1_goesOn_10 : decode cX1_goesOn 10 = .ok (.getfield 18, 3) := by decide +kernel
theorem dX1_goesOn_13 : decode cX1_goesOn 13 = .ok (.ishl, 1) := by decide +kernel
theorem dX1_goesOn_14 : decode cX1_goesOn 14 = .ok (.iand, 1) := by decide +kernel
theorem dX1_goesOn_15 : decode cX1_goesOn 15 = .ok (.ifCond .ne 7, 3) := by decide +kernel
theorem dX1_goesOn_18 : decode cX1_goesOn 18 = .ok (.iconst 1, 1) := by decide +kernel
theorem dX1_goesOn_19 : decode cX1_goesOn 19 = .ok (.goto 4, 3) := by decide +kernel
theorem dX1_goesOn_22 : decode cX1_goesOn 22 = .ok (.iconst 0, 1) := by decide +kernel
theorem dX1_goesOn_23 : decode cX1_goesOn 23 = .ok (.ireturn, 1) := by decide +kernel
theorem dX1_qualityAfter_0 : decode cX1_qualityAfter 0 = .ok (.iload_n 1, 1) := by decide +kernel
theorem dX1_qualityAfter_1 : decode cX1_qualityAfter 1 = .ok (.sipush 1000, 3) := by decide +kernel
theorem dX1_qualityAfter_4 : decode cX1_qualityAfter 4 = .ok (.aload_n 0, 1) := by decide +kernel
theorem dX1_qualityAfter_5 : decode cX1_qualityAfter 5 = .ok (.getfield 21, 3) := by decide +kernel
theorem dX1_qualityAfter_8 : decode cX1_qualityAfter 8 = .ok (.isub, 1) := by decide +kernel
theorem dX1_qualityAfter_9 : decode cX1_qualityAfter 9 = .ok (.imul, 1) := by decide +kernel
theorem dX1_qualityAfter_10 : decode cX1_qualityAfter 10 = .ok (.sipush 1000, 3) := by decide +kernel
theorem dX1_qualityAfter_13 : decode cX1_qualityAfter 13 = .ok (.idiv, 1) := by decide +kernel
theorem dX1_qualityAfter_14 : decode cX1_qualityAfter 14 = .ok (.ireturn, 1) := by decide +kernel
theorem dX2_init_0 : decode cX2_init 0 = .ok (.aload_n 0, 1) := by decide +kernel
theorem dX2_init_1 : decode cX2_init 1 = .ok (.invokespecial 1, 3) := by decide +kernel
theorem dX2_init_4 : decode cX2_init 4 = .ok (.aload_n 0, 1) := by decide +kernel
theorem dX2_init_5 : decode cX2_init 5 = .ok (.bipush 10, 2) := by decide +kernel
theorem dX2_init_7 : decode cX2_init 7 = .ok (.putfield 7, 3) := by decide +kernel
theorem dX2_init_10 : decode cX2_init 10 = .ok (.aload_n 0, 1) := by decide +kernel
theorem dX2_init_11 : decode cX2_init 11 = .ok (.iconst 0, 1) := by decide +kernel
theorem dX2_init_12 : decode cX2_init 12 = .ok (.putfield 13, 3) := by decide +kernel
theorem dX2_init_15 : decode cX2_init 15 = .ok (.aload_n 0, 1) := by decide +kernel
theorem dX2_init_16 : decode cX2_init 16 = .ok (.iconst 5, 1) := by decide +kernel
theorem dX2_init_17 : decode cX2_init 17 = .ok (.putfield 16, 3) := by decide +kernel
theorem dX2_init_20 : decode cX2_init 20 = .ok (.return_, 1) := by decide +kernel
theorem dX3_init_0 : decode cX3_init 0 = .ok (.aload_n 0, 1) := by decide +kernel
theorem dX3_init_1 : decode cX3_init 1 = .ok (.invokespecial 3, 3) := by decide +kernel
theorem dX3_init_4 : decode cX3_init 4 = .ok (.aload_n 0, 1) := by decide +kernel
theorem dX3_init_5 : decode cX3_init 5 = .ok (.bipush 30, 2) := by decide +kernel
theorem dX3_init_7 : decode cX3_init 7 = .ok (.anewarray 9, 3) := by decide +kernel
theorem dX3_init_10 : decode cX3_init 10 = .ok (.putfield 11, 3) := by decide +kernel
theorem dX3_init_13 : decode cX3_init 13 = .ok (.aload_n 0, 1) := by decide +kernel
theorem dX3_init_14 : decode cX3_init 14 = .ok (.bipush 10, 2) := by decide +kernel
theorem dX3_init_16 : decode cX3_init 16 = .ok (.anewarray 9, 3) := by decide +kernel
theorem dX3_init_19 : decode cX3_init 19 = .ok (.putfield 17, 3) := by decide +kernel
theorem dX3_init_22 : decode cX3_init 22 = .ok (.aload_n 0, 1) := by decide +kernel
theorem dX3_init_23 : decode cX3_init 23 = .ok (.bipush 10, 2) := by decide +kernel
theorem dX3_init_25 : decode cX3_init 25 = .ok (.anewarray 9, 3) := by decide +kernel
theorem dX3_init_28 : decode cX3_init 28 = .ok (.putfield 20, 3) := by decide +kernel
theorem dX3_init_31 : decode cX3_init 31 = .ok (.aload_n 0, 1) := by decide +kernel
theorem dX3_init_32 : decode cX3_init 32 = .ok (.bipush 10, 2) := by decide +kernel
theorem dX3_init_34 : decode cX3_init 34 = .ok (.anewarray 23, 3) := by decide +kernel
theorem dX3_init_37 : decode cX3_init 37 = .ok (.putfield 25, 3) := by decide +kernel
theorem dX3_init_40 : decode cX3_init 40 = .ok (.aload_n 0, 1) := by decide +kernel
theorem dX3_init_41 : decode cX3_init 41 = .ok (.bipush 9, 2) := by decide +kernel
theorem dX3_init_43 : decode cX3_init 43 = .ok (.newarray .int, 2) := by decide +kernel
theorem dX3_init_45 : decode cX3_init 45 = .ok (.putfield 29, 3) := by decide +kernel
theorem dX3_init_48 : decode cX3_init 48 = .ok (.iconst 0, 1) := by decide +kernel
theorem dX3_init_49 : decode cX3_init 49 = .ok (.istore_n 1, 1) := by decide +kernel
theorem dX3_init_50 : decode cX3_init 50 = .ok (.iload_n 1, 1) := by decide +kernel
theorem dX3_init_51 : decode cX3_init 51 = .ok (.bipush 10, 2) := by decide +kernel
theorem dX3_init_53 : decode cX3_init 53 = .ok (.if_icmp .ge 22, 3) := by decide +kernel
theorem dX3_init_56 : decode cX3_init 56 = .ok (.aload_n 0, 1) := by decide +kernel
theorem dX3_init_57 : decode cX3_init 57 = .ok (.getfield 25, 3) := by decide +kernel
theorem dX3_init_60 : decode cX3_init 60 = .ok (.iload_n 1, 1) := by decide +kernel
theorem dX3_init_61 : decode cX3_init 61 = .ok (.new 23, 3) := by decide +kernel
theorem dX3_init_64 : decode cX3_init 64 = .ok (.dup, 1) := by decide +kernel
theorem dX3_init_65 : decode cX3_init 65 = .ok (.invokespecial 33, 3) := by decide +kernel
theorem dX3_init_68 : decode cX3_init 68 = .ok (.aastore, 1) := by decide +kernel
theorem dX3_init_69 : decode cX3_init 69 = .ok (.iinc 1 1, 3) := by decide +kernel
theorem dX3_init_72 : decode cX3_init 72 = .ok (.goto (-22), 3) := by decide +kernel
theorem dX3_init_75 : decode cX3_init 75 = .ok (.return_, 1) := by decide +kernel
theorem dX3_add_0 : decode cX3_add 0 = .ok (.aload_n 0, 1) := by decide +kernel
theorem dX3_add_1 : decode cX3_add 1 = .ok (.getfield 20, 3) := by decide +kernel
theorem dX3_add_4 : decode cX3_add 4 = .ok (.aload_n 1, 1) := by decide +kernel
theorem dX3_add_5 : decode cX3_add 5 = .ok (.getfield 34, 3) := by decide +kernel
theorem dX3_add_8 : decode cX3_add 8 = .ok (.aaload, 1) := by decide +kernel
theorem dX3_add_9 : decode cX3_add 9 = .ok (.astore_n 2, 1) := by decide +kernel
theorem dX3_add_10 : decode cX3_add 10 = .ok (.aload_n 2, 1) := by decide +kernel
theorem dX3_add_11 : decode cX3_add 11 = .ok (.ifnonnull 16, 3) := by decide +kernel
theorem dX3_add_14 : decode cX3_add 14 = .ok (.aload_n 0, 1) := by decide +kernel
theorem dX3_add_15 : decode cX3_add 15 = .ok (.getfield 17, 3) := by decide +kernel
theorem dX3_add_18 : decode cX3_add 18 = .ok (.aload_n 1, 1) := by decide +kernel
theorem dX3_add_19 : decode cX3_add 19 = .ok (.getfield 34, 3) := by decide +kernel
theorem dX3_add_22 : decode cX3_add 22 = .ok (.aload_n 1, 1) := by decide +kernel
theorem dX3_add_23 : decode cX3_add 23 = .ok (.aastore, 1) := by decide +kernel
theorem dX3_add_24 : decode cX3_add 24 = .ok (.goto 8, 3) := by decide +kernel
theorem dX3_add_27 : decode cX3_add 27 = .ok (.aload_n 2, 1) := by decide +kernel
theorem dX3_add_28 : decode cX3_add 28 = .ok (.aload_n 1, 1) := by decide +kernel
theorem dX3_add_29 : decode cX3_add 29 = .ok (.putfield 38, 3) := by decide +kernel
theorem dX3_add_32 : decode cX3_add 32 = .ok (.aload_n 0, 1) := by decide +kernel
theorem dX3_add_33 : decode cX3_add 33 = .ok (.getfield 20, 3) := by decide +kernel
theorem dX3_add_36 : decode cX3_add 36 = .ok (.aload_n 1, 1) := by decide +kernel
theorem dX3_add_37 : decode cX3_add 37 = .ok (.getfield 34, 3) := by decide +kernel
theorem dX3_add_40 : decode cX3_add 40 = .ok (.aload_n 1, 1) := by decide +kernel
theorem dX3_add_41 : decode cX3_add 41 = .ok (.aastore, 1) := by decide +kernel
theorem dX3_add_42 : decode cX3_add 42 = .ok (.aload_n 0, 1) := by decide +kernel
theorem dX3_add_43 : decode cX3_add 43 = .ok (.getfield 11, 3) := by decide +kernel
theorem dX3_add_46 : decode cX3_add 46 = .ok (.aload_n 0, 1) := by decide +kernel
theorem dX3_add_47 : decode cX3_add 47 = .ok (.getfield 42, 3) := by decide +kernel
theorem dX3_add_50 : decode cX3_add 50 = .ok (.aload_n 1, 1) := by decide +kernel
theorem dX3_add_51 : decode cX3_add 51 = .ok (.aastore, 1) := by decide +kernel
theorem dX3_add_52 : decode cX3_add 52 = .ok (.aload_n 0, 1) := by decide +kernel
theorem dX3_add_53 : decode cX3_add 53 = .ok (.dup, 1) := by decide +kernel
theorem dX3_add_54 : decode cX3_add 54 = .ok (.getfield 42, 3) := by decide +kernel
theorem dX3_add_57 : decode cX3_add 57 = .ok (.iconst 1, 1) := by decide +kernel
theorem dX3_add_58 : decode cX3_add 58 = .ok (.iadd, 1) := by decide +kernel
theorem dX3_add_59 : decode cX3_add 59 = .ok (.putfield 42, 3) := by decide +kernel
theorem dX3_add_62 : decode cX3_add 62 = .ok (.aload_n 0, 1) := by decide +kernel
theorem dX3_add_63 : decode cX3_add 63 = .ok (.invokevirtual 45, 3) := by decide +kernel
theorem dX3_add_66 : decode cX3_add 66 = .ok (.aload_n 1, 1) := by decide +kernel
theorem dX3_add_67 : decode cX3_add 67 = .ok (.getfield 48, 3) := by decide +kernel
theorem dX3_add_70 : decode cX3_add 70 = .ok (.ireturn, 1) := by decide +kernel
theorem dX3_withdrawOne_0 : decode cX3_withdrawOne 0 = .ok (.aload_n 0, 1) := by decide +kernel
theorem dX3_withdrawOne_1 : decode cX3_withdrawOne 1 = .ok (.getfield 11, 3) := by decide +kernel
theorem dX3_withdrawOne_4 : decode cX3_withdrawOne 4 = .ok (.iload_n 1, 1) := by decide +kernel
theorem dX3_withdrawOne_5 : decode cX3_withdrawOne 5 = .ok (.aaload, 1) := by decide +kernel
theorem dX3_withdrawOne_6 : decode cX3_withdrawOne 6 = .ok (.iconst 1, 1) := by decide +kernel
theorem dX3_withdrawOne_7 : decode cX3_withdrawOne 7 = .ok (.putfield 51, 3) := by decide +kernel
theorem dX3_withdrawOne_10 : decode cX3_withdrawOne 10 = .ok (.aload_n 0, 1) := by decide +kernel
theorem dX3_withdrawOne_11 : decode cX3_withdrawOne 11 = .ok (.invokevirtual 45, 3) := by decide +kernel
theorem dX3_withdrawOne_14 : decode cX3_withdrawOne 14 = .ok (.return_, 1) := by decide +kernel
theorem dX3_forgetWays_0 : decode cX3_forgetWays 0 = .ok (.iconst 0, 1) := by decide +kernel
theorem dX3_forgetWays_1 : decode cX3_forgetWays 1 = .ok (.istore_n 1, 1) := by decide +kernel
theorem dX3_forgetWays_2 : decode cX3_forgetWays 2 = .ok (.iload_n 1, 1) := by decide +kernel
theorem dX3_forgetWays_3 : decode cX3_forgetWays 3 = .ok (.bipush 10, 2) := by decide +kernel
theorem dX3_forgetWays_5 : decode cX3_forgetWays 5 = .ok (.if_icmp .ge 19, 3) := by decide +kernel
theorem dX3_forgetWays_8 : decode cX3_forgetWays 8 = .ok (.aload_n 0, 1) := by decide +kernel
theorem dX3_forgetWays_9 : decode cX3_forgetWays 9 = .ok (.getfield 25, 3) := by decide +kernel
theorem dX3_forgetWays_12 : decode cX3_forgetWays 12 = .ok (.iload_n 1, 1) := by decide +kernel
theorem dX3_forgetWays_13 : decode cX3_forgetWays 13 = .ok (.aaload, 1) := by decide +kernel
theorem dX3_forgetWays_14 : decode cX3_forgetWays 14 = .ok (.iconst 0, 1) := by decide +kernel
theorem dX3_forgetWays_15 : decode cX3_forgetWays 15 = .ok (.putfield 55, 3) := by decide +kernel
theorem dX3_forgetWays_18 : decode cX3_forgetWays 18 = .ok (.iinc 1 1, 3) := by decide +kernel
theorem dX3_forgetWays_21 : decode cX3_forgetWays 21 = .ok (.goto (-19), 3) := by decide +kernel
theorem dX3_forgetWays_24 : decode cX3_forgetWays 24 = .ok (.return_, 1) := by decide +kernel
theorem dX3_waysFrom_0 : decode cX3_waysFrom 0 = .ok (.aload_n 0, 1) := by decide +kernel
theorem dX3_waysFrom_1 : decode cX3_waysFrom 1 = .ok (.getfield 25, 3) := by decide +kernel
theorem dX3_waysFrom_4 : decode cX3_waysFrom 4 = .ok (.iload_n 1, 1) := by decide +kernel
theorem dX3_waysFrom_5 : decode cX3_waysFrom 5 = .ok (.aaload, 1) := by decide +kernel
theorem dX3_waysFrom_6 : decode cX3_waysFrom 6 = .ok (.astore_n 2, 1) := by decide +kernel
theorem dX3_waysFrom_7 : decode cX3_waysFrom 7 = .ok (.aload_n 2, 1) := by decide +kernel
theorem dX3_waysFrom_8 : decode cX3_waysFrom 8 = .ok (.getfield 55, 3) := by decide +kernel
theorem dX3_waysFrom_11 : decode cX3_waysFrom 11 = .ok (.ifCond .ne 27, 3) := by decide +kernel
theorem dX3_waysFrom_14 : decode cX3_waysFrom 14 = .ok (.aload_n 2, 1) := by decide +kernel
theorem dX3_waysFrom_15 : decode cX3_waysFrom 15 = .ok (.iload_n 1, 1) := by decide +kernel
theorem dX3_waysFrom_16 : decode cX3_waysFrom 16 = .ok (.invokevirtual 58, 3) := by decide +kernel
theorem dX3_waysFrom_19 : decode cX3_waysFrom 19 = .ok (.aload_n 0, 1) := by decide +kernel
theorem dX3_waysFrom_20 : decode cX3_waysFrom 20 = .ok (.aload_n 2, 1) := by decide +kernel
theorem dX3_waysFrom_21 : decode cX3_waysFrom 21 = .ok (.iload_n 1, 1) := by decide +kernel
theorem dX3_waysFrom_22 : decode cX3_waysFrom 22 = .ok (.iconst 1, 1) := by decide +kernel
theorem dX3_waysFrom_23 : decode cX3_waysFrom 23 = .ok (.iload_n 1, 1) := by decide +kernel
theorem dX3_waysFrom_24 : decode cX3_waysFrom 24 = .ok (.ishl, 1) := by decide +kernel
theorem dX3_waysFrom_25 : decode cX3_waysFrom 25 = .ok (.iconst 0, 1) := by decide +kernel
theorem dX3_waysFrom_26 : decode cX3_waysFrom 26 = .ok (.sipush 1000, 3) := by decide +kernel
theorem dX3_waysFrom_29 : decode cX3_waysFrom 29 = .ok (.iconst 0, 1) := by decide +kernel
theorem dX3_waysFrom_30 : decode cX3_waysFrom 30 = .ok (.invokestatic 62, 3) := by decide +kernel
theorem dX3_waysFrom_33 : decode cX3_waysFrom 33 = .ok (.aload_n 2, 1) := by decide +kernel
theorem dX3_waysFrom_34 : decode cX3_waysFrom 34 = .ok (.iconst 1, 1) := by decide +kernel
theorem dX3_waysFrom_35 : decode cX3_waysFrom 35 = .ok (.putfield 55, 3) := by decide +kernel
theorem dX3_waysFrom_38 : decode cX3_waysFrom 38 = .ok (.aload_n 2, 1) := by decide +kernel
theorem dX3_waysFrom_39 : decode cX3_waysFrom 39 = .ok (.areturn, 1) := by decide +kernel
theorem dX3_greatestOfAllWays_0 : decode cX3_greatestOfAllWays 0 = .ok (.aload_n 0, 1) := by decide +kernel
theorem dX3_greatestOfAllWays_1 : decode cX3_greatestOfAllWays 1 = .ok (.iload_n 1, 1) := by decide +kernel
theorem dX3_greatestOfAllWays_2 : decode cX3_greatestOfAllWays 2 = .ok (.iload_n 2, 1) := by decide +kernel
theorem dX3_greatestOfAllWays_3 : decode cX3_greatestOfAllWays 3 = .ok (.iconst 1, 1) := by decide +kernel
theorem dX3_greatestOfAllWays_4 : decode cX3_greatestOfAllWays 4 = .ok (.iload_n 1, 1) := by decide +kernel
theorem dX3_greatestOfAllWays_5 : decode cX3_greatestOfAllWays 5 = .ok (.ishl, 1) := by decide +kernel
theorem dX3_greatestOfAllWays_6 : decode cX3_greatestOfAllWays 6 = .ok (.iconst 0, 1) := by decide +kernel
theorem dX3_greatestOfAllWays_7 : decode cX3_greatestOfAllWays 7 = .ok (.sipush 1000, 3) := by decide +kernel
theorem dX3_greatestOfAllWays_10 : decode cX3_greatestOfAllWays 10 = .ok (.invokestatic 66, 3) := by decide +kernel
theorem dX3_greatestOfAllWays_13 : decode cX3_greatestOfAllWays 13 = .ok (.ireturn, 1) := by decide +kernel
theorem dX3_qualityBehind_0 : decode cX3_qualityBehind 0 = .ok (.iload_n 3, 1) := by decide +kernel
theorem dX3_qualityBehind_1 : decode cX3_qualityBehind 1 = .ok (.istore 4, 2) := by decide +kernel
theorem dX3_qualityBehind_3 : decode cX3_qualityBehind 3 = .ok (.iconst 0, 1) := by decide +kernel
theorem dX3_qualityBehind_4 : decode cX3_qualityBehind 4 = .ok (.istore 5, 2) := by decide +kernel
theorem dX3_qualityBehind_6 : decode cX3_qualityBehind 6 = .ok (.iload 5, 2) := by decide +kernel
theorem dX3_qualityBehind_8 : decode cX3_qualityBehind 8 = .ok (.aload_n 1, 1) := by decide +kernel
theorem dX3_qualityBehind_9 : decode cX3_qualityBehind 9 = .ok (.getfield 70, 3) := by decide +kernel
theorem dX3_qualityBehind_12 : decode cX3_qualityBehind 12 = .ok (.iload_n 2, 1) := by decide +kernel
theorem dX3_qualityBehind_13 : decode cX3_qualityBehind 13 = .ok (.iaload, 1) := by decide +kernel
theorem dX3_qualityBehind_14 : decode cX3_qualityBehind 14 = .ok (.if_icmp .ge 30, 3) := by decide +kernel
theorem dX3_qualityBehind_17 : decode cX3_qualityBehind 17 = .ok (.aload_n 0, 1) := by decide +kernel
theorem dX3_qualityBehind_18 : decode cX3_qualityBehind 18 = .ok (.getfield 11, 3) := by decide +kernel
theorem dX3_qualityBehind_21 : decode cX3_qualityBehind 21 = .ok (.aload_n 1, 1) := by decide +kernel
theorem dX3_qualityBehind_22 : decode cX3_qualityBehind 22 = .ok (.getfield 73, 3) := by decide +kernel
theorem dX3_qualityBehind_25 : decode cX3_qualityBehind 25 = .ok (.iload_n 2, 1) := by decide +kernel
theorem dX3_qualityBehind_26 : decode cX3_qualityBehind 26 = .ok (.aaload, 1) := by decide +kernel
theorem dX3_qualityBehind_27 : decode cX3_qualityBehind 27 = .ok (.iload 5, 2) := by decide +kernel
theorem dX3_qualityBehind_29 : decode cX3_qualityBehind 29 = .ok (.iaload, 1) := by decide +kernel
theorem dX3_qualityBehind_30 : decode cX3_qualityBehind 30 = .ok (.aaload, 1) := by decide +kernel
theorem dX3_qualityBehind_31 : decode cX3_qualityBehind 31 = .ok (.iload 4, 2) := by decide +kernel
theorem dX3_qualityBehind_33 : decode cX3_qualityBehind 33 = .ok (.invokevirtual 77, 3) := by decide +kernel
theorem dX3_qualityBehind_36 : decode cX3_qualityBehind 36 = .ok (.istore 4, 2) := by decide +kernel
theorem dX3_qualityBehind_38 : decode cX3_qualityBehind 38 = .ok (.iinc 5 1, 3) := by decide +kernel
theorem dX3_qualityBehind_41 : decode cX3_qualityBehind 41 = .ok (.goto (-35), 3) := by decide +kernel
theorem dX3_qualityBehind_44 : decode cX3_qualityBehind 44 = .ok (.iload 4, 2) := by decide +kernel
theorem dX3_qualityBehind_46 : decode cX3_qualityBehind 46 = .ok (.ireturn, 1) := by decide +kernel
theorem dX3_search_0 : decode cX3_search 0 = .ok (.iload 4, 2) := by decide +kernel
theorem dX3_search_2 : decode cX3_search 2 = .ok (.bipush 9, 2) := by decide +kernel
theorem dX3_search_4 : decode cX3_search 4 = .ok (.if_icmp .lt 4, 3) := by decide +kernel
theorem dX3_search_7 : decode cX3_search 7 = .ok (.return_, 1) := by decide +kernel
theorem dX3_search_8 : decode cX3_search 8 = .ok (.aload_n 0, 1) := by decide +kernel
theorem dX3_search_9 : decode cX3_search 9 = .ok (.getfield 17, 3) := by decide +kernel
theorem dX3_search_12 : decode cX3_search 12 = .ok (.iload_n 2, 1) := by decide +kernel
theorem dX3_search_13 : decode cX3_search 13 = .ok (.aaload, 1) := by decide +kernel
theorem dX3_search_14 : decode cX3_search 14 = .ok (.astore 7, 2) := by decide +kernel
theorem dX3_search_16 : decode cX3_search 16 = .ok (.aload 7, 2) := by decide +kernel
theorem dX3_search_18 : decode cX3_search 18 = .ok (.ifnull 104, 3) := by decide +kernel
theorem dX3_search_21 : decode cX3_search 21 = .ok (.aload 7, 2) := by decide +kernel
theorem dX3_search_23 : decode cX3_search 23 = .ok (.iload_n 3, 1) := by decide +kernel
theorem dX3_search_24 : decode cX3_search 24 = .ok (.invokevirtual 81, 3) := by decide +kernel
theorem dX3_search_27 : decode cX3_search 27 = .ok (.ifCond .eq 85, 3) := by decide +kernel
theorem dX3_search_30 : decode cX3_search 30 = .ok (.aload 7, 2) := by decide +kernel
theorem dX3_search_32 : decode cX3_search 32 = .ok (.iload 5, 2) := by decide +kernel
theorem dX3_search_34 : decode cX3_search 34 = .ok (.invokevirtual 77, 3) := by decide +kernel
theorem dX3_search_37 : decode cX3_search 37 = .ok (.istore 8, 2) := by decide +kernel
theorem dX3_search_39 : decode cX3_search 39 = .ok (.iload 6, 2) := by decide +kernel
theorem dX3_search_41 : decode cX3_search 41 = .ok (.aload 7, 2) := by decide +kernel
theorem dX3_search_43 : decode cX3_search 43 = .ok (.getfield 85, 3) := by decide +kernel
theorem dX3_search_46 : decode cX3_search 46 = .ok (.iadd, 1) := by decide +kernel
theorem dX3_search_47 : decode cX3_search 47 = .ok (.istore 9, 2) := by decide +kernel
theorem dX3_search_49 : decode cX3_search 49 = .ok (.aload_n 0, 1) := by decide +kernel
theorem dX3_search_50 : decode cX3_search 50 = .ok (.getfield 29, 3) := by decide +kernel
theorem dX3_search_53 : decode cX3_search 53 = .ok (.iload 4, 2) := by decide +kernel
theorem dX3_search_55 : decode cX3_search 55 = .ok (.aload 7, 2) := by decide +kernel
theorem dX3_search_57 : decode cX3_search 57 = .ok (.getfield 48, 3) := by decide +kernel
theorem dX3_search_60 : decode cX3_search 60 = .ok (.iastore, 1) := by decide +kernel
theorem dX3_search_61 : decode cX3_search 61 = .ok (.aload_n 1, 1) := by decide +kernel
theorem dX3_search_62 : decode cX3_search 62 = .ok (.aload 7, 2) := by decide +kernel
theorem dX3_search_64 : decode cX3_search 64 = .ok (.getfield 88, 3) := by decide +kernel
theorem dX3_search_67 : decode cX3_search 67 = .ok (.iload 8, 2) := by decide +kernel
theorem dX3_search_69 : decode cX3_search 69 = .ok (.iload 9, 2) := by decide +kernel
theorem dX3_search_71 : decode cX3_search 71 = .ok (.aload_n 0, 1) := by decide +kernel
theorem dX3_search_72 : decode cX3_search 72 = .ok (.getfield 29, 3) := by decide +kernel
theorem dX3_search_75 : decode cX3_search 75 = .ok (.iload 4, 2) := by decide +kernel
theorem dX3_search_77 : decode cX3_search 77 = .ok (.iconst 1, 1) := by decide +kernel
theorem dX3_search_78 : decode cX3_search 78 = .ok (.iadd, 1) := by decide +kernel
theorem dX3_search_79 : decode cX3_search 79 = .ok (.invokevirtual 91, 3) := by decide +kernel
theorem dX3_search_82 : decode cX3_search 82 = .ok (.ifCond .eq 30, 3) := by decide +kernel
theorem dX3_search_85 : decode cX3_search 85 = .ok (.aload_n 0, 1) := by decide +kernel
theorem dX3_search_86 : decode cX3_search 86 = .ok (.aload_n 1, 1) := by decide +kernel
theorem dX3_search_87 : decode cX3_search 87 = .ok (.aload 7, 2) := by decide +kernel
theorem dX3_search_89 : decode cX3_search 89 = .ok (.getfield 88, 3) := by decide +kernel
theorem dX3_search_92 : decode cX3_search 92 = .ok (.iload_n 3, 1) := by decide +kernel
theorem dX3_search_93 : decode cX3_search 93 = .ok (.iconst 1, 1) := by decide +kernel
theorem dX3_search_94 : decode cX3_search 94 = .ok (.aload 7, 2) := by decide +kernel
theorem dX3_search_96 : decode cX3_search 96 = .ok (.getfield 88, 3) := by decide +kernel
theorem dX3_search_99 : decode cX3_search 99 = .ok (.ishl, 1) := by decide +kernel
theorem dX3_search_100 : decode cX3_search 100 = .ok (.ior, 1) := by decide +kernel
theorem dX3_search_101 : decode cX3_search 101 = .ok (.iload 4, 2) := by decide +kernel
theorem dX3_search_103 : decode cX3_search 103 = .ok (.iconst 1, 1) := by decide +kernel
theorem dX3_search_104 : decode cX3_search 104 = .ok (.iadd, 1) := by decide +kernel
theorem dX3_search_105 : decode cX3_search 105 = .ok (.iload 8, 2) := by decide +kernel
theorem dX3_search_107 : decode cX3_search 107 = .ok (.iload 9, 2) := by decide +kernel
theorem dX3_search_109 : decode cX3_search 109 = .ok (.invokestatic 62, 3) := by decide +kernel
theorem dX3_search_112 : decode cX3_search 112 = .ok (.aload 7, 2) := by decide +kernel
theorem dX3_search_114 : decode cX3_search 114 = .ok (.getfield 38, 3) := by decide +kernel
theorem dX3_search_117 : decode cX3_search 117 = .ok (.astore 7, 2) := by decide +kernel
theorem dX3_search_119 : decode cX3_search 119 = .ok (.goto (-103), 3) := by decide +kernel
theorem dX3_search_122 : decode cX3_search 122 = .ok (.return_, 1) := by decide +kernel
theorem dX3_greatestQuality_0 : decode cX3_greatestQuality 0 = .ok (.iload_n 1, 1) := by decide +kernel
theorem dX3_greatestQuality_1 : decode cX3_greatestQuality 1 = .ok (.iload_n 2, 1) := by decide +kernel
theorem dX3_greatestQuality_2 : decode cX3_greatestQuality 2 = .ok (.if_icmp .ne 6, 3) := by decide +kernel
theorem dX3_greatestQuality_5 : decode cX3_greatestQuality 5 = .ok (.iload 5, 2) := by decide +kernel
theorem dX3_greatestQuality_7 : decode cX3_greatestQuality 7 = .ok (.ireturn, 1) := by decide +kernel
theorem dX3_greatestQuality_8 : decode cX3_greatestQuality 8 = .ok (.iload 4, 2) := by decide +kernel
theorem dX3_greatestQuality_10 : decode cX3_greatestQuality 10 = .ok (.bipush 9, 2) := by decide +kernel
theorem dX3_greatestQuality_12 : decode cX3_greatestQuality 12 = .ok (.if_icmp .lt 5, 3) := by decide +kernel
theorem dX3_greatestQuality_15 : decode cX3_greatestQuality 15 = .ok (.iconst (-1), 1) := by decide +kernel
theorem dX3_greatestQuality_16 : decode cX3_greatestQuality 16 = .ok (.ireturn, 1) := by decide +kernel
theorem dX3_greatestQuality_17 : decode cX3_greatestQuality 17 = .ok (.iconst (-1), 1) := by decide +kernel
theorem dX3_greatestQuality_18 : decode cX3_greatestQuality 18 = .ok (.istore 6, 2) := by decide +kernel
theorem dX3_greatestQuality_20 : decode cX3_greatestQuality 20 = .ok (.aload_n 0, 1) := by decide +kernel
theorem dX3_greatestQuality_21 : decode cX3_greatestQuality 21 = .ok (.getfield 17, 3) := by decide +kernel
theorem dX3_greatestQuality_24 : decode cX3_greatestQuality 24 = .ok (.iload_n 1, 1) := by decide +kernel
theorem dX3_greatestQuality_25 : decode cX3_greatestQuality 25 = .ok (.aaload, 1) := by decide +kernel
theorem dX3_greatestQuality_26 : decode cX3_greatestQuality 26 = .ok (.astore 7, 2) := by decide +kernel
theorem dX3_greatestQuality_28 : decode cX3_greatestQuality 28 = .ok (.aload 7, 2) := by decide +kernel
theorem dX3_greatestQuality_30 : decode cX3_greatestQuality 30 = .ok (.ifnull 59, 3) := by decide +kernel
theorem dX3_greatestQuality_33 : decode cX3_greatestQuality 33 = .ok (.aload 7, 2) := by decide +kernel
theorem dX3_greatestQuality_35 : decode cX3_greatestQuality 35 = .ok (.iload_n 3, 1) := by decide +kernel
theorem dX3_greatestQuality_36 : decode cX3_greatestQuality 36 = .ok (.invokevirtual 81, 3) := by decide +kernel
theorem dX3_greatestQuality_39 : decode cX3_greatestQuality 39 = .ok (.ifCond .eq 40, 3) := by decide +kernel
theorem dX3_greatestQuality_42 : decode cX3_greatestQuality 42 = .ok (.iload 6, 2) := by decide +kernel
theorem dX3_greatestQuality_44 : decode cX3_greatestQuality 44 = .ok (.aload_n 0, 1) := by decide +kernel
theorem dX3_greatestQuality_45 : decode cX3_greatestQuality 45 = .ok (.aload 7, 2) := by decide +kernel
theorem dX3_greatestQuality_47 : decode cX3_greatestQuality 47 = .ok (.getfield 88, 3) := by decide +kernel
theorem dX3_greatestQuality_50 : decode cX3_greatestQuality 50 = .ok (.iload_n 2, 1) := by decide +kernel
theorem dX3_greatestQuality_51 : decode cX3_greatestQuality 51 = .ok (.iload_n 3, 1) := by decide +kernel
theorem dX3_greatestQuality_52 : decode cX3_greatestQuality 52 = .ok (.iconst 1, 1) := by decide +kernel
theorem dX3_greatestQuality_53 : decode cX3_greatestQuality 53 = .ok (.aload 7, 2) := by decide +kernel
theorem dX3_greatestQuality_55 : decode cX3_greatestQuality 55 = .ok (.getfield 88, 3) := by decide +kernel
theorem dX3_greatestQuality_58 : decode cX3_greatestQuality 58 = .ok (.ishl, 1) := by decide +kernel
theorem dX3_greatestQuality_59 : decode cX3_greatestQuality 59 = .ok (.ior, 1) := by decide +kernel
theorem dX3_greatestQuality_60 : decode cX3_greatestQuality 60 = .ok (.iload 4, 2) := by decide +kernel
theorem dX3_greatestQuality_62 : decode cX3_greatestQuality 62 = .ok (.iconst 1, 1) := by decide +kernel
theorem dX3_greatestQuality_63 : decode cX3_greatestQuality 63 = .ok (.iadd, 1) := by decide +kernel
theorem dX3_greatestQuality_64 : decode cX3_greatestQuality 64 = .ok (.aload 7, 2) := by decide +kernel
theorem dX3_greatestQuality_66 : decode cX3_greatestQuality 66 = .ok (.iload 5, 2) := by decide +kernel
theorem dX3_greatestQuality_68 : decode cX3_greatestQuality 68 = .ok (.invokevirtual 77, 3) := by decide +kernel
theorem dX3_greatestQuality_71 : decode cX3_greatestQuality 71 = .ok (.invokestatic 66, 3) := by decide +kernel
theorem dX3_greatestQuality_74 : decode cX3_greatestQuality 74 = .ok (.invokestatic 95, 3) := by decide +kernel
theorem dX3_greatestQuality_77 : decode cX3_greatestQuality 77 = .ok (.istore 6, 2) := by decide +kernel
theorem dX3_greatestQuality_79 : decode cX3_greatestQuality 79 = .ok (.aload 7, 2) := by decide +kernel
theorem dX3_greatestQuality_81 : decode cX3_greatestQuality 81 = .ok (.getfield 38, 3) := by decide +kernel
theorem dX3_greatestQuality_84 : decode cX3_greatestQuality 84 = .ok (.astore 7, 2) := by decide +kernel
theorem dX3_greatestQuality_86 : decode cX3_greatestQuality 86 = .ok (.goto (-58), 3) := by decide +kernel
theorem dX3_greatestQuality_89 : decode cX3_greatestQuality 89 = .ok (.iload 6, 2) := by decide +kernel
theorem dX3_greatestQuality_91 : decode cX3_greatestQuality 91 = .ok (.ireturn, 1) := by decide +kernel
theorem dX4_init_0 : decode cX4_init 0 = .ok (.aload_n 0, 1) := by decide +kernel
theorem dX4_init_1 : decode cX4_init 1 = .ok (.invokespecial 3, 3) := by decide +kernel
theorem dX4_init_4 : decode cX4_init 4 = .ok (.aload_n 0, 1) := by decide +kernel
theorem dX4_init_5 : decode cX4_init 5 = .ok (.sipush 1000, 3) := by decide +kernel
theorem dX4_init_8 : decode cX4_init 8 = .ok (.putfield 9, 3) := by decide +kernel
theorem dX4_init_11 : decode cX4_init 11 = .ok (.aload_n 0, 1) := by decide +kernel
theorem dX4_init_12 : decode cX4_init 12 = .ok (.iconst 0, 1) := by decide +kernel
theorem dX4_init_13 : decode cX4_init 13 = .ok (.putfield 15, 3) := by decide +kernel
theorem dX4_init_16 : decode cX4_init 16 = .ok (.aload_n 0, 1) := by decide +kernel
theorem dX4_init_17 : decode cX4_init 17 = .ok (.iload_n 1, 1) := by decide +kernel
theorem dX4_init_18 : decode cX4_init 18 = .ok (.putfield 18, 3) := by decide +kernel
theorem dX4_init_21 : decode cX4_init 21 = .ok (.aload_n 0, 1) := by decide +kernel
theorem dX4_init_22 : decode cX4_init 22 = .ok (.iload_n 2, 1) := by decide +kernel
theorem dX4_init_23 : decode cX4_init 23 = .ok (.putfield 21, 3) := by decide +kernel
theorem dX4_init_26 : decode cX4_init 26 = .ok (.aload_n 0, 1) := by decide +kernel
theorem dX4_init_27 : decode cX4_init 27 = .ok (.aload_n 3, 1) := by decide +kernel
theorem dX4_init_28 : decode cX4_init 28 = .ok (.putfield 24, 3) := by decide +kernel
theorem dX4_init_31 : decode cX4_init 31 = .ok (.aload_n 0, 1) := by decide +kernel
theorem dX4_init_32 : decode cX4_init 32 = .ok (.iload 4, 2) := by decide +kernel
theorem dX4_init_34 : decode cX4_init 34 = .ok (.aload_n 3, 1) := by decide +kernel
theorem dX4_init_35 : decode cX4_init 35 = .ok (.getfield 28, 3) := by decide +kernel
theorem dX4_init_38 : decode cX4_init 38 = .ok (.iadd, 1) := by decide +kernel
theorem dX4_init_39 : decode cX4_init 39 = .ok (.putfield 33, 3) := by decide +kernel
theorem dX4_init_42 : decode cX4_init 42 = .ok (.aload_n 0, 1) := by decide +kernel
theorem dX4_init_43 : decode cX4_init 43 = .ok (.iload 4, 2) := by decide +kernel
theorem dX4_init_45 : decode cX4_init 45 = .ok (.putfield 36, 3) := by decide +kernel
theorem dX4_init_48 : decode cX4_init 48 = .ok (.return_, 1) := by decide +kernel
theorem dX5_init_0 : decode cX5_init 0 = .ok (.aload_n 0, 1) := by decide +kernel
theorem dX5_init_1 : decode cX5_init 1 = .ok (.invokespecial 3, 3) := by decide +kernel
theorem dX5_init_4 : decode cX5_init 4 = .ok (.aload_n 0, 1) := by decide +kernel
theorem dX5_init_5 : decode cX5_init 5 = .ok (.bipush 10, 2) := by decide +kernel
theorem dX5_init_7 : decode cX5_init 7 = .ok (.newarray .int, 2) := by decide +kernel
theorem dX5_init_9 : decode cX5_init 9 = .ok (.putfield 9, 3) := by decide +kernel
theorem dX5_init_12 : decode cX5_init 12 = .ok (.aload_n 0, 1) := by decide +kernel
theorem dX5_init_13 : decode cX5_init 13 = .ok (.iconst 5, 1) := by decide +kernel
theorem dX5_init_14 : decode cX5_init 14 = .ok (.anewarray 13, 3) := by decide +kernel
theorem dX5_init_17 : decode cX5_init 17 = .ok (.putfield 15, 3) := by decide +kernel
theorem dX5_init_20 : decode cX5_init 20 = .ok (.aload_n 0, 1) := by decide +kernel
theorem dX5_init_21 : decode cX5_init 21 = .ok (.bipush 40, 2) := by decide +kernel
theorem dX5_init_23 : decode cX5_init 23 = .ok (.anewarray 19, 3) := by decide +kernel
theorem dX5_init_26 : decode cX5_init 26 = .ok (.putfield 21, 3) := by decide +kernel
theorem dX5_init_29 : decode cX5_init 29 = .ok (.aload_n 0, 1) := by decide +kernel
theorem dX5_init_30 : decode cX5_init 30 = .ok (.new 25, 3) := by decide +kernel
theorem dX5_init_33 : decode cX5_init 33 = .ok (.dup, 1) := by decide +kernel
theorem dX5_init_34 : decode cX5_init 34 = .ok (.invokespecial 27, 3) := by decide +kernel
theorem dX5_init_37 : decode cX5_init 37 = .ok (.putfield 28, 3) := by decide +kernel
theorem dX5_init_40 : decode cX5_init 40 = .ok (.aload_n 0, 1) := by decide +kernel
theorem dX5_init_41 : decode cX5_init 41 = .ok (.sipush 1000, 3) := by decide +kernel
theorem dX5_init_44 : decode cX5_init 44 = .ok (.putfield 32, 3) := by decide +kernel
theorem dX5_init_47 : decode cX5_init 47 = .ok (.aload_n 0, 1) := by decide +kernel
theorem dX5_init_48 : decode cX5_init 48 = .ok (.sipush 1000, 3) := by decide +kernel
theorem dX5_init_51 : decode cX5_init 51 = .ok (.putfield 36, 3) := by decide +kernel
theorem dX5_init_54 : decode cX5_init 54 = .ok (.iconst 0, 1) := by decide +kernel
theorem dX5_init_55 : decode cX5_init 55 = .ok (.istore_n 1, 1) := by decide +kernel
theorem dX5_init_56 : decode cX5_init 56 = .ok (.iload_n 1, 1) := by decide +kernel
theorem dX5_init_57 : decode cX5_init 57 = .ok (.bipush 10, 2) := by decide +kernel
theorem dX5_init_59 : decode cX5_init 59 = .ok (.if_icmp .ge 16, 3) := by decide +kernel
theorem dX5_init_62 : decode cX5_init 62 = .ok (.aload_n 0, 1) := by decide +kernel
theorem dX5_init_63 : decode cX5_init 63 = .ok (.getfield 9, 3) := by decide +kernel
theorem dX5_init_66 : decode cX5_init 66 = .ok (.iload_n 1, 1) := by decide +kernel
theorem dX5_init_67 : decode cX5_init 67 = .ok (.iconst (-1), 1) := by decide +kernel
theorem dX5_init_68 : decode cX5_init 68 = .ok (.iastore, 1) := by decide +kernel
theorem dX5_init_69 : decode cX5_init 69 = .ok (.iinc 1 1, 3) := by decide +kernel
theorem dX5_init_72 : decode cX5_init 72 = .ok (.goto (-16), 3) := by decide +kernel
theorem dX5_init_75 : decode cX5_init 75 = .ok (.iconst 0, 1) := by decide +kernel
theorem dX5_init_76 : decode cX5_init 76 = .ok (.istore_n 1, 1) := by decide +kernel
theorem dX5_init_77 : decode cX5_init 77 = .ok (.iload_n 1, 1) := by decide +kernel
theorem dX5_init_78 : decode cX5_init 78 = .ok (.iconst 5, 1) := by decide +kernel
theorem dX5_init_79 : decode cX5_init 79 = .ok (.if_icmp .ge 22, 3) := by decide +kernel
theorem dX5_init_82 : decode cX5_init 82 = .ok (.aload_n 0, 1) := by decide +kernel
theorem dX5_init_83 : decode cX5_init 83 = .ok (.getfield 15, 3) := by decide +kernel
theorem dX5_init_86 : decode cX5_init 86 = .ok (.iload_n 1, 1) := by decide +kernel
theorem dX5_init_87 : decode cX5_init 87 = .ok (.new 13, 3) := by decide +kernel
theorem dX5_init_90 : decode cX5_init 90 = .ok (.dup, 1) := by decide +kernel
theorem dX5_init_91 : decode cX5_init 91 = .ok (.invokespecial 39, 3) := by decide +kernel
theorem dX5_init_94 : decode cX5_init 94 = .ok (.aastore, 1) := by decide +kernel
theorem dX5_init_95 : decode cX5_init 95 = .ok (.iinc 1 1, 3) := by decide +kernel
theorem dX5_init_98 : decode cX5_init 98 = .ok (.goto (-21), 3) := by decide +kernel
theorem dX5_init_101 : decode cX5_init 101 = .ok (.return_, 1) := by decide +kernel
theorem dX5_setLast_0 : decode cX5_setLast 0 = .ok (.iload_n 1, 1) := by decide +kernel
theorem dX5_setLast_1 : decode cX5_setLast 1 = .ok (.invokestatic 40, 3) := by decide +kernel
theorem dX5_setLast_4 : decode cX5_setLast 4 = .ok (.iload_n 2, 1) := by decide +kernel
theorem dX5_setLast_5 : decode cX5_setLast 5 = .ok (.iconst (-1), 1) := by decide +kernel
theorem dX5_setLast_6 : decode cX5_setLast 6 = .ok (.if_icmp .eq 14, 3) := by decide +kernel
theorem dX5_setLast_9 : decode cX5_setLast 9 = .ok (.iload_n 2, 1) := by decide +kernel
theorem dX5_setLast_10 : decode cX5_setLast 10 = .ok (.aload_n 0, 1) := by decide +kernel
theorem dX5_setLast_11 : decode cX5_setLast 11 = .ok (.getfield 44, 3) := by decide +kernel
theorem dX5_setLast_14 : decode cX5_setLast 14 = .ok (.sipush 1000, 3) := by decide +kernel
theorem dX5_setLast_17 : decode cX5_setLast 17 = .ok (.invokestatic 47, 3) := by decide +kernel
theorem dX5_setLast_20 : decode cX5_setLast 20 = .ok (.aload_n 0, 1) := by decide +kernel
theorem dX5_setLast_21 : decode cX5_setLast 21 = .ok (.iload_n 1, 1) := by decide +kernel
theorem dX5_setLast_22 : decode cX5_setLast 22 = .ok (.invokevirtual 51, 3) := by decide +kernel
theorem dX5_setLast_25 : decode cX5_setLast 25 = .ok (.aload_n 0, 1) := by decide +kernel
theorem dX5_setLast_26 : decode cX5_setLast 26 = .ok (.getfield 9, 3) := by decide +kernel
theorem dX5_setLast_29 : decode cX5_setLast 29 = .ok (.iload_n 1, 1) := by decide +kernel
theorem dX5_setLast_30 : decode cX5_setLast 30 = .ok (.iaload, 1) := by decide +kernel
theorem dX5_setLast_31 : decode cX5_setLast 31 = .ok (.istore_n 3, 1) := by decide +kernel
theorem dX5_setLast_32 : decode cX5_setLast 32 = .ok (.aload_n 0, 1) := by decide +kernel
theorem dX5_setLast_33 : decode cX5_setLast 33 = .ok (.getfield 9, 3) := by decide +kernel
theorem dX5_setLast_36 : decode cX5_setLast 36 = .ok (.iload_n 1, 1) := by decide +kernel
theorem dX5_setLast_37 : decode cX5_setLast 37 = .ok (.iload_n 2, 1) := by decide +kernel
theorem dX5_setLast_38 : decode cX5_setLast 38 = .ok (.iastore, 1) := by decide +kernel
theorem dX5_setLast_39 : decode cX5_setLast 39 = .ok (.iload_n 3, 1) := by decide +kernel
theorem dX5_setLast_40 : decode cX5_setLast 40 = .ok (.ireturn, 1) := by decide +kernel
theorem dX5_converter_0 : decode cX5_converter 0 = .ok (.iload_n 1, 1) := by decide +kernel
theorem dX5_converter_1 : decode cX5_converter 1 = .ok (.invokestatic 40, 3) := by decide +kernel
theorem dX5_converter_4 : decode cX5_converter 4 = .ok (.iload_n 2, 1) := by decide +kernel
theorem dX5_converter_5 : decode cX5_converter 5 = .ok (.invokestatic 40, 3) := by decide +kernel
theorem dX5_converter_8 : decode cX5_converter 8 = .ok (.iload_n 3, 1) := by decide +kernel
theorem dX5_converter_9 : decode cX5_converter 9 = .ok (.iconst 0, 1) := by decide +kernel
theorem dX5_converter_10 : decode cX5_converter 10 = .ok (.sipush 500, 3) := by decide +kernel
theorem dX5_converter_13 : decode cX5_converter 13 = .ok (.invokestatic 47, 3) := by decide +kernel
theorem dX5_converter_16 : decode cX5_converter 16 = .ok (.iload 4, 2) := by decide +kernel
theorem dX5_converter_18 : decode cX5_converter 18 = .ok (.iconst 0, 1) := by decide +kernel
theorem dX5_converter_19 : decode cX5_converter 19 = .ok (.bipush 100, 2) := by decide +kernel
theorem dX5_converter_21 : decode cX5_converter 21 = .ok (.invokestatic 47, 3) := by decide +kernel
theorem dX5_converter_24 : decode cX5_converter 24 = .ok (.iload_n 1, 1) := by decide +kernel
theorem dX5_converter_25 : decode cX5_converter 25 = .ok (.iload_n 2, 1) := by decide +kernel
theorem dX5_converter_26 : decode cX5_converter 26 = .ok (.if_icmp .ne 13, 3) := by decide +kernel
theorem dX5_converter_29 : decode cX5_converter 29 = .ok (.new 54, 3) := by decide +kernel
theorem dX5_converter_32 : decode cX5_converter 32 = .ok (.dup, 1) := by decide +kernel
theorem dX5_converter_33 : decode cX5_converter 33 = .ok (.ldc 56, 2) := by decide +kernel
theorem dX5_converter_35 : decode cX5_converter 35 = .ok (.invokespecial 58, 3) := by decide +kernel
theorem dX5_converter_38 : decode cX5_converter 38 = .ok (.athrow, 1) := by decide +kernel
theorem dX5_converter_39 : decode cX5_converter 39 = .ok (.aload_n 0, 1) := by decide +kernel
theorem dX5_converter_40 : decode cX5_converter 40 = .ok (.getfield 28, 3) := by decide +kernel
theorem dX5_converter_43 : decode cX5_converter 43 = .ok (.getfield 61, 3) := by decide +kernel
theorem dX5_converter_46 : decode cX5_converter 46 = .ok (.bipush 30, 2) := by decide +kernel
theorem dX5_converter_48 : decode cX5_converter 48 = .ok (.if_icmp .lt 13, 3) := by decide +kernel
theorem dX5_converter_51 : decode cX5_converter 51 = .ok (.new 64, 3) := by decide +kernel
theorem dX5_converter_54 : decode cX5_converter 54 = .ok (.dup, 1) := by decide +kernel
theorem dX5_converter_55 : decode cX5_converter 55 = .ok (.ldc 66, 2) := by decide +kernel
theorem dX5_converter_57 : decode cX5_converter 57 = .ok (.invokespecial 68, 3) := by decide +kernel
theorem dX5_converter_60 : decode cX5_converter 60 = .ok (.athrow, 1) := by decide +kernel
theorem dX5_converter_61 : decode cX5_converter 61 = .ok (.aload_n 0, 1) := by decide +kernel
theorem dX5_converter_62 : decode cX5_converter 62 = .ok (.getfield 28, 3) := by decide +kernel
theorem dX5_converter_65 : decode cX5_converter 65 = .ok (.new 69, 3) := by decide +kernel
theorem dX5_converter_68 : decode cX5_converter 68 = .ok (.dup, 1) := by decide +kernel
theorem dX5_converter_69 : decode cX5_converter 69 = .ok (.aload_n 0, 1) := by decide +kernel
theorem dX5_converter_70 : decode cX5_converter 70 = .ok (.getfield 28, 3) := by decide +kernel
theorem dX5_converter_73 : decode cX5_converter 73 = .ok (.getfield 61, 3) := by decide +kernel
theorem dX5_converter_76 : decode cX5_converter 76 = .ok (.iload_n 1, 1) := by decide +kernel
theorem dX5_converter_77 : decode cX5_converter 77 = .ok (.iload_n 2, 1) := by decide +kernel
theorem dX5_converter_78 : decode cX5_converter 78 = .ok (.iload_n 3, 1) := by decide +kernel
theorem dX5_converter_79 : decode cX5_converter 79 = .ok (.iload 4, 2) := by decide +kernel
theorem dX5_converter_81 : decode cX5_converter 81 = .ok (.invokespecial 71, 3) := by decide +kernel
theorem dX5_converter_84 : decode cX5_converter 84 = .ok (.invokevirtual 74, 3) := by decide +kernel
theorem dX5_converter_87 : decode cX5_converter 87 = .ok (.ireturn, 1) := by decide +kernel
theorem dX5_withdraw_0 : decode cX5_withdraw 0 = .ok (.iload_n 1, 1) := by decide +kernel
theorem dX5_withdraw_1 : decode cX5_withdraw 1 = .ok (.ifCond .lt 14, 3) := by decide +kernel
theorem dX5_withdraw_4 : decode cX5_withdraw 4 = .ok (.iload_n 1, 1) := by decide +kernel
theorem dX5_withdraw_5 : decode cX5_withdraw 5 = .ok (.aload_n 0, 1) := by decide +kernel
theorem dX5_withdraw_6 : decode cX5_withdraw 6 = .ok (.getfield 28, 3) := by decide +kernel
theorem dX5_withdraw_9 : decode cX5_withdraw 9 = .ok (.getfield 61, 3) := by decide +kernel
theorem dX5_withdraw_12 : decode cX5_withdraw 12 = .ok (.if_icmp .lt 13, 3) := by decide +kernel
theorem dX5_withdraw_15 : decode cX5_withdraw 15 = .ok (.new 78, 3) := by decide +kernel
theorem dX5_withdraw_18 : decode cX5_withdraw 18 = .ok (.dup, 1) := by decide +kernel
theorem dX5_withdraw_19 : decode cX5_withdraw 19 = .ok (.ldc 80, 2) := by decide +kernel
theorem dX5_withdraw_21 : decode cX5_withdraw 21 = .ok (.invokespecial 82, 3) := by decide +kernel
theorem dX5_withdraw_24 : decode cX5_withdraw 24 = .ok (.athrow, 1) := by decide +kernel
theorem dX5_withdraw_25 : decode cX5_withdraw 25 = .ok (.aload_n 0, 1) := by decide +kernel
theorem dX5_withdraw_26 : decode cX5_withdraw 26 = .ok (.getfield 28, 3) := by decide +kernel
theorem dX5_withdraw_29 : decode cX5_withdraw 29 = .ok (.getfield 83, 3) := by decide +kernel
theorem dX5_withdraw_32 : decode cX5_withdraw 32 = .ok (.iload_n 1, 1) := by decide +kernel
theorem dX5_withdraw_33 : decode cX5_withdraw 33 = .ok (.aaload, 1) := by decide +kernel
theorem dX5_withdraw_34 : decode cX5_withdraw 34 = .ok (.getfield 87, 3) := by decide +kernel
theorem dX5_withdraw_37 : decode cX5_withdraw 37 = .ok (.ifCond .eq 13, 3) := by decide +kernel
theorem dX5_withdraw_40 : decode cX5_withdraw 40 = .ok (.new 64, 3) := by decide +kernel
theorem dX5_withdraw_43 : decode cX5_withdraw 43 = .ok (.dup, 1) := by decide +kernel
theorem dX5_withdraw_44 : decode cX5_withdraw 44 = .ok (.ldc 91, 2) := by decide +kernel
theorem dX5_withdraw_46 : decode cX5_withdraw 46 = .ok (.invokespecial 68, 3) := by decide +kernel
theorem dX5_withdraw_49 : decode cX5_withdraw 49 = .ok (.athrow, 1) := by decide +kernel
theorem dX5_withdraw_50 : decode cX5_withdraw 50 = .ok (.aload_n 0, 1) := by decide +kernel
theorem dX5_withdraw_51 : decode cX5_withdraw 51 = .ok (.invokevirtual 93, 3) := by decide +kernel
theorem dX5_withdraw_54 : decode cX5_withdraw 54 = .ok (.lstore_n 2, 1) := by decide +kernel
theorem dX5_withdraw_55 : decode cX5_withdraw 55 = .ok (.aload_n 0, 1) := by decide +kernel
theorem dX5_withdraw_56 : decode cX5_withdraw 56 = .ok (.getfield 28, 3) := by decide +kernel
theorem dX5_withdraw_59 : decode cX5_withdraw 59 = .ok (.iload_n 1, 1) := by decide +kernel
theorem dX5_withdraw_60 : decode cX5_withdraw 60 = .ok (.invokevirtual 97, 3) := by decide +kernel
theorem dX5_withdraw_63 : decode cX5_withdraw 63 = .ok (.lload_n 2, 1) := by decide +kernel
theorem dX5_withdraw_64 : decode cX5_withdraw 64 = .ok (.aload_n 0, 1) := by decide +kernel
theorem dX5_withdraw_65 : decode cX5_withdraw 65 = .ok (.invokevirtual 93, 3) := by decide +kernel
theorem dX5_withdraw_68 : decode cX5_withdraw 68 = .ok (.ldc2_w 100, 3) := by decide +kernel
theorem dX5_withdraw_71 : decode cX5_withdraw 71 = .ok (.lxor, 1) := by decide +kernel
theorem dX5_withdraw_72 : decode cX5_withdraw 72 = .ok (.land, 1) := by decide +kernel
theorem dX5_withdraw_73 : decode cX5_withdraw 73 = .ok (.invokestatic 102, 3) := by decide +kernel
theorem dX5_withdraw_76 : decode cX5_withdraw 76 = .ok (.ireturn, 1) := by decide +kernel
theorem dX5_law_0 : decode cX5_law 0 = .ok (.aload_n 0, 1) := by decide +kernel
theorem dX5_law_1 : decode cX5_law 1 = .ok (.iload_n 1, 1) := by decide +kernel
theorem dX5_law_2 : decode cX5_law 2 = .ok (.invokevirtual 108, 3) := by decide +kernel
theorem dX5_law_5 : decode cX5_law 5 = .ok (.astore 5, 2) := by decide +kernel
theorem dX5_law_7 : decode cX5_law 7 = .ok (.iload_n 2, 1) := by decide +kernel
theorem dX5_law_8 : decode cX5_law 8 = .ok (.iconst 1, 1) := by decide +kernel
theorem dX5_law_9 : decode cX5_law 9 = .ok (.bipush 100, 2) := by decide +kernel
theorem dX5_law_11 : decode cX5_law 11 = .ok (.invokestatic 47, 3) := by decide +kernel
theorem dX5_law_14 : decode cX5_law 14 = .ok (.iload_n 3, 1) := by decide +kernel
theorem dX5_law_15 : decode cX5_law 15 = .ok (.iconst 0, 1) := by decide +kernel
theorem dX5_law_16 : decode cX5_law 16 = .ok (.sipush 1000, 3) := by decide +kernel
theorem dX5_law_19 : decode cX5_law 19 = .ok (.invokestatic 47, 3) := by decide +kernel
theorem dX5_law_22 : decode cX5_law 22 = .ok (.iload 4, 2) := by decide +kernel
theorem dX5_law_24 : decode cX5_law 24 = .ok (.iconst 1, 1) := by decide +kernel
theorem dX5_law_25 : decode cX5_law 25 = .ok (.bipush 50, 2) := by decide +kernel
theorem dX5_law_27 : decode cX5_law 27 = .ok (.invokestatic 47, 3) := by decide +kernel
theorem dX5_law_30 : decode cX5_law 30 = .ok (.aload 5, 2) := by decide +kernel
theorem dX5_law_32 : decode cX5_law 32 = .ok (.iload_n 2, 1) := by decide +kernel
theorem dX5_law_33 : decode cX5_law 33 = .ok (.putfield 112, 3) := by decide +kernel
theorem dX5_law_36 : decode cX5_law 36 = .ok (.aload 5, 2) := by decide +kernel
theorem dX5_law_38 : decode cX5_law 38 = .ok (.iload_n 3, 1) := by decide +kernel
theorem dX5_law_39 : decode cX5_law 39 = .ok (.putfield 115, 3) := by decide +kernel
theorem dX5_law_42 : decode cX5_law 42 = .ok (.aload 5, 2) := by decide +kernel
theorem dX5_law_44 : decode cX5_law 44 = .ok (.iload 4, 2) := by decide +kernel
theorem dX5_law_46 : decode cX5_law 46 = .ok (.putfield 118, 3) := by decide +kernel
theorem dX5_law_49 : decode cX5_law 49 = .ok (.return_, 1) := by decide +kernel
theorem dX5_quality_0 : decode cX5_quality 0 = .ok (.iload_n 1, 1) := by decide +kernel
theorem dX5_quality_1 : decode cX5_quality 1 = .ok (.invokestatic 40, 3) := by decide +kernel
theorem dX5_quality_4 : decode cX5_quality 4 = .ok (.iload_n 2, 1) := by decide +kernel
theorem dX5_quality_5 : decode cX5_quality 5 = .ok (.invokestatic 40, 3) := by decide +kernel
theorem dX5_quality_8 : decode cX5_quality 8 = .ok (.aload_n 0, 1) := by decide +kernel
theorem dX5_quality_9 : decode cX5_quality 9 = .ok (.getfield 28, 3) := by decide +kernel
theorem dX5_quality_12 : decode cX5_quality 12 = .ok (.iload_n 1, 1) := by decide +kernel
theorem dX5_quality_13 : decode cX5_quality 13 = .ok (.invokevirtual 121, 3) := by decide +kernel
theorem dX5_quality_16 : decode cX5_quality 16 = .ok (.getfield 125, 3) := by decide +kernel
theorem dX5_quality_19 : decode cX5_quality 19 = .ok (.iload_n 2, 1) := by decide +kernel
theorem dX5_quality_20 : decode cX5_quality 20 = .ok (.iaload, 1) := by decide +kernel
theorem dX5_quality_21 : decode cX5_quality 21 = .ok (.ireturn, 1) := by decide +kernel
theorem dX5_qualityByAll_0 : decode cX5_qualityByAll 0 = .ok (.iload_n 1, 1) := by decide +kernel
theorem dX5_qualityByAll_1 : decode cX5_qualityByAll 1 = .ok (.invokestatic 40, 3) := by decide +kernel
theorem dX5_qualityByAll_4 : decode cX5_qualityByAll 4 = .ok (.iload_n 2, 1) := by decide +kernel
theorem dX5_qualityByAll_5 : decode cX5_qualityByAll 5 = .ok (.invokestatic 40, 3) := by decide +kernel
theorem dX5_qualityByAll_8 : decode cX5_qualityByAll 8 = .ok (.aload_n 0, 1) := by decide +kernel
theorem dX5_qualityByAll_9 : decode cX5_qualityByAll 9 = .ok (.getfield 28, 3) := by decide +kernel
theorem dX5_qualityByAll_12 : decode cX5_qualityByAll 12 = .ok (.iload_n 1, 1) := by decide +kernel
theorem dX5_qualityByAll_13 : decode cX5_qualityByAll 13 = .ok (.iload_n 2, 1) := by decide +kernel
theorem dX5_qualityByAll_14 : decode cX5_qualityByAll 14 = .ok (.invokevirtual 130, 3) := by decide +kernel
theorem dX5_qualityByAll_17 : decode cX5_qualityByAll 17 = .ok (.ireturn, 1) := by decide +kernel
theorem dX5_cost_0 : decode cX5_cost 0 = .ok (.iload_n 1, 1) := by decide +kernel
theorem dX5_cost_1 : decode cX5_cost 1 = .ok (.invokestatic 40, 3) := by decide +kernel
theorem dX5_cost_4 : decode cX5_cost 4 = .ok (.iload_n 2, 1) := by decide +kernel
theorem dX5_cost_5 : decode cX5_cost 5 = .ok (.invokestatic 40, 3) := by decide +kernel
theorem dX5_cost_8 : decode cX5_cost 8 = .ok (.aload_n 0, 1) := by decide +kernel
theorem dX5_cost_9 : decode cX5_cost 9 = .ok (.getfield 28, 3) := by decide +kernel
theorem dX5_cost_12 : decode cX5_cost 12 = .ok (.iload_n 1, 1) := by decide +kernel
theorem dX5_cost_13 : decode cX5_cost 13 = .ok (.invokevirtual 121, 3) := by decide +kernel
theorem dX5_cost_16 : decode cX5_cost 16 = .ok (.getfield 134, 3) := by decide +kernel
theorem dX5_cost_19 : decode cX5_cost 19 = .ok (.iload_n 2, 1) := by decide +kernel
theorem dX5_cost_20 : decode cX5_cost 20 = .ok (.iaload, 1) := by decide +kernel
theorem dX5_cost_21 : decode cX5_cost 21 = .ok (.ireturn, 1) := by decide +kernel
theorem dX5_stepAt_0 : decode cX5_stepAt 0 = .ok (.iload_n 1, 1) := by decide +kernel
theorem dX5_stepAt_1 : decode cX5_stepAt 1 = .ok (.invokestatic 40, 3) := by decide +kernel
theorem dX5_stepAt_4 : decode cX5_stepAt 4 = .ok (.iload_n 2, 1) := by decide +kernel
theorem dX5_stepAt_5 : decode cX5_stepAt 5 = .ok (.invokestatic 40, 3) := by decide +kernel
theorem dX5_stepAt_8 : decode cX5_stepAt 8 = .ok (.iload_n 3, 1) := by decide +kernel
theorem dX5_stepAt_9 : decode cX5_stepAt 9 = .ok (.ifCond .ge 13, 3) := by decide +kernel
theorem dX5_stepAt_12 : decode cX5_stepAt 12 = .ok (.new 78, 3) := by decide +kernel
theorem dX5_stepAt_15 : decode cX5_stepAt 15 = .ok (.dup, 1) := by decide +kernel
theorem dX5_stepAt_16 : decode cX5_stepAt 16 = .ok (.ldc 137, 2) := by decide +kernel
theorem dX5_stepAt_18 : decode cX5_stepAt 18 = .ok (.invokespecial 82, 3) := by decide +kernel
theorem dX5_stepAt_21 : decode cX5_stepAt 21 = .ok (.athrow, 1) := by decide +kernel
theorem dX5_stepAt_22 : decode cX5_stepAt 22 = .ok (.aload_n 0, 1) := by decide +kernel
theorem dX5_stepAt_23 : decode cX5_stepAt 23 = .ok (.getfield 28, 3) := by decide +kernel
theorem dX5_stepAt_26 : decode cX5_stepAt 26 = .ok (.iload_n 1, 1) := by decide +kernel
theorem dX5_stepAt_27 : decode cX5_stepAt 27 = .ok (.invokevirtual 121, 3) := by decide +kernel
theorem dX5_stepAt_30 : decode cX5_stepAt 30 = .ok (.astore 4, 2) := by decide +kernel
theorem dX5_stepAt_32 : decode cX5_stepAt 32 = .ok (.iload_n 3, 1) := by decide +kernel
theorem dX5_stepAt_33 : decode cX5_stepAt 33 = .ok (.aload 4, 2) := by decide +kernel
theorem dX5_stepAt_35 : decode cX5_stepAt 35 = .ok (.getfield 139, 3) := by decide +kernel
theorem dX5_stepAt_38 : decode cX5_stepAt 38 = .ok (.iload_n 2, 1) := by decide +kernel
theorem dX5_stepAt_39 : decode cX5_stepAt 39 = .ok (.iaload, 1) := by decide +kernel
theorem dX5_stepAt_40 : decode cX5_stepAt 40 = .ok (.if_icmp .ge 15, 3) := by decide +kernel
theorem dX5_stepAt_43 : decode cX5_stepAt 43 = .ok (.aload 4, 2) := by decide +kernel
theorem dX5_stepAt_45 : decode cX5_stepAt 45 = .ok (.getfield 142, 3) := by decide +kernel
theorem dX5_stepAt_48 : decode cX5_stepAt 48 = .ok (.iload_n 2, 1) := by decide +kernel
theorem dX5_stepAt_49 : decode cX5_stepAt 49 = .ok (.aaload, 1) := by decide +kernel
theorem dX5_stepAt_50 : decode cX5_stepAt 50 = .ok (.iload_n 3, 1) := by decide +kernel
theorem dX5_stepAt_51 : decode cX5_stepAt 51 = .ok (.iaload, 1) := by decide +kernel
theorem dX5_stepAt_52 : decode cX5_stepAt 52 = .ok (.goto 4, 3) := by decide +kernel
theorem dX5_stepAt_55 : decode cX5_stepAt 55 = .ok (.iconst (-1), 1) := by decide +kernel
theorem dX5_stepAt_56 : decode cX5_stepAt 56 = .ok (.ireturn, 1) := by decide +kernel
theorem dX5_file_0 : decode cX5_file 0 = .ok (.iload_n 1, 1) := by decide +kernel
theorem dX5_file_1 : decode cX5_file 1 = .ok (.invokestatic 40, 3) := by decide +kernel
theorem dX5_file_4 : decode cX5_file 4 = .ok (.aload_n 0, 1) := by decide +kernel
theorem dX5_file_5 : decode cX5_file 5 = .ok (.iload_n 3, 1) := by decide +kernel
theorem dX5_file_6 : decode cX5_file 6 = .ok (.invokevirtual 108, 3) := by decide +kernel
theorem dX5_file_9 : decode cX5_file 9 = .ok (.astore 4, 2) := by decide +kernel
theorem dX5_file_11 : decode cX5_file 11 = .ok (.iload_n 2, 1) := by decide +kernel
theorem dX5_file_12 : decode cX5_file 12 = .ok (.iconst 1, 1) := by decide +kernel
theorem dX5_file_13 : decode cX5_file 13 = .ok (.bipush 100, 2) := by decide +kernel
theorem dX5_file_15 : decode cX5_file 15 = .ok (.invokestatic 47, 3) := by decide +kernel
theorem dX5_file_18 : decode cX5_file 18 = .ok (.aload_n 0, 1) := by decide +kernel
theorem dX5_file_19 : decode cX5_file 19 = .ok (.getfield 146, 3) := by decide +kernel
theorem dX5_file_22 : decode cX5_file 22 = .ok (.bipush 40, 2) := by decide +kernel
theorem dX5_file_24 : decode cX5_file 24 = .ok (.if_icmp .lt 13, 3) := by decide +kernel
theorem dX5_file_27 : decode cX5_file 27 = .ok (.new 64, 3) := by decide +kernel
theorem dX5_file_30 : decode cX5_file 30 = .ok (.dup, 1) := by decide +kernel
theorem dX5_file_31 : decode cX5_file 31 = .ok (.ldc 149, 2) := by decide +kernel
theorem dX5_file_33 : decode cX5_file 33 = .ok (.invokespecial 68, 3) := by decide +kernel
theorem dX5_file_36 : decode cX5_file 36 = .ok (.athrow, 1) := by decide +kernel
theorem dX5_file_37 : decode cX5_file 37 = .ok (.aload_n 0, 1) := by decide +kernel
theorem dX5_file_38 : decode cX5_file 38 = .ok (.iload_n 1, 1) := by decide +kernel
theorem dX5_file_39 : decode cX5_file 39 = .ok (.invokevirtual 51, 3) := by decide +kernel
theorem dX5_file_42 : decode cX5_file 42 = .ok (.aload_n 0, 1) := by decide +kernel
theorem dX5_file_43 : decode cX5_file 43 = .ok (.getfield 21, 3) := by decide +kernel
theorem dX5_file_46 : decode cX5_file 46 = .ok (.aload_n 0, 1) := by decide +kernel
theorem dX5_file_47 : decode cX5_file 47 = .ok (.getfield 146, 3) := by decide +kernel
theorem dX5_file_50 : decode cX5_file 50 = .ok (.new 19, 3) := by decide +kernel
theorem dX5_file_53 : decode cX5_file 53 = .ok (.dup, 1) := by decide +kernel
theorem dX5_file_54 : decode cX5_file 54 = .ok (.iload_n 1, 1) := by decide +kernel
theorem dX5_file_55 : decode cX5_file 55 = .ok (.iload_n 2, 1) := by decide +kernel
theorem dX5_file_56 : decode cX5_file 56 = .ok (.aload 4, 2) := by decide +kernel
theorem dX5_file_58 : decode cX5_file 58 = .ok (.aload_n 0, 1) := by decide +kernel
theorem dX5_file_59 : decode cX5_file 59 = .ok (.getfield 44, 3) := by decide +kernel
theorem dX5_file_62 : decode cX5_file 62 = .ok (.invokespecial 151, 3) := by decide +kernel
theorem dX5_file_65 : decode cX5_file 65 = .ok (.aastore, 1) := by decide +kernel
theorem dX5_file_66 : decode cX5_file 66 = .ok (.aload_n 0, 1) := by decide +kernel
theorem dX5_file_67 : decode cX5_file 67 = .ok (.dup, 1) := by decide +kernel
theorem dX5_file_68 : decode cX5_file 68 = .ok (.getfield 146, 3) := by decide +kernel
theorem dX5_file_71 : decode cX5_file 71 = .ok (.iconst 1, 1) := by decide +kernel
theorem dX5_file_72 : decode cX5_file 72 = .ok (.iadd, 1) := by decide +kernel
theorem dX5_file_73 : decode cX5_file 73 = .ok (.putfield 146, 3) := by decide +kernel
theorem dX5_file_76 : decode cX5_file 76 = .ok (.aload_n 0, 1) := by decide +kernel
theorem dX5_file_77 : decode cX5_file 77 = .ok (.getfield 146, 3) := by decide +kernel
theorem dX5_file_80 : decode cX5_file 80 = .ok (.iconst 1, 1) := by decide +kernel
theorem dX5_file_81 : decode cX5_file 81 = .ok (.isub, 1) := by decide +kernel
theorem dX5_file_82 : decode cX5_file 82 = .ok (.ireturn, 1) := by decide +kernel
theorem dX5_hold_0 : decode cX5_hold 0 = .ok (.aload_n 0, 1) := by decide +kernel
theorem dX5_hold_1 : decode cX5_hold 1 = .ok (.iload_n 1, 1) := by decide +kernel
theorem dX5_hold_2 : decode cX5_hold 2 = .ok (.invokevirtual 154, 3) := by decide +kernel
theorem dX5_hold_5 : decode cX5_hold 5 = .ok (.astore_n 3, 1) := by decide +kernel
theorem dX5_hold_6 : decode cX5_hold 6 = .ok (.aload_n 3, 1) := by decide +kernel
theorem dX5_hold_7 : decode cX5_hold 7 = .ok (.invokestatic 158, 3) := by decide +kernel
theorem dX5_hold_10 : decode cX5_hold 10 = .ok (.aload_n 3, 1) := by decide +kernel
theorem dX5_hold_11 : decode cX5_hold 11 = .ok (.getfield 162, 3) := by decide +kernel
theorem dX5_hold_14 : decode cX5_hold 14 = .ok (.iload_n 2, 1) := by decide +kernel
theorem dX5_hold_15 : decode cX5_hold 15 = .ok (.if_icmp .eq 7, 3) := by decide +kernel
theorem dX5_hold_18 : decode cX5_hold 18 = .ok (.iconst 1, 1) := by decide +kernel
theorem dX5_hold_19 : decode cX5_hold 19 = .ok (.goto 4, 3) := by decide +kernel
theorem dX5_hold_22 : decode cX5_hold 22 = .ok (.iconst 0, 1) := by decide +kernel
theorem dX5_hold_23 : decode cX5_hold 23 = .ok (.istore 4, 2) := by decide +kernel
theorem dX5_hold_25 : decode cX5_hold 25 = .ok (.aload_n 3, 1) := by decide +kernel
theorem dX5_hold_26 : decode cX5_hold 26 = .ok (.iload_n 2, 1) := by decide +kernel
theorem dX5_hold_27 : decode cX5_hold 27 = .ok (.putfield 162, 3) := by decide +kernel
theorem dX5_hold_30 : decode cX5_hold 30 = .ok (.iload 4, 2) := by decide +kernel
theorem dX5_hold_32 : decode cX5_hold 32 = .ok (.ireturn, 1) := by decide +kernel
theorem dX5_read_0 : decode cX5_read 0 = .ok (.aload_n 0, 1) := by decide +kernel
theorem dX5_read_1 : decode cX5_read 1 = .ok (.iload_n 1, 1) := by decide +kernel
theorem dX5_read_2 : decode cX5_read 2 = .ok (.invokevirtual 154, 3) := by decide +kernel
theorem dX5_read_5 : decode cX5_read 5 = .ok (.astore_n 2, 1) := by decide +kernel
theorem dX5_read_6 : decode cX5_read 6 = .ok (.aload_n 2, 1) := by decide +kernel
theorem dX5_read_7 : decode cX5_read 7 = .ok (.invokestatic 158, 3) := by decide +kernel
theorem dX5_read_10 : decode cX5_read 10 = .ok (.aload_n 0, 1) := by decide +kernel
theorem dX5_read_11 : decode cX5_read 11 = .ok (.aload_n 2, 1) := by decide +kernel
theorem dX5_read_12 : decode cX5_read 12 = .ok (.getfield 165, 3) := by decide +kernel
theorem dX5_read_15 : decode cX5_read 15 = .ok (.invokevirtual 51, 3) := by decide +kernel
theorem dX5_read_18 : decode cX5_read 18 = .ok (.aload_n 2, 1) := by decide +kernel
theorem dX5_read_19 : decode cX5_read 19 = .ok (.getfield 168, 3) := by decide +kernel
theorem dX5_read_22 : decode cX5_read 22 = .ok (.aload_n 2, 1) := by decide +kernel
theorem dX5_read_23 : decode cX5_read 23 = .ok (.getfield 170, 3) := by decide +kernel
theorem dX5_read_26 : decode cX5_read 26 = .ok (.getfield 115, 3) := by decide +kernel
theorem dX5_read_29 : decode cX5_read 29 = .ok (.if_icmp .ge 13, 3) := by decide +kernel
theorem dX5_read_32 : decode cX5_read 32 = .ok (.new 64, 3) := by decide +kernel
theorem dX5_read_35 : decode cX5_read 35 = .ok (.dup, 1) := by decide +kernel
theorem dX5_read_36 : decode cX5_read 36 = .ok (.ldc 174, 2) := by decide +kernel
theorem dX5_read_38 : decode cX5_read 38 = .ok (.invokespecial 68, 3) := by decide +kernel
theorem dX5_read_41 : decode cX5_read 41 = .ok (.athrow, 1) := by decide +kernel
theorem dX5_read_42 : decode cX5_read 42 = .ok (.aload_n 0, 1) := by decide +kernel
theorem dX5_read_43 : decode cX5_read 43 = .ok (.getfield 44, 3) := by decide +kernel
theorem dX5_read_46 : decode cX5_read 46 = .ok (.aload_n 2, 1) := by decide +kernel
theorem dX5_read_47 : decode cX5_read 47 = .ok (.getfield 176, 3) := by decide +kernel
theorem dX5_read_50 : decode cX5_read 50 = .ok (.isub, 1) := by decide +kernel
theorem dX5_read_51 : decode cX5_read 51 = .ok (.istore_n 3, 1) := by decide +kernel
theorem dX5_read_52 : decode cX5_read 52 = .ok (.aload_n 2, 1) := by decide +kernel
theorem dX5_read_53 : decode cX5_read 53 = .ok (.aload_n 0, 1) := by decide +kernel
theorem dX5_read_54 : decode cX5_read 54 = .ok (.getfield 44, 3) := by decide +kernel
theorem dX5_read_57 : decode cX5_read 57 = .ok (.putfield 176, 3) := by decide +kernel
theorem dX5_read_60 : decode cX5_read 60 = .ok (.iload_n 3, 1) := by decide +kernel
theorem dX5_read_61 : decode cX5_read 61 = .ok (.ireturn, 1) := by decide +kernel
theorem dX5_move_0 : decode cX5_move 0 = .ok (.aload_n 0, 1) := by decide +kernel
theorem dX5_move_1 : decode cX5_move 1 = .ok (.iload_n 1, 1) := by decide +kernel
theorem dX5_move_2 : decode cX5_move 2 = .ok (.invokevirtual 154, 3) := by decide +kernel
theorem dX5_move_5 : decode cX5_move 5 = .ok (.astore_n 3, 1) := by decide +kernel
theorem dX5_move_6 : decode cX5_move 6 = .ok (.iload_n 2, 1) := by decide +kernel
theorem dX5_move_7 : decode cX5_move 7 = .ok (.invokestatic 40, 3) := by decide +kernel
theorem dX5_move_10 : decode cX5_move 10 = .ok (.aload_n 3, 1) := by decide +kernel
theorem dX5_move_11 : decode cX5_move 11 = .ok (.getfield 165, 3) := by decide +kernel
theorem dX5_move_14 : decode cX5_move 14 = .ok (.iload_n 2, 1) := by decide +kernel
theorem dX5_move_15 : decode cX5_move 15 = .ok (.if_icmp .ne 13, 3) := by decide +kernel
theorem dX5_move_18 : decode cX5_move 18 = .ok (.new 54, 3) := by decide +kernel
theorem dX5_move_21 : decode cX5_move 21 = .ok (.dup, 1) := by decide +kernel
theorem dX5_move_22 : decode cX5_move 22 = .ok (.ldc 179, 2) := by decide +kernel
theorem dX5_move_24 : decode cX5_move 24 = .ok (.invokespecial 58, 3) := by decide +kernel
theorem dX5_move_27 : decode cX5_move 27 = .ok (.athrow, 1) := by decide +kernel
theorem dX5_move_28 : decode cX5_move 28 = .ok (.aload_n 3, 1) := by decide +kernel
theorem dX5_move_29 : decode cX5_move 29 = .ok (.invokestatic 158, 3) := by decide +kernel
theorem dX5_move_32 : decode cX5_move 32 = .ok (.aload_n 0, 1) := by decide +kernel
theorem dX5_move_33 : decode cX5_move 33 = .ok (.iload_n 2, 1) := by decide +kernel
theorem dX5_move_34 : decode cX5_move 34 = .ok (.invokevirtual 51, 3) := by decide +kernel
theorem dX5_move_37 : decode cX5_move 37 = .ok (.aload_n 0, 1) := by decide +kernel
theorem dX5_move_38 : decode cX5_move 38 = .ok (.getfield 28, 3) := by decide +kernel
theorem dX5_move_41 : decode cX5_move 41 = .ok (.aload_n 3, 1) := by decide +kernel
theorem dX5_move_42 : decode cX5_move 42 = .ok (.getfield 165, 3) := by decide +kernel
theorem dX5_move_45 : decode cX5_move 45 = .ok (.invokevirtual 121, 3) := by decide +kernel
theorem dX5_move_48 : decode cX5_move 48 = .ok (.getfield 125, 3) := by decide +kernel
theorem dX5_move_51 : decode cX5_move 51 = .ok (.iload_n 2, 1) := by decide +kernel
theorem dX5_move_52 : decode cX5_move 52 = .ok (.iaload, 1) := by decide +kernel
theorem dX5_move_53 : decode cX5_move 53 = .ok (.iconst (-1), 1) := by decide +kernel
theorem dX5_move_54 : decode cX5_move 54 = .ok (.if_icmp .ne 13, 3) := by decide +kernel
theorem dX5_move_57 : decode cX5_move 57 = .ok (.new 64, 3) := by decide +kernel
theorem dX5_move_60 : decode cX5_move 60 = .ok (.dup, 1) := by decide +kernel
theorem dX5_move_61 : decode cX5_move 61 = .ok (.ldc 181, 2) := by decide +kernel
theorem dX5_move_63 : decode cX5_move 63 = .ok (.invokespecial 68, 3) := by decide +kernel
theorem dX5_move_66 : decode cX5_move 66 = .ok (.athrow, 1) := by decide +kernel
theorem dX5_move_67 : decode cX5_move 67 = .ok (.aload_n 0, 1) := by decide +kernel
theorem dX5_move_68 : decode cX5_move 68 = .ok (.aload_n 3, 1) := by decide +kernel
theorem dX5_move_69 : decode cX5_move 69 = .ok (.iload_n 2, 1) := by decide +kernel
theorem dX5_move_70 : decode cX5_move 70 = .ok (.invokevirtual 183, 3) := by decide +kernel
theorem dX5_move_73 : decode cX5_move 73 = .ok (.aload_n 0, 1) := by decide +kernel
theorem dX5_move_74 : decode cX5_move 74 = .ok (.getfield 36, 3) := by decide +kernel
theorem dX5_move_77 : decode cX5_move 77 = .ok (.if_icmp .le 13, 3) := by decide +kernel
theorem dX5_move_80 : decode cX5_move 80 = .ok (.new 64, 3) := by decide +kernel
theorem dX5_move_83 : decode cX5_move 83 = .ok (.dup, 1) := by decide +kernel
theorem dX5_move_84 : decode cX5_move 84 = .ok (.ldc 187, 2) := by decide +kernel
theorem dX5_move_86 : decode cX5_move 86 = .ok (.invokespecial 68, 3) := by decide +kernel
theorem dX5_move_89 : decode cX5_move 89 = .ok (.athrow, 1) := by decide +kernel
theorem dX5_move_90 : decode cX5_move 90 = .ok (.aload_n 0, 1) := by decide +kernel
theorem dX5_move_91 : decode cX5_move 91 = .ok (.aload_n 3, 1) := by decide +kernel
theorem dX5_move_92 : decode cX5_move 92 = .ok (.iload_n 2, 1) := by decide +kernel
theorem dX5_move_93 : decode cX5_move 93 = .ok (.invokevirtual 189, 3) := by decide +kernel
theorem dX5_move_96 : decode cX5_move 96 = .ok (.aload_n 3, 1) := by decide +kernel
theorem dX5_move_97 : decode cX5_move 97 = .ok (.getfield 168, 3) := by decide +kernel
theorem dX5_move_100 : decode cX5_move 100 = .ok (.ireturn, 1) := by decide +kernel
theorem dX5_moveAhead_0 : decode cX5_moveAhead 0 = .ok (.aload_n 0, 1) := by decide +kernel
theorem dX5_moveAhead_1 : decode cX5_moveAhead 1 = .ok (.invokevirtual 93, 3) := by decide +kernel
theorem dX5_moveAhead_4 : decode cX5_moveAhead 4 = .ok (.aload_n 0, 1) := by decide +kernel
theorem dX5_moveAhead_5 : decode cX5_moveAhead 5 = .ok (.invokevirtual 193, 3) := by decide +kernel
theorem dX5_moveAhead_8 : decode cX5_moveAhead 8 = .ok (.ldc2_w 100, 3) := by decide +kernel
theorem dX5_moveAhead_11 : decode cX5_moveAhead 11 = .ok (.lxor, 1) := by decide +kernel
theorem dX5_moveAhead_12 : decode cX5_moveAhead 12 = .ok (.land, 1) := by decide +kernel
theorem dX5_moveAhead_13 : decode cX5_moveAhead 13 = .ok (.lstore_n 1, 1) := by decide +kernel
theorem dX5_moveAhead_14 : decode cX5_moveAhead 14 = .ok (.iconst 0, 1) := by decide +kernel
theorem dX5_moveAhead_15 : decode cX5_moveAhead 15 = .ok (.istore_n 3, 1) := by decide +kernel
theorem dX5_moveAhead_16 : decode cX5_moveAhead 16 = .ok (.iconst 0, 1) := by decide +kernel
theorem dX5_moveAhead_17 : decode cX5_moveAhead 17 = .ok (.istore 4, 2) := by decide +kernel
theorem dX5_moveAhead_19 : decode cX5_moveAhead 19 = .ok (.iload 4, 2) := by decide +kernel
theorem dX5_moveAhead_21 : decode cX5_moveAhead 21 = .ok (.aload_n 0, 1) := by decide +kernel
theorem dX5_moveAhead_22 : decode cX5_moveAhead 22 = .ok (.getfield 146, 3) := by decide +kernel
theorem dX5_moveAhead_25 : decode cX5_moveAhead 25 = .ok (.if_icmp .ge 82, 3) := by decide +kernel
theorem dX5_moveAhead_28 : decode cX5_moveAhead 28 = .ok (.lload_n 1, 1) := by decide +kernel
theorem dX5_moveAhead_29 : decode cX5_moveAhead 29 = .ok (.lconst 0, 1) := by decide +kernel
theorem dX5_moveAhead_30 : decode cX5_moveAhead 30 = .ok (.lcmp, 1) := by decide +kernel
theorem dX5_moveAhead_31 : decode cX5_moveAhead 31 = .ok (.ifCond .eq 76, 3) := by decide +kernel
theorem dX5_moveAhead_34 : decode cX5_moveAhead 34 = .ok (.aload_n 0, 1) := by decide +kernel
theorem dX5_moveAhead_35 : decode cX5_moveAhead 35 = .ok (.lload_n 1, 1) := by decide +kernel
theorem dX5_moveAhead_36 : decode cX5_moveAhead 36 = .ok (.invokevirtual 196, 3) := by decide +kernel
theorem dX5_moveAhead_39 : decode cX5_moveAhead 39 = .ok (.istore 5, 2) := by decide +kernel
theorem dX5_moveAhead_41 : decode cX5_moveAhead 41 = .ok (.lload_n 1, 1) := by decide +kernel
theorem dX5_moveAhead_42 : decode cX5_moveAhead 42 = .ok (.lconst 1, 1) := by decide +kernel
theorem dX5_moveAhead_43 : decode cX5_moveAhead 43 = .ok (.iload 5, 2) := by decide +kernel
theorem dX5_moveAhead_45 : decode cX5_moveAhead 45 = .ok (.lshl, 1) := by decide +kernel
theorem dX5_moveAhead_46 : decode cX5_moveAhead 46 = .ok (.ldc2_w 100, 3) := by decide +kernel
theorem dX5_moveAhead_49 : decode cX5_moveAhead 49 = .ok (.lxor, 1) := by decide +kernel
theorem dX5_moveAhead_50 : decode cX5_moveAhead 50 = .ok (.land, 1) := by decide +kernel
theorem dX5_moveAhead_51 : decode cX5_moveAhead 51 = .ok (.lstore_n 1, 1) := by decide +kernel
theorem dX5_moveAhead_52 : decode cX5_moveAhead 52 = .ok (.aload_n 0, 1) := by decide +kernel
theorem dX5_moveAhead_53 : decode cX5_moveAhead 53 = .ok (.getfield 21, 3) := by decide +kernel
theorem dX5_moveAhead_56 : decode cX5_moveAhead 56 = .ok (.iload 5, 2) := by decide +kernel
theorem dX5_moveAhead_58 : decode cX5_moveAhead 58 = .ok (.aaload, 1) := by decide +kernel
theorem dX5_moveAhead_59 : decode cX5_moveAhead 59 = .ok (.astore 6, 2) := by decide +kernel
theorem dX5_moveAhead_61 : decode cX5_moveAhead 61 = .ok (.aload_n 0, 1) := by decide +kernel
theorem dX5_moveAhead_62 : decode cX5_moveAhead 62 = .ok (.aload 6, 2) := by decide +kernel
theorem dX5_moveAhead_64 : decode cX5_moveAhead 64 = .ok (.invokevirtual 199, 3) := by decide +kernel
theorem dX5_moveAhead_67 : decode cX5_moveAhead 67 = .ok (.istore 7, 2) := by decide +kernel
theorem dX5_moveAhead_69 : decode cX5_moveAhead 69 = .ok (.iload 7, 2) := by decide +kernel
theorem dX5_moveAhead_71 : decode cX5_moveAhead 71 = .ok (.iconst (-1), 1) := by decide +kernel
theorem dX5_moveAhead_72 : decode cX5_moveAhead 72 = .ok (.if_icmp .eq 29, 3) := by decide +kernel
theorem dX5_moveAhead_75 : decode cX5_moveAhead 75 = .ok (.aload_n 0, 1) := by decide +kernel
theorem dX5_moveAhead_76 : decode cX5_moveAhead 76 = .ok (.aload 6, 2) := by decide +kernel
theorem dX5_moveAhead_78 : decode cX5_moveAhead 78 = .ok (.iload 7, 2) := by decide +kernel
theorem dX5_moveAhead_80 : decode cX5_moveAhead 80 = .ok (.invokevirtual 183, 3) := by decide +kernel
theorem dX5_moveAhead_83 : decode cX5_moveAhead 83 = .ok (.aload_n 0, 1) := by decide +kernel
theorem dX5_moveAhead_84 : decode cX5_moveAhead 84 = .ok (.getfield 36, 3) := by decide +kernel
theorem dX5_moveAhead_87 : decode cX5_moveAhead 87 = .ok (.if_icmp .gt 14, 3) := by decide +kernel
theorem dX5_moveAhead_90 : decode cX5_moveAhead 90 = .ok (.aload_n 0, 1) := by decide +kernel
theorem dX5_moveAhead_91 : decode cX5_moveAhead 91 = .ok (.aload 6, 2) := by decide +kernel
theorem dX5_moveAhead_93 : decode cX5_moveAhead 93 = .ok (.iload 7, 2) := by decide +kernel
theorem dX5_moveAhead_95 : decode cX5_moveAhead 95 = .ok (.invokevirtual 189, 3) := by decide +kernel
theorem dX5_moveAhead_98 : decode cX5_moveAhead 98 = .ok (.iinc 3 1, 3) := by decide +kernel
theorem dX5_moveAhead_101 : decode cX5_moveAhead 101 = .ok (.iinc 4 1, 3) := by decide +kernel
theorem dX5_moveAhead_104 : decode cX5_moveAhead 104 = .ok (.goto (-85), 3) := by decide +kernel
theorem dX5_moveAhead_107 : decode cX5_moveAhead 107 = .ok (.iload_n 3, 1) := by decide +kernel
theorem dX5_moveAhead_108 : decode cX5_moveAhead 108 = .ok (.ireturn, 1) := by decide +kernel
theorem dX5_haven_0 : decode cX5_haven 0 = .ok (.aload_n 0, 1) := by decide +kernel
theorem dX5_haven_1 : decode cX5_haven 1 = .ok (.aload_n 0, 1) := by decide +kernel
theorem dX5_haven_2 : decode cX5_haven 2 = .ok (.iload_n 1, 1) := by decide +kernel
theorem dX5_haven_3 : decode cX5_haven 3 = .ok (.invokevirtual 154, 3) := by decide +kernel
theorem dX5_haven_6 : decode cX5_haven 6 = .ok (.invokevirtual 199, 3) := by decide +kernel
theorem dX5_haven_9 : decode cX5_haven 9 = .ok (.ireturn, 1) := by decide +kernel
theorem dX5_isSafe_0 : decode cX5_isSafe 0 = .ok (.aload_n 0, 1) := by decide +kernel
theorem dX5_isSafe_1 : decode cX5_isSafe 1 = .ok (.iload_n 1, 1) := by decide +kernel
theorem dX5_isSafe_2 : decode cX5_isSafe 2 = .ok (.invokevirtual 154, 3) := by decide +kernel
theorem dX5_isSafe_5 : decode cX5_isSafe 5 = .ok (.astore_n 2, 1) := by decide +kernel
theorem dX5_isSafe_6 : decode cX5_isSafe 6 = .ok (.aload_n 2, 1) := by decide +kernel
theorem dX5_isSafe_7 : decode cX5_isSafe 7 = .ok (.getfield 203, 3) := by decide +kernel
theorem dX5_isSafe_10 : decode cX5_isSafe 10 = .ok (.ifCond .ne 19, 3) := by decide +kernel
theorem dX5_isSafe_13 : decode cX5_isSafe 13 = .ok (.aload_n 0, 1) := by decide +kernel
theorem dX5_isSafe_14 : decode cX5_isSafe 14 = .ok (.aload_n 2, 1) := by decide +kernel
theorem dX5_isSafe_15 : decode cX5_isSafe 15 = .ok (.aload_n 2, 1) := by decide +kernel
theorem dX5_isSafe_16 : decode cX5_isSafe 16 = .ok (.getfield 165, 3) := by decide +kernel
theorem dX5_isSafe_19 : decode cX5_isSafe 19 = .ok (.invokevirtual 206, 3) := by decide +kernel
theorem dX5_isSafe_22 : decode cX5_isSafe 22 = .ok (.ifCond .eq 7, 3) := by decide +kernel
theorem dX5_isSafe_25 : decode cX5_isSafe 25 = .ok (.iconst 1, 1) := by decide +kernel
theorem dX5_isSafe_26 : decode cX5_isSafe 26 = .ok (.goto 4, 3) := by decide +kernel
theorem dX5_isSafe_29 : decode cX5_isSafe 29 = .ok (.iconst 0, 1) := by decide +kernel
theorem dX5_isSafe_30 : decode cX5_isSafe 30 = .ok (.ireturn, 1) := by decide +kernel
theorem dX5_stateOf_0 : decode cX5_stateOf 0 = .ok (.aload_n 0, 1) := by decide +kernel
theorem dX5_stateOf_1 : decode cX5_stateOf 1 = .ok (.iload_n 1, 1) := by decide +kernel
theorem dX5_stateOf_2 : decode cX5_stateOf 2 = .ok (.invokevirtual 154, 3) := by decide +kernel
theorem dX5_stateOf_5 : decode cX5_stateOf 5 = .ok (.getfield 203, 3) := by decide +kernel
theorem dX5_stateOf_8 : decode cX5_stateOf 8 = .ok (.ireturn, 1) := by decide +kernel
theorem dX5_formatOf_0 : decode cX5_formatOf 0 = .ok (.aload_n 0, 1) := by decide +kernel
theorem dX5_formatOf_1 : decode cX5_formatOf 1 = .ok (.iload_n 1, 1) := by decide +kernel
theorem dX5_formatOf_2 : decode cX5_formatOf 2 = .ok (.invokevirtual 154, 3) := by decide +kernel
theorem dX5_formatOf_5 : decode cX5_formatOf 5 = .ok (.getfield 165, 3) := by decide +kernel
theorem dX5_formatOf_8 : decode cX5_formatOf 8 = .ok (.ireturn, 1) := by decide +kernel
theorem dX5_qualityOf_0 : decode cX5_qualityOf 0 = .ok (.aload_n 0, 1) := by decide +kernel
theorem dX5_qualityOf_1 : decode cX5_qualityOf 1 = .ok (.iload_n 1, 1) := by decide +kernel
theorem dX5_qualityOf_2 : decode cX5_qualityOf 2 = .ok (.invokevirtual 154, 3) := by decide +kernel
theorem dX5_qualityOf_5 : decode cX5_qualityOf 5 = .ok (.getfield 168, 3) := by decide +kernel
theorem dX5_qualityOf_8 : decode cX5_qualityOf 8 = .ok (.ireturn, 1) := by decide +kernel
theorem dX5_endOf_0 : decode cX5_endOf 0 = .ok (.aload_n 0, 1) := by decide +kernel
theorem dX5_endOf_1 : decode cX5_endOf 1 = .ok (.iload_n 1, 1) := by decide +kernel
theorem dX5_endOf_2 : decode cX5_endOf 2 = .ok (.invokevirtual 154, 3) := by decide +kernel
theorem dX5_endOf_5 : decode cX5_endOf 5 = .ok (.getfield 210, 3) := by decide +kernel
theorem dX5_endOf_8 : decode cX5_endOf 8 = .ok (.ireturn, 1) := by decide +kernel
theorem dX5_setBudget_0 : decode cX5_setBudget 0 = .ok (.iload_n 1, 1) := by decide +kernel
theorem dX5_setBudget_1 : decode cX5_setBudget 1 = .ok (.iconst 0, 1) := by decide +kernel
theorem dX5_setBudget_2 : decode cX5_setBudget 2 = .ok (.ldc 213, 2) := by decide +kernel
theorem dX5_setBudget_4 : decode cX5_setBudget 4 = .ok (.invokestatic 47, 3) := by decide +kernel
theorem dX5_setBudget_7 : decode cX5_setBudget 7 = .ok (.aload_n 0, 1) := by decide +kernel
theorem dX5_setBudget_8 : decode cX5_setBudget 8 = .ok (.getfield 32, 3) := by decide +kernel
theorem dX5_setBudget_11 : decode cX5_setBudget 11 = .ok (.istore_n 2, 1) := by decide +kernel
theorem dX5_setBudget_12 : decode cX5_setBudget 12 = .ok (.aload_n 0, 1) := by decide +kernel
theorem dX5_setBudget_13 : decode cX5_setBudget 13 = .ok (.iload_n 1, 1) := by decide +kernel
theorem dX5_setBudget_14 : decode cX5_setBudget 14 = .ok (.putfield 32, 3) := by decide +kernel
theorem dX5_setBudget_17 : decode cX5_setBudget 17 = .ok (.iload_n 2, 1) := by decide +kernel
theorem dX5_setBudget_18 : decode cX5_setBudget 18 = .ok (.ireturn, 1) := by decide +kernel
theorem dX5_left_0 : decode cX5_left 0 = .ok (.aload_n 0, 1) := by decide +kernel
theorem dX5_left_1 : decode cX5_left 1 = .ok (.getfield 36, 3) := by decide +kernel
theorem dX5_left_4 : decode cX5_left 4 = .ok (.ireturn, 1) := by decide +kernel
theorem dX5_begin_0 : decode cX5_begin 0 = .ok (.aload_n 0, 1) := by decide +kernel
theorem dX5_begin_1 : decode cX5_begin 1 = .ok (.getfield 44, 3) := by decide +kernel
theorem dX5_begin_4 : decode cX5_begin 4 = .ok (.sipush 900, 3) := by decide +kernel
theorem dX5_begin_7 : decode cX5_begin 7 = .ok (.if_icmp .lt 13, 3) := by decide +kernel
theorem dX5_begin_10 : decode cX5_begin 10 = .ok (.new 64, 3) := by decide +kernel
theorem dX5_begin_13 : decode cX5_begin 13 = .ok (.dup, 1) := by decide +kernel
theorem dX5_begin_14 : decode cX5_begin 14 = .ok (.ldc 214, 2) := by decide +kernel
theorem dX5_begin_16 : decode cX5_begin 16 = .ok (.invokespecial 68, 3) := by decide +kernel
theorem dX5_begin_19 : decode cX5_begin 19 = .ok (.athrow, 1) := by decide +kernel
theorem dX5_begin_20 : decode cX5_begin 20 = .ok (.aload_n 0, 1) := by decide +kernel
theorem dX5_begin_21 : decode cX5_begin 21 = .ok (.dup, 1) := by decide +kernel
theorem dX5_begin_22 : decode cX5_begin 22 = .ok (.getfield 44, 3) := by decide +kernel
theorem dX5_begin_25 : decode cX5_begin 25 = .ok (.iconst 1, 1) := by decide +kernel
theorem dX5_begin_26 : decode cX5_begin 26 = .ok (.iadd, 1) := by decide +kernel
theorem dX5_begin_27 : decode cX5_begin 27 = .ok (.putfield 44, 3) := by decide +kernel
theorem dX5_begin_30 : decode cX5_begin 30 = .ok (.aload_n 0, 1) := by decide +kernel
theorem dX5_begin_31 : decode cX5_begin 31 = .ok (.aload_n 0, 1) := by decide +kernel
theorem dX5_begin_32 : decode cX5_begin 32 = .ok (.getfield 32, 3) := by decide +kernel
theorem dX5_begin_35 : decode cX5_begin 35 = .ok (.putfield 36, 3) := by decide +kernel
theorem dX5_begin_38 : decode cX5_begin 38 = .ok (.iconst 0, 1) := by decide +kernel
theorem dX5_begin_39 : decode cX5_begin 39 = .ok (.istore_n 1, 1) := by decide +kernel
theorem dX5_begin_40 : decode cX5_begin 40 = .ok (.iconst 0, 1) := by decide +kernel
theorem dX5_begin_41 : decode cX5_begin 41 = .ok (.istore_n 2, 1) := by decide +kernel
theorem dX5_begin_42 : decode cX5_begin 42 = .ok (.iload_n 2, 1) := by decide +kernel
theorem dX5_begin_43 : decode cX5_begin 43 = .ok (.aload_n 0, 1) := by decide +kernel
theorem dX5_begin_44 : decode cX5_begin 44 = .ok (.getfield 146, 3) := by decide +kernel
theorem dX5_begin_47 : decode cX5_begin 47 = .ok (.if_icmp .ge 48, 3) := by decide +kernel
theorem dX5_begin_50 : decode cX5_begin 50 = .ok (.aload_n 0, 1) := by decide +kernel
theorem dX5_begin_51 : decode cX5_begin 51 = .ok (.getfield 21, 3) := by decide +kernel
theorem dX5_begin_54 : decode cX5_begin 54 = .ok (.iload_n 2, 1) := by decide +kernel
theorem dX5_begin_55 : decode cX5_begin 55 = .ok (.aaload, 1) := by decide +kernel
theorem dX5_begin_56 : decode cX5_begin 56 = .ok (.astore_n 3, 1) := by decide +kernel
theorem dX5_begin_57 : decode cX5_begin 57 = .ok (.aload_n 3, 1) := by decide +kernel
theorem dX5_begin_58 : decode cX5_begin 58 = .ok (.getfield 203, 3) := by decide +kernel
theorem dX5_begin_61 : decode cX5_begin 61 = .ok (.ifCond .ne 28, 3) := by decide +kernel
theorem dX5_begin_64 : decode cX5_begin 64 = .ok (.aload_n 3, 1) := by decide +kernel
theorem dX5_begin_65 : decode cX5_begin 65 = .ok (.aload_n 0, 1) := by decide +kernel
theorem dX5_begin_66 : decode cX5_begin 66 = .ok (.aload_n 3, 1) := by decide +kernel
theorem dX5_begin_67 : decode cX5_begin 67 = .ok (.invokevirtual 216, 3) := by decide +kernel
theorem dX5_begin_70 : decode cX5_begin 70 = .ok (.putfield 203, 3) := by decide +kernel
theorem dX5_begin_73 : decode cX5_begin 73 = .ok (.iload_n 1, 1) := by decide +kernel
theorem dX5_begin_74 : decode cX5_begin 74 = .ok (.aload_n 3, 1) := by decide +kernel
theorem dX5_begin_75 : decode cX5_begin 75 = .ok (.getfield 203, 3) := by decide +kernel
theorem dX5_begin_78 : decode cX5_begin 78 = .ok (.iconst 2, 1) := by decide +kernel
theorem dX5_begin_79 : decode cX5_begin 79 = .ok (.if_icmp .ne 7, 3) := by decide +kernel
theorem dX5_begin_82 : decode cX5_begin 82 = .ok (.iconst 1, 1) := by decide +kernel
theorem dX5_begin_83 : decode cX5_begin 83 = .ok (.goto 4, 3) := by decide +kernel
theorem dX5_begin_86 : decode cX5_begin 86 = .ok (.iconst 0, 1) := by decide +kernel
theorem dX5_begin_87 : decode cX5_begin 87 = .ok (.iadd, 1) := by decide +kernel
theorem dX5_begin_88 : decode cX5_begin 88 = .ok (.istore_n 1, 1) := by decide +kernel
theorem dX5_begin_89 : decode cX5_begin 89 = .ok (.iinc 2 1, 3) := by decide +kernel
theorem dX5_begin_92 : decode cX5_begin 92 = .ok (.goto (-50), 3) := by decide +kernel
theorem dX5_begin_95 : decode cX5_begin 95 = .ok (.iload_n 1, 1) := by decide +kernel
theorem dX5_begin_96 : decode cX5_begin 96 = .ok (.ireturn, 1) := by decide +kernel
theorem dX5_year_0 : decode cX5_year 0 = .ok (.aload_n 0, 1) := by decide +kernel
theorem dX5_year_1 : decode cX5_year 1 = .ok (.getfield 44, 3) := by decide +kernel
theorem dX5_year_4 : decode cX5_year 4 = .ok (.ireturn, 1) := by decide +kernel
theorem dX5_overdue_0 : decode cX5_overdue 0 = .ok (.iconst 0, 1) := by decide +kernel
theorem dX5_overdue_1 : decode cX5_overdue 1 = .ok (.istore_n 1, 1) := by decide +kernel
theorem dX5_overdue_2 : decode cX5_overdue 2 = .ok (.iconst 0, 1) := by decide +kernel
theorem dX5_overdue_3 : decode cX5_overdue 3 = .ok (.istore_n 2, 1) := by decide +kernel
theorem dX5_overdue_4 : decode cX5_overdue 4 = .ok (.iload_n 2, 1) := by decide +kernel
theorem dX5_overdue_5 : decode cX5_overdue 5 = .ok (.aload_n 0, 1) := by decide +kernel
theorem dX5_overdue_6 : decode cX5_overdue 6 = .ok (.getfield 146, 3) := by decide +kernel
theorem dX5_overdue_9 : decode cX5_overdue 9 = .ok (.if_icmp .ge 45, 3) := by decide +kernel
theorem dX5_overdue_12 : decode cX5_overdue 12 = .ok (.aload_n 0, 1) := by decide +kernel
theorem dX5_overdue_13 : decode cX5_overdue 13 = .ok (.getfield 21, 3) := by decide +kernel
theorem dX5_overdue_16 : decode cX5_overdue 16 = .ok (.iload_n 2, 1) := by decide +kernel
theorem dX5_overdue_17 : decode cX5_overdue 17 = .ok (.aaload, 1) := by decide +kernel
theorem dX5_overdue_18 : decode cX5_overdue 18 = .ok (.astore_n 3, 1) := by decide +kernel
theorem dX5_overdue_19 : decode cX5_overdue 19 = .ok (.aload_n 3, 1) := by decide +kernel
theorem dX5_overdue_20 : decode cX5_overdue 20 = .ok (.getfield 203, 3) := by decide +kernel
theorem dX5_overdue_23 : decode cX5_overdue 23 = .ok (.ifCond .ne 25, 3) := by decide +kernel
theorem dX5_overdue_26 : decode cX5_overdue 26 = .ok (.aload_n 0, 1) := by decide +kernel
theorem dX5_overdue_27 : decode cX5_overdue 27 = .ok (.getfield 44, 3) := by decide +kernel
theorem dX5_overdue_30 : decode cX5_overdue 30 = .ok (.aload_n 3, 1) := by decide +kernel
theorem dX5_overdue_31 : decode cX5_overdue 31 = .ok (.getfield 176, 3) := by decide +kernel
theorem dX5_overdue_34 : decode cX5_overdue 34 = .ok (.aload_n 3, 1) := by decide +kernel
theorem dX5_overdue_35 : decode cX5_overdue 35 = .ok (.getfield 170, 3) := by decide +kernel
theorem dX5_overdue_38 : decode cX5_overdue 38 = .ok (.getfield 118, 3) := by decide +kernel
theorem dX5_overdue_41 : decode cX5_overdue 41 = .ok (.iadd, 1) := by decide +kernel
theorem dX5_overdue_42 : decode cX5_overdue 42 = .ok (.if_icmp .le 6, 3) := by decide +kernel
theorem dX5_overdue_45 : decode cX5_overdue 45 = .ok (.iinc 1 1, 3) := by decide +kernel
theorem dX5_overdue_48 : decode cX5_overdue 48 = .ok (.iinc 2 1, 3) := by decide +kernel
theorem dX5_overdue_51 : decode cX5_overdue 51 = .ok (.goto (-47), 3) := by decide +kernel
theorem dX5_overdue_54 : decode cX5_overdue 54 = .ok (.iload_n 1, 1) := by decide +kernel
theorem dX5_overdue_55 : decode cX5_overdue 55 = .ok (.ireturn, 1) := by decide +kernel
theorem dX5_promise_0 : decode cX5_promise 0 = .ok (.iload_n 1, 1) := by decide +kernel
theorem dX5_promise_1 : decode cX5_promise 1 = .ok (.invokestatic 40, 3) := by decide +kernel
theorem dX5_promise_4 : decode cX5_promise 4 = .ok (.aload_n 0, 1) := by decide +kernel
theorem dX5_promise_5 : decode cX5_promise 5 = .ok (.iload_n 2, 1) := by decide +kernel
theorem dX5_promise_6 : decode cX5_promise 6 = .ok (.invokevirtual 108, 3) := by decide +kernel
theorem dX5_promise_9 : decode cX5_promise 9 = .ok (.astore_n 3, 1) := by decide +kernel
theorem dX5_promise_10 : decode cX5_promise 10 = .ok (.aload_n 0, 1) := by decide +kernel
theorem dX5_promise_11 : decode cX5_promise 11 = .ok (.iload_n 1, 1) := by decide +kernel
theorem dX5_promise_12 : decode cX5_promise 12 = .ok (.invokevirtual 219, 3) := by decide +kernel
theorem dX5_promise_15 : decode cX5_promise 15 = .ok (.ifCond .ne 5, 3) := by decide +kernel
theorem dX5_promise_18 : decode cX5_promise 18 = .ok (.iconst 0, 1) := by decide +kernel
theorem dX5_promise_19 : decode cX5_promise 19 = .ok (.ireturn, 1) := by decide +kernel
theorem dX5_promise_20 : decode cX5_promise 20 = .ok (.aload_n 0, 1) := by decide +kernel
theorem dX5_promise_21 : decode cX5_promise 21 = .ok (.getfield 28, 3) := by decide +kernel
theorem dX5_promise_24 : decode cX5_promise 24 = .ok (.iload_n 1, 1) := by decide +kernel
theorem dX5_promise_25 : decode cX5_promise 25 = .ok (.invokevirtual 121, 3) := by decide +kernel
theorem dX5_promise_28 : decode cX5_promise 28 = .ok (.astore 4, 2) := by decide +kernel
theorem dX5_promise_30 : decode cX5_promise 30 = .ok (.iconst 0, 1) := by decide +kernel
theorem dX5_promise_31 : decode cX5_promise 31 = .ok (.istore 5, 2) := by decide +kernel
theorem dX5_promise_33 : decode cX5_promise 33 = .ok (.iconst 0, 1) := by decide +kernel
theorem dX5_promise_34 : decode cX5_promise 34 = .ok (.istore 6, 2) := by decide +kernel
theorem dX5_promise_36 : decode cX5_promise 36 = .ok (.iload 6, 2) := by decide +kernel
theorem dX5_promise_38 : decode cX5_promise 38 = .ok (.bipush 10, 2) := by decide +kernel
theorem dX5_promise_40 : decode cX5_promise 40 = .ok (.if_icmp .ge 49, 3) := by decide +kernel
theorem dX5_promise_43 : decode cX5_promise 43 = .ok (.aload 4, 2) := by decide +kernel
theorem dX5_promise_45 : decode cX5_promise 45 = .ok (.getfield 125, 3) := by decide +kernel
theorem dX5_promise_48 : decode cX5_promise 48 = .ok (.iload 6, 2) := by decide +kernel
theorem dX5_promise_50 : decode cX5_promise 50 = .ok (.iaload, 1) := by decide +kernel
theorem dX5_promise_51 : decode cX5_promise 51 = .ok (.iconst (-1), 1) := by decide +kernel
theorem dX5_promise_52 : decode cX5_promise 52 = .ok (.if_icmp .eq 31, 3) := by decide +kernel
theorem dX5_promise_55 : decode cX5_promise 55 = .ok (.aload 4, 2) := by decide +kernel
theorem dX5_promise_57 : decode cX5_promise 57 = .ok (.getfield 125, 3) := by decide +kernel
theorem dX5_promise_60 : decode cX5_promise 60 = .ok (.iload 6, 2) := by decide +kernel
theorem dX5_promise_62 : decode cX5_promise 62 = .ok (.iaload, 1) := by decide +kernel
theorem dX5_promise_63 : decode cX5_promise 63 = .ok (.aload_n 3, 1) := by decide +kernel
theorem dX5_promise_64 : decode cX5_promise 64 = .ok (.getfield 115, 3) := by decide +kernel
theorem dX5_promise_67 : decode cX5_promise 67 = .ok (.if_icmp .lt 16, 3) := by decide +kernel
theorem dX5_promise_70 : decode cX5_promise 70 = .ok (.iload 5, 2) := by decide +kernel
theorem dX5_promise_72 : decode cX5_promise 72 = .ok (.aload_n 0, 1) := by decide +kernel
theorem dX5_promise_73 : decode cX5_promise 73 = .ok (.iload 6, 2) := by decide +kernel
theorem dX5_promise_75 : decode cX5_promise 75 = .ok (.invokevirtual 223, 3) := by decide +kernel
theorem dX5_promise_78 : decode cX5_promise 78 = .ok (.invokestatic 227, 3) := by decide +kernel
theorem dX5_promise_81 : decode cX5_promise 81 = .ok (.istore 5, 2) := by decide +kernel
theorem dX5_promise_83 : decode cX5_promise 83 = .ok (.iinc 6 1, 3) := by decide +kernel
theorem dX5_promise_86 : decode cX5_promise 86 = .ok (.goto (-50), 3) := by decide +kernel
theorem dX5_promise_89 : decode cX5_promise 89 = .ok (.iload 5, 2) := by decide +kernel
theorem dX5_promise_91 : decode cX5_promise 91 = .ok (.ireturn, 1) := by decide +kernel
theorem dX5_requireFormat_0 : decode cX5_requireFormat 0 = .ok (.iload_n 0, 1) := by decide +kernel
theorem dX5_requireFormat_1 : decode cX5_requireFormat 1 = .ok (.ifCond .lt 9, 3) := by decide +kernel
theorem dX5_requireFormat_4 : decode cX5_requireFormat 4 = .ok (.iload_n 0, 1) := by decide +kernel
theorem dX5_requireFormat_5 : decode cX5_requireFormat 5 = .ok (.bipush 10, 2) := by decide +kernel
theorem dX5_requireFormat_7 : decode cX5_requireFormat 7 = .ok (.if_icmp .lt 13, 3) := by decide +kernel
theorem dX5_requireFormat_10 : decode cX5_requireFormat 10 = .ok (.new 78, 3) := by decide +kernel
theorem dX5_requireFormat_13 : decode cX5_requireFormat 13 = .ok (.dup, 1) := by decide +kernel
theorem dX5_requireFormat_14 : decode cX5_requireFormat 14 = .ok (.ldc 232, 2) := by decide +kernel
theorem dX5_requireFormat_16 : decode cX5_requireFormat 16 = .ok (.invokespecial 82, 3) := by decide +kernel
theorem dX5_requireFormat_19 : decode cX5_requireFormat 19 = .ok (.athrow, 1) := by decide +kernel
theorem dX5_requireFormat_20 : decode cX5_requireFormat 20 = .ok (.return_, 1) := by decide +kernel
theorem dX5_requireRange_0 : decode cX5_requireRange 0 = .ok (.iload_n 0, 1) := by decide +kernel
theorem dX5_requireRange_1 : decode cX5_requireRange 1 = .ok (.iload_n 1, 1) := by decide +kernel
theorem dX5_requireRange_2 : decode cX5_requireRange 2 = .ok (.if_icmp .lt 8, 3) := by decide +kernel
theorem dX5_requireRange_5 : decode cX5_requireRange 5 = .ok (.iload_n 0, 1) := by decide +kernel
theorem dX5_requireRange_6 : decode cX5_requireRange 6 = .ok (.iload_n 2, 1) := by decide +kernel
theorem dX5_requireRange_7 : decode cX5_requireRange 7 = .ok (.if_icmp .le 13, 3) := by decide +kernel
theorem dX5_requireRange_10 : decode cX5_requireRange 10 = .ok (.new 54, 3) := by decide +kernel
theorem dX5_requireRange_13 : decode cX5_requireRange 13 = .ok (.dup, 1) := by decide +kernel
theorem dX5_requireRange_14 : decode cX5_requireRange 14 = .ok (.ldc 234, 2) := by decide +kernel
theorem dX5_requireRange_16 : decode cX5_requireRange 16 = .ok (.invokespecial 58, 3) := by decide +kernel
theorem dX5_requireRange_19 : decode cX5_requireRange 19 = .ok (.athrow, 1) := by decide +kernel
theorem dX5_requireRange_20 : decode cX5_requireRange 20 = .ok (.return_, 1) := by decide +kernel
theorem dX5_requireKept_0 : decode cX5_requireKept 0 = .ok (.aload_n 0, 1) := by decide +kernel
theorem dX5_requireKept_1 : decode cX5_requireKept 1 = .ok (.getfield 203, 3) := by decide +kernel
theorem dX5_requireKept_4 : decode cX5_requireKept 4 = .ok (.ifCond .eq 13, 3) := by decide +kernel
theorem dX5_requireKept_7 : decode cX5_requireKept 7 = .ok (.new 64, 3) := by decide +kernel
theorem dX5_requireKept_10 : decode cX5_requireKept 10 = .ok (.dup, 1) := by decide +kernel
theorem dX5_requireKept_11 : decode cX5_requireKept 11 = .ok (.ldc 236, 2) := by decide +kernel
theorem dX5_requireKept_13 : decode cX5_requireKept 13 = .ok (.invokespecial 68, 3) := by decide +kernel
theorem dX5_requireKept_16 : decode cX5_requireKept 16 = .ok (.athrow, 1) := by decide +kernel
theorem dX5_requireKept_17 : decode cX5_requireKept 17 = .ok (.return_, 1) := by decide +kernel
theorem dX5_requireReadable_0 : decode cX5_requireReadable 0 = .ok (.aload_n 0, 1) := by decide +kernel
theorem dX5_requireReadable_1 : decode cX5_requireReadable 1 = .ok (.iload_n 1, 1) := by decide +kernel
theorem dX5_requireReadable_2 : decode cX5_requireReadable 2 = .ok (.invokevirtual 219, 3) := by decide +kernel
theorem dX5_requireReadable_5 : decode cX5_requireReadable 5 = .ok (.ifCond .ne 13, 3) := by decide +kernel
theorem dX5_requireReadable_8 : decode cX5_requireReadable 8 = .ok (.new 64, 3) := by decide +kernel
theorem dX5_requireReadable_11 : decode cX5_requireReadable 11 = .ok (.dup, 1) := by decide +kernel
theorem dX5_requireReadable_12 : decode cX5_requireReadable 12 = .ok (.ldc 238, 2) := by decide +kernel
theorem dX5_requireReadable_14 : decode cX5_requireReadable 14 = .ok (.invokespecial 68, 3) := by decide +kernel
theorem dX5_requireReadable_17 : decode cX5_requireReadable 17 = .ok (.athrow, 1) := by decide +kernel
theorem dX5_requireReadable_18 : decode cX5_requireReadable 18 = .ok (.return_, 1) := by decide +kernel
theorem dX5_lawAt_0 : decode cX5_lawAt 0 = .ok (.iload_n 1, 1) := by decide +kernel
theorem dX5_lawAt_1 : decode cX5_lawAt 1 = .ok (.ifCond .lt 8, 3) := by decide +kernel
theorem dX5_lawAt_4 : decode cX5_lawAt 4 = .ok (.iload_n 1, 1) := by decide +kernel
theorem dX5_lawAt_5 : decode cX5_lawAt 5 = .ok (.iconst 5, 1) := by decide +kernel
theorem dX5_lawAt_6 : decode cX5_lawAt 6 = .ok (.if_icmp .lt 13, 3) := by decide +kernel
theorem dX5_lawAt_9 : decode cX5_lawAt 9 = .ok (.new 78, 3) := by decide +kernel
theorem dX5_lawAt_12 : decode cX5_lawAt 12 = .ok (.dup, 1) := by decide +kernel
theorem dX5_lawAt_13 : decode cX5_lawAt 13 = .ok (.ldc 240, 2) := by decide +kernel
theorem dX5_lawAt_15 : decode cX5_lawAt 15 = .ok (.invokespecial 82, 3) := by decide +kernel
theorem dX5_lawAt_18 : decode cX5_lawAt 18 = .ok (.athrow, 1) := by decide +kernel
theorem dX5_lawAt_19 : decode cX5_lawAt 19 = .ok (.aload_n 0, 1) := by decide +kernel
theorem dX5_lawAt_20 : decode cX5_lawAt 20 = .ok (.getfield 15, 3) := by decide +kernel
theorem dX5_lawAt_23 : decode cX5_lawAt 23 = .ok (.iload_n 1, 1) := by decide +kernel
theorem dX5_lawAt_24 : decode cX5_lawAt 24 = .ok (.aaload, 1) := by decide +kernel
theorem dX5_lawAt_25 : decode cX5_lawAt 25 = .ok (.areturn, 1) := by decide +kernel
theorem dX5_fileAt_0 : decode cX5_fileAt 0 = .ok (.iload_n 1, 1) := by decide +kernel
theorem dX5_fileAt_1 : decode cX5_fileAt 1 = .ok (.ifCond .lt 11, 3) := by decide +kernel
theorem dX5_fileAt_4 : decode cX5_fileAt 4 = .ok (.iload_n 1, 1) := by decide +kernel
theorem dX5_fileAt_5 : decode cX5_fileAt 5 = .ok (.aload_n 0, 1) := by decide +kernel
theorem dX5_fileAt_6 : decode cX5_fileAt 6 = .ok (.getfield 146, 3) := by decide +kernel
theorem dX5_fileAt_9 : decode cX5_fileAt 9 = .ok (.if_icmp .lt 13, 3) := by decide +kernel
theorem dX5_fileAt_12 : decode cX5_fileAt 12 = .ok (.new 78, 3) := by decide +kernel
theorem dX5_fileAt_15 : decode cX5_fileAt 15 = .ok (.dup, 1) := by decide +kernel
theorem dX5_fileAt_16 : decode cX5_fileAt 16 = .ok (.ldc 242, 2) := by decide +kernel
theorem dX5_fileAt_18 : decode cX5_fileAt 18 = .ok (.invokespecial 82, 3) := by decide +kernel
theorem dX5_fileAt_21 : decode cX5_fileAt 21 = .ok (.athrow, 1) := by decide +kernel
theorem dX5_fileAt_22 : decode cX5_fileAt 22 = .ok (.aload_n 0, 1) := by decide +kernel
theorem dX5_fileAt_23 : decode cX5_fileAt 23 = .ok (.getfield 21, 3) := by decide +kernel
theorem dX5_fileAt_26 : decode cX5_fileAt 26 = .ok (.iload_n 1, 1) := by decide +kernel
theorem dX5_fileAt_27 : decode cX5_fileAt 27 = .ok (.aaload, 1) := by decide +kernel
theorem dX5_fileAt_28 : decode cX5_fileAt 28 = .ok (.areturn, 1) := by decide +kernel
theorem dX5_isReadable_0 : decode cX5_isReadable 0 = .ok (.aload_n 0, 1) := by decide +kernel
theorem dX5_isReadable_1 : decode cX5_isReadable 1 = .ok (.getfield 9, 3) := by decide +kernel
theorem dX5_isReadable_4 : decode cX5_isReadable 4 = .ok (.iload_n 1, 1) := by decide +kernel
theorem dX5_isReadable_5 : decode cX5_isReadable 5 = .ok (.iaload, 1) := by decide +kernel
theorem dX5_isReadable_6 : decode cX5_isReadable 6 = .ok (.iconst (-1), 1) := by decide +kernel
theorem dX5_isReadable_7 : decode cX5_isReadable 7 = .ok (.if_icmp .eq 16, 3) := by decide +kernel
theorem dX5_isReadable_10 : decode cX5_isReadable 10 = .ok (.aload_n 0, 1) := by decide +kernel
theorem dX5_isReadable_11 : decode cX5_isReadable 11 = .ok (.getfield 9, 3) := by decide +kernel
theorem dX5_isReadable_14 : decode cX5_isReadable 14 = .ok (.iload_n 1, 1) := by decide +kernel
theorem dX5_isReadable_15 : decode cX5_isReadable 15 = .ok (.iaload, 1) := by decide +kernel
theorem dX5_isReadable_16 : decode cX5_isReadable 16 = .ok (.aload_n 0, 1) := by decide +kernel
theorem dX5_isReadable_17 : decode cX5_isReadable 17 = .ok (.getfield 44, 3) := by decide +kernel
theorem dX5_isReadable_20 : decode cX5_isReadable 20 = .ok (.if_icmp .lt 7, 3) := by decide +kernel
theorem dX5_isReadable_23 : decode cX5_isReadable 23 = .ok (.iconst 1, 1) := by decide +kernel
theorem dX5_isReadable_24 : decode cX5_isReadable 24 = .ok (.goto 4, 3) := by decide +kernel
theorem dX5_isReadable_27 : decode cX5_isReadable 27 = .ok (.iconst 0, 1) := by decide +kernel
theorem dX5_isReadable_28 : decode cX5_isReadable 28 = .ok (.ireturn, 1) := by decide +kernel
theorem dX5_yearsToPromiseIn_0 : decode cX5_yearsToPromiseIn 0 = .ok (.aload_n 0, 1) := by decide +kernel
theorem dX5_yearsToPromiseIn_1 : decode cX5_yearsToPromiseIn 1 = .ok (.getfield 9, 3) := by decide +kernel
theorem dX5_yearsToPromiseIn_4 : decode cX5_yearsToPromiseIn 4 = .ok (.iload_n 1, 1) := by decide +kernel
theorem dX5_yearsToPromiseIn_5 : decode cX5_yearsToPromiseIn 5 = .ok (.iaload, 1) := by decide +kernel
theorem dX5_yearsToPromiseIn_6 : decode cX5_yearsToPromiseIn 6 = .ok (.iconst (-1), 1) := by decide +kernel
theorem dX5_yearsToPromiseIn_7 : decode cX5_yearsToPromiseIn 7 = .ok (.if_icmp .ne 8, 3) := by decide +kernel
theorem dX5_yearsToPromiseIn_10 : decode cX5_yearsToPromiseIn 10 = .ok (.bipush 100, 2) := by decide +kernel
theorem dX5_yearsToPromiseIn_12 : decode cX5_yearsToPromiseIn 12 = .ok (.goto 19, 3) := by decide +kernel
theorem dX5_yearsToPromiseIn_15 : decode cX5_yearsToPromiseIn 15 = .ok (.bipush 100, 2) := by decide +kernel
theorem dX5_yearsToPromiseIn_17 : decode cX5_yearsToPromiseIn 17 = .ok (.aload_n 0, 1) := by decide +kernel
theorem dX5_yearsToPromiseIn_18 : decode cX5_yearsToPromiseIn 18 = .ok (.getfield 9, 3) := by decide +kernel
theorem dX5_yearsToPromiseIn_21 : decode cX5_yearsToPromiseIn 21 = .ok (.iload_n 1, 1) := by decide +kernel
theorem dX5_yearsToPromiseIn_22 : decode cX5_yearsToPromiseIn 22 = .ok (.iaload, 1) := by decide +kernel
theorem dX5_yearsToPromiseIn_23 : decode cX5_yearsToPromiseIn 23 = .ok (.aload_n 0, 1) := by decide +kernel
theorem dX5_yearsToPromiseIn_24 : decode cX5_yearsToPromiseIn 24 = .ok (.getfield 44, 3) := by decide +kernel
theorem dX5_yearsToPromiseIn_27 : decode cX5_yearsToPromiseIn 27 = .ok (.isub, 1) := by decide +kernel
theorem dX5_yearsToPromiseIn_28 : decode cX5_yearsToPromiseIn 28 = .ok (.invokestatic 244, 3) := by decide +kernel
theorem dX5_yearsToPromiseIn_31 : decode cX5_yearsToPromiseIn 31 = .ok (.ireturn, 1) := by decide +kernel
theorem dX5_stateInNewYear_0 : decode cX5_stateInNewYear 0 = .ok (.aload_n 0, 1) := by decide +kernel
theorem dX5_stateInNewYear_1 : decode cX5_stateInNewYear 1 = .ok (.getfield 44, 3) := by decide +kernel
theorem dX5_stateInNewYear_4 : decode cX5_stateInNewYear 4 = .ok (.aload_n 1, 1) := by decide +kernel
theorem dX5_stateInNewYear_5 : decode cX5_stateInNewYear 5 = .ok (.getfield 210, 3) := by decide +kernel
theorem dX5_stateInNewYear_8 : decode cX5_stateInNewYear 8 = .ok (.if_icmp .le 12, 3) := by decide +kernel
theorem dX5_stateInNewYear_11 : decode cX5_stateInNewYear 11 = .ok (.aload_n 1, 1) := by decide +kernel
theorem dX5_stateInNewYear_12 : decode cX5_stateInNewYear 12 = .ok (.getfield 162, 3) := by decide +kernel
theorem dX5_stateInNewYear_15 : decode cX5_stateInNewYear 15 = .ok (.ifCond .ne 5, 3) := by decide +kernel
theorem dX5_stateInNewYear_18 : decode cX5_stateInNewYear 18 = .ok (.iconst 1, 1) := by decide +kernel
theorem dX5_stateInNewYear_19 : decode cX5_stateInNewYear 19 = .ok (.ireturn, 1) := by decide +kernel
theorem dX5_stateInNewYear_20 : decode cX5_stateInNewYear 20 = .ok (.aload_n 0, 1) := by decide +kernel
theorem dX5_stateInNewYear_21 : decode cX5_stateInNewYear 21 = .ok (.aload_n 1, 1) := by decide +kernel
theorem dX5_stateInNewYear_22 : decode cX5_stateInNewYear 22 = .ok (.getfield 165, 3) := by decide +kernel
theorem dX5_stateInNewYear_25 : decode cX5_stateInNewYear 25 = .ok (.invokevirtual 219, 3) := by decide +kernel
theorem dX5_stateInNewYear_28 : decode cX5_stateInNewYear 28 = .ok (.ifCond .eq 7, 3) := by decide +kernel
theorem dX5_stateInNewYear_31 : decode cX5_stateInNewYear 31 = .ok (.iconst 0, 1) := by decide +kernel
theorem dX5_stateInNewYear_32 : decode cX5_stateInNewYear 32 = .ok (.goto 4, 3) := by decide +kernel
theorem dX5_stateInNewYear_35 : decode cX5_stateInNewYear 35 = .ok (.iconst 2, 1) := by decide +kernel
theorem dX5_stateInNewYear_36 : decode cX5_stateInNewYear 36 = .ok (.ireturn, 1) := by decide +kernel
theorem dX5_isSafeIn_0 : decode cX5_isSafeIn 0 = .ok (.aload_n 0, 1) := by decide +kernel
theorem dX5_isSafeIn_1 : decode cX5_isSafeIn 1 = .ok (.getfield 9, 3) := by decide +kernel
theorem dX5_isSafeIn_4 : decode cX5_isSafeIn 4 = .ok (.iload_n 2, 1) := by decide +kernel
theorem dX5_isSafeIn_5 : decode cX5_isSafeIn 5 = .ok (.iaload, 1) := by decide +kernel
theorem dX5_isSafeIn_6 : decode cX5_isSafeIn 6 = .ok (.istore_n 3, 1) := by decide +kernel
theorem dX5_isSafeIn_7 : decode cX5_isSafeIn 7 = .ok (.iload_n 3, 1) := by decide +kernel
theorem dX5_isSafeIn_8 : decode cX5_isSafeIn 8 = .ok (.iconst (-1), 1) := by decide +kernel
theorem dX5_isSafeIn_9 : decode cX5_isSafeIn 9 = .ok (.if_icmp .eq 18, 3) := by decide +kernel
theorem dX5_isSafeIn_12 : decode cX5_isSafeIn 12 = .ok (.aload_n 1, 1) := by decide +kernel
theorem dX5_isSafeIn_13 : decode cX5_isSafeIn 13 = .ok (.getfield 162, 3) := by decide +kernel
theorem dX5_isSafeIn_16 : decode cX5_isSafeIn 16 = .ok (.ifCond .ne 15, 3) := by decide +kernel
theorem dX5_isSafeIn_19 : decode cX5_isSafeIn 19 = .ok (.iload_n 3, 1) := by decide +kernel
theorem dX5_isSafeIn_20 : decode cX5_isSafeIn 20 = .ok (.aload_n 1, 1) := by decide +kernel
theorem dX5_isSafeIn_21 : decode cX5_isSafeIn 21 = .ok (.getfield 210, 3) := by decide +kernel
theorem dX5_isSafeIn_24 : decode cX5_isSafeIn 24 = .ok (.if_icmp .lt 7, 3) := by decide +kernel
theorem dX5_isSafeIn_27 : decode cX5_isSafeIn 27 = .ok (.iconst 1, 1) := by decide +kernel
theorem dX5_isSafeIn_28 : decode cX5_isSafeIn 28 = .ok (.goto 4, 3) := by decide +kernel
theorem dX5_isSafeIn_31 : decode cX5_isSafeIn 31 = .ok (.iconst 0, 1) := by decide +kernel
theorem dX5_isSafeIn_32 : decode cX5_isSafeIn 32 = .ok (.ireturn, 1) := by decide +kernel
theorem dX5_findHaven_0 : decode cX5_findHaven 0 = .ok (.aload_n 1, 1) := by decide +kernel
theorem dX5_findHaven_1 : decode cX5_findHaven 1 = .ok (.getfield 203, 3) := by decide +kernel
theorem dX5_findHaven_4 : decode cX5_findHaven 4 = .ok (.ifCond .eq 5, 3) := by decide +kernel
theorem dX5_findHaven_7 : decode cX5_findHaven 7 = .ok (.iconst (-1), 1) := by decide +kernel
theorem dX5_findHaven_8 : decode cX5_findHaven 8 = .ok (.ireturn, 1) := by decide +kernel
theorem dX5_findHaven_9 : decode cX5_findHaven 9 = .ok (.aload_n 0, 1) := by decide +kernel
theorem dX5_findHaven_10 : decode cX5_findHaven 10 = .ok (.getfield 28, 3) := by decide +kernel
theorem dX5_findHaven_13 : decode cX5_findHaven 13 = .ok (.aload_n 1, 1) := by decide +kernel
theorem dX5_findHaven_14 : decode cX5_findHaven 14 = .ok (.getfield 165, 3) := by decide +kernel
theorem dX5_findHaven_17 : decode cX5_findHaven 17 = .ok (.invokevirtual 121, 3) := by decide +kernel
theorem dX5_findHaven_20 : decode cX5_findHaven 20 = .ok (.astore_n 2, 1) := by decide +kernel
theorem dX5_findHaven_21 : decode cX5_findHaven 21 = .ok (.iconst (-1), 1) := by decide +kernel
theorem dX5_findHaven_22 : decode cX5_findHaven 22 = .ok (.istore_n 3, 1) := by decide +kernel
theorem dX5_findHaven_23 : decode cX5_findHaven 23 = .ok (.iconst (-1), 1) := by decide +kernel
theorem dX5_findHaven_24 : decode cX5_findHaven 24 = .ok (.istore 4, 2) := by decide +kernel
theorem dX5_findHaven_26 : decode cX5_findHaven 26 = .ok (.iconst (-1), 1) := by decide +kernel
theorem dX5_findHaven_27 : decode cX5_findHaven 27 = .ok (.istore 5, 2) := by decide +kernel
theorem dX5_findHaven_29 : decode cX5_findHaven 29 = .ok (.iconst 0, 1) := by decide +kernel
theorem dX5_findHaven_30 : decode cX5_findHaven 30 = .ok (.istore 6, 2) := by decide +kernel
theorem dX5_findHaven_32 : decode cX5_findHaven 32 = .ok (.iload 6, 2) := by decide +kernel
theorem dX5_findHaven_34 : decode cX5_findHaven 34 = .ok (.bipush 10, 2) := by decide +kernel
theorem dX5_findHaven_36 : decode cX5_findHaven 36 = .ok (.if_icmp .ge 114, 3) := by decide +kernel
theorem dX5_findHaven_39 : decode cX5_findHaven 39 = .ok (.aload_n 2, 1) := by decide +kernel
theorem dX5_findHaven_40 : decode cX5_findHaven 40 = .ok (.getfield 125, 3) := by decide +kernel
theorem dX5_findHaven_43 : decode cX5_findHaven 43 = .ok (.iload 6, 2) := by decide +kernel
theorem dX5_findHaven_45 : decode cX5_findHaven 45 = .ok (.iaload, 1) := by decide +kernel
theorem dX5_findHaven_46 : decode cX5_findHaven 46 = .ok (.iconst (-1), 1) := by decide +kernel
theorem dX5_findHaven_47 : decode cX5_findHaven 47 = .ok (.if_icmp .eq 97, 3) := by decide +kernel
theorem dX5_findHaven_50 : decode cX5_findHaven 50 = .ok (.aload_n 0, 1) := by decide +kernel
theorem dX5_findHaven_51 : decode cX5_findHaven 51 = .ok (.aload_n 1, 1) := by decide +kernel
theorem dX5_findHaven_52 : decode cX5_findHaven 52 = .ok (.iload 6, 2) := by decide +kernel
theorem dX5_findHaven_54 : decode cX5_findHaven 54 = .ok (.invokevirtual 206, 3) := by decide +kernel
theorem dX5_findHaven_57 : decode cX5_findHaven 57 = .ok (.ifCond .ne 6, 3) := by decide +kernel
theorem dX5_findHaven_60 : decode cX5_findHaven 60 = .ok (.goto 84, 3) := by decide +kernel
theorem dX5_findHaven_63 : decode cX5_findHaven 63 = .ok (.aload_n 0, 1) := by decide +kernel
theorem dX5_findHaven_64 : decode cX5_findHaven 64 = .ok (.getfield 28, 3) := by decide +kernel
theorem dX5_findHaven_67 : decode cX5_findHaven 67 = .ok (.aload_n 2, 1) := by decide +kernel
theorem dX5_findHaven_68 : decode cX5_findHaven 68 = .ok (.iload 6, 2) := by decide +kernel
theorem dX5_findHaven_70 : decode cX5_findHaven 70 = .ok (.aload_n 1, 1) := by decide +kernel
theorem dX5_findHaven_71 : decode cX5_findHaven 71 = .ok (.getfield 168, 3) := by decide +kernel
theorem dX5_findHaven_74 : decode cX5_findHaven 74 = .ok (.invokevirtual 247, 3) := by decide +kernel
theorem dX5_findHaven_77 : decode cX5_findHaven 77 = .ok (.istore 7, 2) := by decide +kernel
theorem dX5_findHaven_79 : decode cX5_findHaven 79 = .ok (.aload_n 2, 1) := by decide +kernel
theorem dX5_findHaven_80 : decode cX5_findHaven 80 = .ok (.getfield 134, 3) := by decide +kernel
theorem dX5_findHaven_83 : decode cX5_findHaven 83 = .ok (.iload 6, 2) := by decide +kernel
theorem dX5_findHaven_85 : decode cX5_findHaven 85 = .ok (.iaload, 1) := by decide +kernel
theorem dX5_findHaven_86 : decode cX5_findHaven 86 = .ok (.istore 8, 2) := by decide +kernel
theorem dX5_findHaven_88 : decode cX5_findHaven 88 = .ok (.iload 7, 2) := by decide +kernel
theorem dX5_findHaven_90 : decode cX5_findHaven 90 = .ok (.iload 4, 2) := by decide +kernel
theorem dX5_findHaven_92 : decode cX5_findHaven 92 = .ok (.if_icmp .gt 17, 3) := by decide +kernel
theorem dX5_findHaven_95 : decode cX5_findHaven 95 = .ok (.iload 7, 2) := by decide +kernel
theorem dX5_findHaven_97 : decode cX5_findHaven 97 = .ok (.iload 4, 2) := by decide +kernel
theorem dX5_findHaven_99 : decode cX5_findHaven 99 = .ok (.if_icmp .ne 14, 3) := by decide +kernel
theorem dX5_findHaven_102 : decode cX5_findHaven 102 = .ok (.iload 8, 2) := by decide +kernel
theorem dX5_findHaven_104 : decode cX5_findHaven 104 = .ok (.iload 5, 2) := by decide +kernel
theorem dX5_findHaven_106 : decode cX5_findHaven 106 = .ok (.if_icmp .ge 7, 3) := by decide +kernel
theorem dX5_findHaven_109 : decode cX5_findHaven 109 = .ok (.iconst 1, 1) := by decide +kernel
theorem dX5_findHaven_110 : decode cX5_findHaven 110 = .ok (.goto 4, 3) := by decide +kernel
theorem dX5_findHaven_113 : decode cX5_findHaven 113 = .ok (.iconst 0, 1) := by decide +kernel
theorem dX5_findHaven_114 : decode cX5_findHaven 114 = .ok (.istore 9, 2) := by decide +kernel
theorem dX5_findHaven_116 : decode cX5_findHaven 116 = .ok (.iload 7, 2) := by decide +kernel
theorem dX5_findHaven_118 : decode cX5_findHaven 118 = .ok (.aload_n 1, 1) := by decide +kernel
theorem dX5_findHaven_119 : decode cX5_findHaven 119 = .ok (.getfield 170, 3) := by decide +kernel
theorem dX5_findHaven_122 : decode cX5_findHaven 122 = .ok (.getfield 115, 3) := by decide +kernel
theorem dX5_findHaven_125 : decode cX5_findHaven 125 = .ok (.if_icmp .lt 19, 3) := by decide +kernel
theorem dX5_findHaven_128 : decode cX5_findHaven 128 = .ok (.iload 9, 2) := by decide +kernel
theorem dX5_findHaven_130 : decode cX5_findHaven 130 = .ok (.ifCond .eq 14, 3) := by decide +kernel
theorem dX5_findHaven_133 : decode cX5_findHaven 133 = .ok (.iload 6, 2) := by decide +kernel
theorem dX5_findHaven_135 : decode cX5_findHaven 135 = .ok (.istore_n 3, 1) := by decide +kernel
theorem dX5_findHaven_136 : decode cX5_findHaven 136 = .ok (.iload 7, 2) := by decide +kernel
theorem dX5_findHaven_138 : decode cX5_findHaven 138 = .ok (.istore 4, 2) := by decide +kernel
theorem dX5_findHaven_140 : decode cX5_findHaven 140 = .ok (.iload 8, 2) := by decide +kernel
theorem dX5_findHaven_142 : decode cX5_findHaven 142 = .ok (.istore 5, 2) := by decide +kernel
theorem dX5_findHaven_144 : decode cX5_findHaven 144 = .ok (.iinc 6 1, 3) := by decide +kernel
theorem dX5_findHaven_147 : decode cX5_findHaven 147 = .ok (.goto (-115), 3) := by decide +kernel
theorem dX5_findHaven_150 : decode cX5_findHaven 150 = .ok (.iload_n 3, 1) := by decide +kernel
theorem dX5_findHaven_151 : decode cX5_findHaven 151 = .ok (.ireturn, 1) := by decide +kernel
theorem dX5_filesWithHaven_0 : decode cX5_filesWithHaven 0 = .ok (.lconst 0, 1) := by decide +kernel
theorem dX5_filesWithHaven_1 : decode cX5_filesWithHaven 1 = .ok (.lstore_n 1, 1) := by decide +kernel
theorem dX5_filesWithHaven_2 : decode cX5_filesWithHaven 2 = .ok (.iconst 0, 1) := by decide +kernel
theorem dX5_filesWithHaven_3 : decode cX5_filesWithHaven 3 = .ok (.istore_n 3, 1) := by decide +kernel
theorem dX5_filesWithHaven_4 : decode cX5_filesWithHaven 4 = .ok (.iload_n 3, 1) := by decide +kernel
theorem dX5_filesWithHaven_5 : decode cX5_filesWithHaven 5 = .ok (.aload_n 0, 1) := by decide +kernel
theorem dX5_filesWithHaven_6 : decode cX5_filesWithHaven 6 = .ok (.getfield 146, 3) := by decide +kernel
theorem dX5_filesWithHaven_9 : decode cX5_filesWithHaven 9 = .ok (.if_icmp .ge 29, 3) := by decide +kernel
theorem dX5_filesWithHaven_12 : decode cX5_filesWithHaven 12 = .ok (.aload_n 0, 1) := by decide +kernel
theorem dX5_filesWithHaven_13 : decode cX5_filesWithHaven 13 = .ok (.aload_n 0, 1) := by decide +kernel
theorem dX5_filesWithHaven_14 : decode cX5_filesWithHaven 14 = .ok (.getfield 21, 3) := by decide +kernel
theorem dX5_filesWithHaven_17 : decode cX5_filesWithHaven 17 = .ok (.iload_n 3, 1) := by decide +kernel
theorem dX5_filesWithHaven_18 : decode cX5_filesWithHaven 18 = .ok (.aaload, 1) := by decide +kernel
theorem dX5_filesWithHaven_19 : decode cX5_filesWithHaven 19 = .ok (.invokevirtual 199, 3) := by decide +kernel
theorem dX5_filesWithHaven_22 : decode cX5_filesWithHaven 22 = .ok (.iconst (-1), 1) := by decide +kernel
theorem dX5_filesWithHaven_23 : decode cX5_filesWithHaven 23 = .ok (.if_icmp .eq 9, 3) := by decide +kernel
theorem dX5_filesWithHaven_26 : decode cX5_filesWithHaven 26 = .ok (.lload_n 1, 1) := by decide +kernel
theorem dX5_filesWithHaven_27 : decode cX5_filesWithHaven 27 = .ok (.lconst 1, 1) := by decide +kernel
theorem dX5_filesWithHaven_28 : decode cX5_filesWithHaven 28 = .ok (.iload_n 3, 1) := by decide +kernel
theorem dX5_filesWithHaven_29 : decode cX5_filesWithHaven 29 = .ok (.lshl, 1) := by decide +kernel
theorem dX5_filesWithHaven_30 : decode cX5_filesWithHaven 30 = .ok (.lor, 1) := by decide +kernel
theorem dX5_filesWithHaven_31 : decode cX5_filesWithHaven 31 = .ok (.lstore_n 1, 1) := by decide +kernel
theorem dX5_filesWithHaven_32 : decode cX5_filesWithHaven 32 = .ok (.iinc 3 1, 3) := by decide +kernel
theorem dX5_filesWithHaven_35 : decode cX5_filesWithHaven 35 = .ok (.goto (-31), 3) := by decide +kernel
theorem dX5_filesWithHaven_38 : decode cX5_filesWithHaven 38 = .ok (.lload_n 1, 1) := by decide +kernel
theorem dX5_filesWithHaven_39 : decode cX5_filesWithHaven 39 = .ok (.lreturn, 1) := by decide +kernel
theorem dX5_filesThatAreSafe_0 : decode cX5_filesThatAreSafe 0 = .ok (.lconst 0, 1) := by decide +kernel
theorem dX5_filesThatAreSafe_1 : decode cX5_filesThatAreSafe 1 = .ok (.lstore_n 1, 1) := by decide +kernel
theorem dX5_filesThatAreSafe_2 : decode cX5_filesThatAreSafe 2 = .ok (.iconst 0, 1) := by decide +kernel
theorem dX5_filesThatAreSafe_3 : decode cX5_filesThatAreSafe 3 = .ok (.istore_n 3, 1) := by decide +kernel
theorem dX5_filesThatAreSafe_4 : decode cX5_filesThatAreSafe 4 = .ok (.iload_n 3, 1) := by decide +kernel
theorem dX5_filesThatAreSafe_5 : decode cX5_filesThatAreSafe 5 = .ok (.aload_n 0, 1) := by decide +kernel
theorem dX5_filesThatAreSafe_6 : decode cX5_filesThatAreSafe 6 = .ok (.getfield 146, 3) := by decide +kernel
theorem dX5_filesThatAreSafe_9 : decode cX5_filesThatAreSafe 9 = .ok (.if_icmp .ge 37, 3) := by decide +kernel
theorem dX5_filesThatAreSafe_12 : decode cX5_filesThatAreSafe 12 = .ok (.aload_n 0, 1) := by decide +kernel
theorem dX5_filesThatAreSafe_13 : decode cX5_filesThatAreSafe 13 = .ok (.aload_n 0, 1) := by decide +kernel
theorem dX5_filesThatAreSafe_14 : decode cX5_filesThatAreSafe 14 = .ok (.getfield 21, 3) := by decide +kernel
theorem dX5_filesThatAreSafe_17 : decode cX5_filesThatAreSafe 17 = .ok (.iload_n 3, 1) := by decide +kernel
theorem dX5_filesThatAreSafe_18 : decode cX5_filesThatAreSafe 18 = .ok (.aaload, 1) := by decide +kernel
theorem dX5_filesThatAreSafe_19 : decode cX5_filesThatAreSafe 19 = .ok (.aload_n 0, 1) := by decide +kernel
theorem dX5_filesThatAreSafe_20 : decode cX5_filesThatAreSafe 20 = .ok (.getfield 21, 3) := by decide +kernel
theorem dX5_filesThatAreSafe_23 : decode cX5_filesThatAreSafe 23 = .ok (.iload_n 3, 1) := by decide +kernel
theorem dX5_filesThatAreSafe_24 : decode cX5_filesThatAreSafe 24 = .ok (.aaload, 1) := by decide +kernel
theorem dX5_filesThatAreSafe_25 : decode cX5_filesThatAreSafe 25 = .ok (.getfield 165, 3) := by decide +kernel
theorem dX5_filesThatAreSafe_28 : decode cX5_filesThatAreSafe 28 = .ok (.invokevirtual 206, 3) := by decide +kernel
theorem dX5_filesThatAreSafe_31 : decode cX5_filesThatAreSafe 31 = .ok (.ifCond .eq 9, 3) := by decide +kernel
theorem dX5_filesThatAreSafe_34 : decode cX5_filesThatAreSafe 34 = .ok (.lload_n 1, 1) := by decide +kernel
theorem dX5_filesThatAreSafe_35 : decode cX5_filesThatAreSafe 35 = .ok (.lconst 1, 1) := by decide +kernel
theorem dX5_filesThatAreSafe_36 : decode cX5_filesThatAreSafe 36 = .ok (.iload_n 3, 1) := by decide +kernel
theorem dX5_filesThatAreSafe_37 : decode cX5_filesThatAreSafe 37 = .ok (.lshl, 1) := by decide +kernel
theorem dX5_filesThatAreSafe_38 : decode cX5_filesThatAreSafe 38 = .ok (.lor, 1) := by decide +kernel
theorem dX5_filesThatAreSafe_39 : decode cX5_filesThatAreSafe 39 = .ok (.lstore_n 1, 1) := by decide +kernel
theorem dX5_filesThatAreSafe_40 : decode cX5_filesThatAreSafe 40 = .ok (.iinc 3 1, 3) := by decide +kernel
theorem dX5_filesThatAreSafe_43 : decode cX5_filesThatAreSafe 43 = .ok (.goto (-39), 3) := by decide +kernel
theorem dX5_filesThatAreSafe_46 : decode cX5_filesThatAreSafe 46 = .ok (.lload_n 1, 1) := by decide +kernel
theorem dX5_filesThatAreSafe_47 : decode cX5_filesThatAreSafe 47 = .ok (.lreturn, 1) := by decide +kernel
theorem dX5_firstToEnd_0 : decode cX5_firstToEnd 0 = .ok (.iconst 0, 1) := by decide +kernel
theorem dX5_firstToEnd_1 : decode cX5_firstToEnd 1 = .ok (.istore_n 3, 1) := by decide +kernel
theorem dX5_firstToEnd_2 : decode cX5_firstToEnd 2 = .ok (.ldc 253, 2) := by decide +kernel
theorem dX5_firstToEnd_4 : decode cX5_firstToEnd 4 = .ok (.istore 4, 2) := by decide +kernel
theorem dX5_firstToEnd_6 : decode cX5_firstToEnd 6 = .ok (.iconst 0, 1) := by decide +kernel
theorem dX5_firstToEnd_7 : decode cX5_firstToEnd 7 = .ok (.istore 5, 2) := by decide +kernel
theorem dX5_firstToEnd_9 : decode cX5_firstToEnd 9 = .ok (.iload 5, 2) := by decide +kernel
theorem dX5_firstToEnd_11 : decode cX5_firstToEnd 11 = .ok (.aload_n 0, 1) := by decide +kernel
theorem dX5_firstToEnd_12 : decode cX5_firstToEnd 12 = .ok (.getfield 146, 3) := by decide +kernel
theorem dX5_firstToEnd_15 : decode cX5_firstToEnd 15 = .ok (.if_icmp .ge 51, 3) := by decide +kernel
theorem dX5_firstToEnd_18 : decode cX5_firstToEnd 18 = .ok (.aload_n 0, 1) := by decide +kernel
theorem dX5_firstToEnd_19 : decode cX5_firstToEnd 19 = .ok (.getfield 9, 3) := by decide +kernel
theorem dX5_firstToEnd_22 : decode cX5_firstToEnd 22 = .ok (.aload_n 0, 1) := by decide +kernel
theorem dX5_firstToEnd_23 : decode cX5_firstToEnd 23 = .ok (.getfield 21, 3) := by decide +kernel
theorem dX5_firstToEnd_26 : decode cX5_firstToEnd 26 = .ok (.iload 5, 2) := by decide +kernel
theorem dX5_firstToEnd_28 : decode cX5_firstToEnd 28 = .ok (.aaload, 1) := by decide +kernel
theorem dX5_firstToEnd_29 : decode cX5_firstToEnd 29 = .ok (.getfield 165, 3) := by decide +kernel
theorem dX5_firstToEnd_32 : decode cX5_firstToEnd 32 = .ok (.iaload, 1) := by decide +kernel
theorem dX5_firstToEnd_33 : decode cX5_firstToEnd 33 = .ok (.istore 6, 2) := by decide +kernel
theorem dX5_firstToEnd_35 : decode cX5_firstToEnd 35 = .ok (.lload_n 1, 1) := by decide +kernel
theorem dX5_firstToEnd_36 : decode cX5_firstToEnd 36 = .ok (.lconst 1, 1) := by decide +kernel
theorem dX5_firstToEnd_37 : decode cX5_firstToEnd 37 = .ok (.iload 5, 2) := by decide +kernel
theorem dX5_firstToEnd_39 : decode cX5_firstToEnd 39 = .ok (.lshl, 1) := by decide +kernel
theorem dX5_firstToEnd_40 : decode cX5_firstToEnd 40 = .ok (.land, 1) := by decide +kernel
theorem dX5_firstToEnd_41 : decode cX5_firstToEnd 41 = .ok (.lconst 0, 1) := by decide +kernel
theorem dX5_firstToEnd_42 : decode cX5_firstToEnd 42 = .ok (.lcmp, 1) := by decide +kernel
theorem dX5_firstToEnd_43 : decode cX5_firstToEnd 43 = .ok (.ifCond .eq 17, 3) := by decide +kernel
theorem dX5_firstToEnd_46 : decode cX5_firstToEnd 46 = .ok (.iload 6, 2) := by decide +kernel
theorem dX5_firstToEnd_48 : decode cX5_firstToEnd 48 = .ok (.iload 4, 2) := by decide +kernel
theorem dX5_firstToEnd_50 : decode cX5_firstToEnd 50 = .ok (.if_icmp .ge 10, 3) := by decide +kernel
theorem dX5_firstToEnd_53 : decode cX5_firstToEnd 53 = .ok (.iload 5, 2) := by decide +kernel
theorem dX5_firstToEnd_55 : decode cX5_firstToEnd 55 = .ok (.istore_n 3, 1) := by decide +kernel
theorem dX5_firstToEnd_56 : decode cX5_firstToEnd 56 = .ok (.iload 6, 2) := by decide +kernel
theorem dX5_firstToEnd_58 : decode cX5_firstToEnd 58 = .ok (.istore 4, 2) := by decide +kernel
theorem dX5_firstToEnd_60 : decode cX5_firstToEnd 60 = .ok (.iinc 5 1, 3) := by decide +kernel
theorem dX5_firstToEnd_63 : decode cX5_firstToEnd 63 = .ok (.goto (-54), 3) := by decide +kernel
theorem dX5_firstToEnd_66 : decode cX5_firstToEnd 66 = .ok (.iload_n 3, 1) := by decide +kernel
theorem dX5_firstToEnd_67 : decode cX5_firstToEnd 67 = .ok (.ireturn, 1) := by decide +kernel
theorem dX5_costOfMove_0 : decode cX5_costOfMove 0 = .ok (.aload_n 1, 1) := by decide +kernel
theorem dX5_costOfMove_1 : decode cX5_costOfMove 1 = .ok (.getfield 254, 3) := by decide +kernel
theorem dX5_costOfMove_4 : decode cX5_costOfMove 4 = .ok (.aload_n 0, 1) := by decide +kernel
theorem dX5_costOfMove_5 : decode cX5_costOfMove 5 = .ok (.getfield 28, 3) := by decide +kernel
theorem dX5_costOfMove_8 : decode cX5_costOfMove 8 = .ok (.aload_n 1, 1) := by decide +kernel
theorem dX5_costOfMove_9 : decode cX5_costOfMove 9 = .ok (.getfield 165, 3) := by decide +kernel
theorem dX5_costOfMove_12 : decode cX5_costOfMove 12 = .ok (.invokevirtual 121, 3) := by decide +kernel
theorem dX5_costOfMove_15 : decode cX5_costOfMove 15 = .ok (.getfield 134, 3) := by decide +kernel
theorem dX5_costOfMove_18 : decode cX5_costOfMove 18 = .ok (.iload_n 2, 1) := by decide +kernel
theorem dX5_costOfMove_19 : decode cX5_costOfMove 19 = .ok (.iaload, 1) := by decide +kernel
theorem dX5_costOfMove_20 : decode cX5_costOfMove 20 = .ok (.imul, 1) := by decide +kernel
theorem dX5_costOfMove_21 : decode cX5_costOfMove 21 = .ok (.ireturn, 1) := by decide +kernel
theorem dX5_take_0 : decode cX5_take 0 = .ok (.aload_n 0, 1) := by decide +kernel
theorem dX5_take_1 : decode cX5_take 1 = .ok (.getfield 28, 3) := by decide +kernel
theorem dX5_take_4 : decode cX5_take 4 = .ok (.aload_n 1, 1) := by decide +kernel
theorem dX5_take_5 : decode cX5_take 5 = .ok (.getfield 165, 3) := by decide +kernel
theorem dX5_take_8 : decode cX5_take 8 = .ok (.invokevirtual 121, 3) := by decide +kernel
theorem dX5_take_11 : decode cX5_take 11 = .ok (.astore_n 3, 1) := by decide +kernel
theorem dX5_take_12 : decode cX5_take 12 = .ok (.aload_n 0, 1) := by decide +kernel
theorem dX5_take_13 : decode cX5_take 13 = .ok (.dup, 1) := by decide +kernel
theorem dX5_take_14 : decode cX5_take 14 = .ok (.getfield 36, 3) := by decide +kernel
theorem dX5_take_17 : decode cX5_take 17 = .ok (.aload_n 0, 1) := by decide +kernel
theorem dX5_take_18 : decode cX5_take 18 = .ok (.aload_n 1, 1) := by decide +kernel
theorem dX5_take_19 : decode cX5_take 19 = .ok (.iload_n 2, 1) := by decide +kernel
theorem dX5_take_20 : decode cX5_take 20 = .ok (.invokevirtual 183, 3) := by decide +kernel
theorem dX5_take_23 : decode cX5_take 23 = .ok (.isub, 1) := by decide +kernel
theorem dX5_take_24 : decode cX5_take 24 = .ok (.putfield 36, 3) := by decide +kernel
theorem dX5_take_27 : decode cX5_take 27 = .ok (.aload_n 1, 1) := by decide +kernel
theorem dX5_take_28 : decode cX5_take 28 = .ok (.aload_n 0, 1) := by decide +kernel
theorem dX5_take_29 : decode cX5_take 29 = .ok (.getfield 28, 3) := by decide +kernel
theorem dX5_take_32 : decode cX5_take 32 = .ok (.aload_n 3, 1) := by decide +kernel
theorem dX5_take_33 : decode cX5_take 33 = .ok (.iload_n 2, 1) := by decide +kernel
theorem dX5_take_34 : decode cX5_take 34 = .ok (.aload_n 1, 1) := by decide +kernel
theorem dX5_take_35 : decode cX5_take 35 = .ok (.getfield 168, 3) := by decide +kernel
theorem dX5_take_38 : decode cX5_take 38 = .ok (.invokevirtual 247, 3) := by decide +kernel
theorem dX5_take_41 : decode cX5_take 41 = .ok (.putfield 168, 3) := by decide +kernel
theorem dX5_take_44 : decode cX5_take 44 = .ok (.aload_n 1, 1) := by decide +kernel
theorem dX5_take_45 : decode cX5_take 45 = .ok (.iload_n 2, 1) := by decide +kernel
theorem dX5_take_46 : decode cX5_take 46 = .ok (.putfield 165, 3) := by decide +kernel
theorem dX5_take_49 : decode cX5_take 49 = .ok (.return_, 1) := by decide +kernel
theorem dX6_init_0 : decode cX6_init 0 = .ok (.aload_n 0, 1) := by decide +kernel
theorem dX6_init_1 : decode cX6_init 1 = .ok (.invokespecial 1, 3) := by decide +kernel
theorem dX6_init_4 : decode cX6_init 4 = .ok (.aload_n 0, 1) := by decide +kernel
theorem dX6_init_5 : decode cX6_init 5 = .ok (.bipush 10, 2) := by decide +kernel
theorem dX6_init_7 : decode cX6_init 7 = .ok (.newarray .int, 2) := by decide +kernel
theorem dX6_init_9 : decode cX6_init 9 = .ok (.putfield 7, 3) := by decide +kernel
theorem dX6_init_12 : decode cX6_init 12 = .ok (.aload_n 0, 1) := by decide +kernel
theorem dX6_init_13 : decode cX6_init 13 = .ok (.bipush 30, 2) := by decide +kernel
theorem dX6_init_15 : decode cX6_init 15 = .ok (.newarray .int, 2) := by decide +kernel
theorem dX6_init_17 : decode cX6_init 17 = .ok (.putfield 13, 3) := by decide +kernel
theorem dX6_init_20 : decode cX6_init 20 = .ok (.aload_n 0, 1) := by decide +kernel
theorem dX6_init_21 : decode cX6_init 21 = .ok (.bipush 30, 2) := by decide +kernel
theorem dX6_init_23 : decode cX6_init 23 = .ok (.newarray .int, 2) := by decide +kernel
theorem dX6_init_25 : decode cX6_init 25 = .ok (.putfield 16, 3) := by decide +kernel
theorem dX6_init_28 : decode cX6_init 28 = .ok (.aload_n 0, 1) := by decide +kernel
theorem dX6_init_29 : decode cX6_init 29 = .ok (.bipush 30, 2) := by decide +kernel
theorem dX6_init_31 : decode cX6_init 31 = .ok (.newarray .int, 2) := by decide +kernel
theorem dX6_init_33 : decode cX6_init 33 = .ok (.putfield 19, 3) := by decide +kernel
theorem dX6_init_36 : decode cX6_init 36 = .ok (.aload_n 0, 1) := by decide +kernel
theorem dX6_init_37 : decode cX6_init 37 = .ok (.bipush 30, 2) := by decide +kernel
theorem dX6_init_39 : decode cX6_init 39 = .ok (.newarray .int, 2) := by decide +kernel
theorem dX6_init_41 : decode cX6_init 41 = .ok (.putfield 22, 3) := by decide +kernel
theorem dX6_init_44 : decode cX6_init 44 = .ok (.aload_n 0, 1) := by decide +kernel
theorem dX6_init_45 : decode cX6_init 45 = .ok (.bipush 30, 2) := by decide +kernel
theorem dX6_init_47 : decode cX6_init 47 = .ok (.newarray .boolean, 2) := by decide +kernel
theorem dX6_init_49 : decode cX6_init 49 = .ok (.putfield 25, 3) := by decide +kernel
theorem dX6_init_52 : decode cX6_init 52 = .ok (.aload_n 0, 1) := by decide +kernel
theorem dX6_init_53 : decode cX6_init 53 = .ok (.iconst 5, 1) := by decide +kernel
theorem dX6_init_54 : decode cX6_init 54 = .ok (.newarray .int, 2) := by decide +kernel
theorem dX6_init_56 : decode cX6_init 56 = .ok (.putfield 29, 3) := by decide +kernel
theorem dX6_init_59 : decode cX6_init 59 = .ok (.aload_n 0, 1) := by decide +kernel
theorem dX6_init_60 : decode cX6_init 60 = .ok (.iconst 5, 1) := by decide +kernel
theorem dX6_init_61 : decode cX6_init 61 = .ok (.newarray .int, 2) := by decide +kernel
theorem dX6_init_63 : decode cX6_init 63 = .ok (.putfield 32, 3) := by decide +kernel
theorem dX6_init_66 : decode cX6_init 66 = .ok (.aload_n 0, 1) := by decide +kernel
theorem dX6_init_67 : decode cX6_init 67 = .ok (.iconst 5, 1) := by decide +kernel
theorem dX6_init_68 : decode cX6_init 68 = .ok (.newarray .int, 2) := by decide +kernel
theorem dX6_init_70 : decode cX6_init 70 = .ok (.putfield 35, 3) := by decide +kernel
theorem dX6_init_73 : decode cX6_init 73 = .ok (.aload_n 0, 1) := by decide +kernel
theorem dX6_init_74 : decode cX6_init 74 = .ok (.bipush 40, 2) := by decide +kernel
theorem dX6_init_76 : decode cX6_init 76 = .ok (.newarray .int, 2) := by decide +kernel
theorem dX6_init_78 : decode cX6_init 78 = .ok (.putfield 38, 3) := by decide +kernel
theorem dX6_init_81 : decode cX6_init 81 = .ok (.aload_n 0, 1) := by decide +kernel
theorem dX6_init_82 : decode cX6_init 82 = .ok (.bipush 40, 2) := by decide +kernel
theorem dX6_init_84 : decode cX6_init 84 = .ok (.newarray .int, 2) := by decide +kernel
theorem dX6_init_86 : decode cX6_init 86 = .ok (.putfield 41, 3) := by decide +kernel
theorem dX6_init_89 : decode cX6_init 89 = .ok (.aload_n 0, 1) := by decide +kernel
theorem dX6_init_90 : decode cX6_init 90 = .ok (.bipush 40, 2) := by decide +kernel
theorem dX6_init_92 : decode cX6_init 92 = .ok (.newarray .int, 2) := by decide +kernel
theorem dX6_init_94 : decode cX6_init 94 = .ok (.putfield 44, 3) := by decide +kernel
theorem dX6_init_97 : decode cX6_init 97 = .ok (.aload_n 0, 1) := by decide +kernel
theorem dX6_init_98 : decode cX6_init 98 = .ok (.bipush 40, 2) := by decide +kernel
theorem dX6_init_100 : decode cX6_init 100 = .ok (.newarray .int, 2) := by decide +kernel
theorem dX6_init_102 : decode cX6_init 102 = .ok (.putfield 47, 3) := by decide +kernel
theorem dX6_init_105 : decode cX6_init 105 = .ok (.aload_n 0, 1) := by decide +kernel
theorem dX6_init_106 : decode cX6_init 106 = .ok (.bipush 40, 2) := by decide +kernel
theorem dX6_init_108 : decode cX6_init 108 = .ok (.newarray .int, 2) := by decide +kernel
theorem dX6_init_110 : decode cX6_init 110 = .ok (.putfield 50, 3) := by decide +kernel
theorem dX6_init_113 : decode cX6_init 113 = .ok (.aload_n 0, 1) := by decide +kernel
theorem dX6_init_114 : decode cX6_init 114 = .ok (.bipush 40, 2) := by decide +kernel
theorem dX6_init_116 : decode cX6_init 116 = .ok (.newarray .int, 2) := by decide +kernel
theorem dX6_init_118 : decode cX6_init 118 = .ok (.putfield 53, 3) := by decide +kernel
theorem dX6_init_121 : decode cX6_init 121 = .ok (.aload_n 0, 1) := by decide +kernel
theorem dX6_init_122 : decode cX6_init 122 = .ok (.bipush 40, 2) := by decide +kernel
theorem dX6_init_124 : decode cX6_init 124 = .ok (.newarray .int, 2) := by decide +kernel
theorem dX6_init_126 : decode cX6_init 126 = .ok (.putfield 56, 3) := by decide +kernel
theorem dX6_init_129 : decode cX6_init 129 = .ok (.aload_n 0, 1) := by decide +kernel
theorem dX6_init_130 : decode cX6_init 130 = .ok (.bipush 40, 2) := by decide +kernel
theorem dX6_init_132 : decode cX6_init 132 = .ok (.newarray .boolean, 2) := by decide +kernel
theorem dX6_init_134 : decode cX6_init 134 = .ok (.putfield 59, 3) := by decide +kernel
theorem dX6_init_137 : decode cX6_init 137 = .ok (.aload_n 0, 1) := by decide +kernel
theorem dX6_init_138 : decode cX6_init 138 = .ok (.bipush 40, 2) := by decide +kernel
theorem dX6_init_140 : decode cX6_init 140 = .ok (.newarray .boolean, 2) := by decide +kernel
theorem dX6_init_142 : decode cX6_init 142 = .ok (.putfield 62, 3) := by decide +kernel
theorem dX6_init_145 : decode cX6_init 145 = .ok (.aload_n 0, 1) := by decide +kernel
theorem dX6_init_146 : decode cX6_init 146 = .ok (.bipush 40, 2) := by decide +kernel
theorem dX6_init_148 : decode cX6_init 148 = .ok (.newarray .boolean, 2) := by decide +kernel
theorem dX6_init_150 : decode cX6_init 150 = .ok (.putfield 65, 3) := by decide +kernel
theorem dX6_init_153 : decode cX6_init 153 = .ok (.aload_n 0, 1) := by decide +kernel
theorem dX6_init_154 : decode cX6_init 154 = .ok (.bipush 100, 2) := by decide +kernel
theorem dX6_init_156 : decode cX6_init 156 = .ok (.newarray .int, 2) := by decide +kernel
theorem dX6_init_158 : decode cX6_init 158 = .ok (.putfield 68, 3) := by decide +kernel
theorem dX6_init_161 : decode cX6_init 161 = .ok (.aload_n 0, 1) := by decide +kernel
theorem dX6_init_162 : decode cX6_init 162 = .ok (.bipush 100, 2) := by decide +kernel
theorem dX6_init_164 : decode cX6_init 164 = .ok (.newarray .int, 2) := by decide +kernel
theorem dX6_init_166 : decode cX6_init 166 = .ok (.putfield 71, 3) := by decide +kernel
theorem dX6_init_169 : decode cX6_init 169 = .ok (.aload_n 0, 1) := by decide +kernel
theorem dX6_init_170 : decode cX6_init 170 = .ok (.bipush 100, 2) := by decide +kernel
theorem dX6_init_172 : decode cX6_init 172 = .ok (.newarray .int, 2) := by decide +kernel
theorem dX6_init_174 : decode cX6_init 174 = .ok (.putfield 74, 3) := by decide +kernel
theorem dX6_init_177 : decode cX6_init 177 = .ok (.aload_n 0, 1) := by decide +kernel
theorem dX6_init_178 : decode cX6_init 178 = .ok (.sipush 900, 3) := by decide +kernel
theorem dX6_init_181 : decode cX6_init 181 = .ok (.newarray .int, 2) := by decide +kernel
theorem dX6_init_183 : decode cX6_init 183 = .ok (.putfield 77, 3) := by decide +kernel
theorem dX6_init_186 : decode cX6_init 186 = .ok (.aload_n 0, 1) := by decide +kernel
theorem dX6_init_187 : decode cX6_init 187 = .ok (.bipush 11, 2) := by decide +kernel
theorem dX6_init_189 : decode cX6_init 189 = .ok (.newarray .int, 2) := by decide +kernel
theorem dX6_init_191 : decode cX6_init 191 = .ok (.putfield 80, 3) := by decide +kernel
theorem dX6_init_194 : decode cX6_init 194 = .ok (.aload_n 0, 1) := by decide +kernel
theorem dX6_init_195 : decode cX6_init 195 = .ok (.bipush 11, 2) := by decide +kernel
theorem dX6_init_197 : decode cX6_init 197 = .ok (.newarray .int, 2) := by decide +kernel
theorem dX6_init_199 : decode cX6_init 199 = .ok (.putfield 83, 3) := by decide +kernel
theorem dX6_init_202 : decode cX6_init 202 = .ok (.aload_n 0, 1) := by decide +kernel
theorem dX6_init_203 : decode cX6_init 203 = .ok (.bipush 11, 2) := by decide +kernel
theorem dX6_init_205 : decode cX6_init 205 = .ok (.newarray .int, 2) := by decide +kernel
theorem dX6_init_207 : decode cX6_init 207 = .ok (.putfield 86, 3) := by decide +kernel
theorem dX6_init_210 : decode cX6_init 210 = .ok (.aload_n 0, 1) := by decide +kernel
theorem dX6_init_211 : decode cX6_init 211 = .ok (.bipush 11, 2) := by decide +kernel
theorem dX6_init_213 : decode cX6_init 213 = .ok (.newarray .int, 2) := by decide +kernel
theorem dX6_init_215 : decode cX6_init 215 = .ok (.putfield 89, 3) := by decide +kernel
theorem dX6_init_218 : decode cX6_init 218 = .ok (.aload_n 0, 1) := by decide +kernel
theorem dX6_init_219 : decode cX6_init 219 = .ok (.bipush 11, 2) := by decide +kernel
theorem dX6_init_221 : decode cX6_init 221 = .ok (.newarray .int, 2) := by decide +kernel
theorem dX6_init_223 : decode cX6_init 223 = .ok (.putfield 92, 3) := by decide +kernel
theorem dX6_init_226 : decode cX6_init 226 = .ok (.aload_n 0, 1) := by decide +kernel
theorem dX6_init_227 : decode cX6_init 227 = .ok (.bipush 10, 2) := by decide +kernel
theorem dX6_init_229 : decode cX6_init 229 = .ok (.newarray .boolean, 2) := by decide +kernel
theorem dX6_init_231 : decode cX6_init 231 = .ok (.putfield 95, 3) := by decide +kernel
theorem dX6_init_234 : decode cX6_init 234 = .ok (.aload_n 0, 1) := by decide +kernel
theorem dX6_init_235 : decode cX6_init 235 = .ok (.sipush 1000, 3) := by decide +kernel
theorem dX6_init_238 : decode cX6_init 238 = .ok (.putfield 98, 3) := by decide +kernel
theorem dX6_init_241 : decode cX6_init 241 = .ok (.aload_n 0, 1) := by decide +kernel
theorem dX6_init_242 : decode cX6_init 242 = .ok (.sipush 1000, 3) := by decide +kernel
theorem dX6_init_245 : decode cX6_init 245 = .ok (.putfield 102, 3) := by decide +kernel
theorem dX6_init_248 : decode cX6_init 248 = .ok (.iconst 0, 1) := by decide +kernel
theorem dX6_init_249 : decode cX6_init 249 = .ok (.istore_n 1, 1) := by decide +kernel
theorem dX6_init_250 : decode cX6_init 250 = .ok (.iload_n 1, 1) := by decide +kernel
theorem dX6_init_251 : decode cX6_init 251 = .ok (.bipush 10, 2) := by decide +kernel
theorem dX6_init_253 : decode cX6_init 253 = .ok (.if_icmp .ge 16, 3) := by decide +kernel
theorem dX6_init_256 : decode cX6_init 256 = .ok (.aload_n 0, 1) := by decide +kernel
theorem dX6_init_257 : decode cX6_init 257 = .ok (.getfield 7, 3) := by decide +kernel
theorem dX6_init_260 : decode cX6_init 260 = .ok (.iload_n 1, 1) := by decide +kernel
theorem dX6_init_261 : decode cX6_init 261 = .ok (.iconst (-1), 1) := by decide +kernel
theorem dX6_init_262 : decode cX6_init 262 = .ok (.iastore, 1) := by decide +kernel
theorem dX6_init_263 : decode cX6_init 263 = .ok (.iinc 1 1, 3) := by decide +kernel
theorem dX6_init_266 : decode cX6_init 266 = .ok (.goto (-16), 3) := by decide +kernel
theorem dX6_init_269 : decode cX6_init 269 = .ok (.iconst 0, 1) := by decide +kernel
theorem dX6_init_270 : decode cX6_init 270 = .ok (.istore_n 1, 1) := by decide +kernel
theorem dX6_init_271 : decode cX6_init 271 = .ok (.iload_n 1, 1) := by decide +kernel
theorem dX6_init_272 : decode cX6_init 272 = .ok (.iconst 5, 1) := by decide +kernel
theorem dX6_init_273 : decode cX6_init 273 = .ok (.if_icmp .ge 24, 3) := by decide +kernel
theorem dX6_init_276 : decode cX6_init 276 = .ok (.aload_n 0, 1) := by decide +kernel
theorem dX6_init_277 : decode cX6_init 277 = .ok (.getfield 29, 3) := by decide +kernel
theorem dX6_init_280 : decode cX6_init 280 = .ok (.iload_n 1, 1) := by decide +kernel
theorem dX6_init_281 : decode cX6_init 281 = .ok (.bipush 10, 2) := by decide +kernel
theorem dX6_init_283 : decode cX6_init 283 = .ok (.iastore, 1) := by decide +kernel
theorem dX6_init_284 : decode cX6_init 284 = .ok (.aload_n 0, 1) := by decide +kernel
theorem dX6_init_285 : decode cX6_init 285 = .ok (.getfield 35, 3) := by decide +kernel
theorem dX6_init_288 : decode cX6_init 288 = .ok (.iload_n 1, 1) := by decide +kernel
theorem dX6_init_289 : decode cX6_init 289 = .ok (.iconst 5, 1) := by decide +kernel
theorem dX6_init_290 : decode cX6_init 290 = .ok (.iastore, 1) := by decide +kernel
theorem dX6_init_291 : decode cX6_init 291 = .ok (.iinc 1 1, 3) := by decide +kernel
theorem dX6_init_294 : decode cX6_init 294 = .ok (.goto (-23), 3) := by decide +kernel
theorem dX6_init_297 : decode cX6_init 297 = .ok (.return_, 1) := by decide +kernel
theorem dX6_thrown_0 : decode cX6_thrown 0 = .ok (.aload_n 0, 1) := by decide +kernel
theorem dX6_thrown_1 : decode cX6_thrown 1 = .ok (.getfield 105, 3) := by decide +kernel
theorem dX6_thrown_4 : decode cX6_thrown 4 = .ok (.ireturn, 1) := by decide +kernel
theorem dX6_fails_0 : decode cX6_fails 0 = .ok (.aload_n 0, 1) := by decide +kernel
theorem dX6_fails_1 : decode cX6_fails 1 = .ok (.iload_n 1, 1) := by decide +kernel
theorem dX6_fails_2 : decode cX6_fails 2 = .ok (.putfield 105, 3) := by decide +kernel
theorem dX6_fails_5 : decode cX6_fails 5 = .ok (.iconst 0, 1) := by decide +kernel
theorem dX6_fails_6 : decode cX6_fails 6 = .ok (.ireturn, 1) := by decide +kernel
theorem dX6_in_0 : decode cX6_in 0 = .ok (.iload_n 0, 1) := by decide +kernel
theorem dX6_in_1 : decode cX6_in 1 = .ok (.iload_n 1, 1) := by decide +kernel
theorem dX6_in_2 : decode cX6_in 2 = .ok (.if_icmp .lt 12, 3) := by decide +kernel
theorem dX6_in_5 : decode cX6_in 5 = .ok (.iload_n 0, 1) := by decide +kernel
theorem dX6_in_6 : decode cX6_in 6 = .ok (.iload_n 2, 1) := by decide +kernel
theorem dX6_in_7 : decode cX6_in 7 = .ok (.if_icmp .gt 7, 3) := by decide +kernel
theorem dX6_in_10 : decode cX6_in 10 = .ok (.iconst 1, 1) := by decide +kernel
theorem dX6_in_11 : decode cX6_in 11 = .ok (.goto 4, 3) := by decide +kernel
theorem dX6_in_14 : decode cX6_in 14 = .ok (.iconst 0, 1) := by decide +kernel
theorem dX6_in_15 : decode cX6_in 15 = .ok (.ireturn, 1) := by decide +kernel
theorem dX6_isNoFormat_0 : decode cX6_isNoFormat 0 = .ok (.iload_n 0, 1) := by decide +kernel
theorem dX6_isNoFormat_1 : decode cX6_isNoFormat 1 = .ok (.iconst 0, 1) := by decide +kernel
theorem dX6_isNoFormat_2 : decode cX6_isNoFormat 2 = .ok (.bipush 9, 2) := by decide +kernel
theorem dX6_isNoFormat_4 : decode cX6_isNoFormat 4 = .ok (.invokestatic 108, 3) := by decide +kernel
theorem dX6_isNoFormat_7 : decode cX6_isNoFormat 7 = .ok (.ifCond .ne 7, 3) := by decide +kernel
end
section
theorem dX6_isNoFormat_10 : decode cX6_isNoFormat 10 = .ok (.iconst 1, 1) := by decide +kernel
theorem dX6_isNoFormat_11 : decode cX6_isNoFormat 11 = .ok (.goto 4, 3) := by decide +kernel
theorem dX6_isNoFormat_14 : decode cX6_isNoFormat 14 = .ok (.iconst 0, 1) := by decide +kernel
theorem dX6_isNoFormat_15 : decode cX6_isNoFormat 15 = .ok (.ireturn, 1) := by decide +kernel
theorem dX6_isNoFile_0 : decode cX6_isNoFile 0 = .ok (.iload_n 1, 1) := by decide +kernel
theorem dX6_isNoFile_1 : decode cX6_isNoFile 1 = .ok (.iconst 0, 1) := by decide +kernel
theorem dX6_isNoFile_2 : decode cX6_isNoFile 2 = .ok (.aload_n 0, 1) := by decide +kernel
theorem dX6_isNoFile_3 : decode cX6_isNoFile 3 = .ok (.getfield 112, 3) := by decide +kernel
theorem dX6_isNoFile_6 : decode cX6_isNoFile 6 = .ok (.iconst 1, 1) := by decide +kernel
theorem dX6_isNoFile_7 : decode cX6_isNoFile 7 = .ok (.isub, 1) := by decide +kernel
theorem dX6_isNoFile_8 : decode cX6_isNoFile 8 = .ok (.invokestatic 108, 3) := by decide +kernel
theorem dX6_isNoFile_11 : decode cX6_isNoFile 11 = .ok (.ifCond .ne 7, 3) := by decide +kernel
theorem dX6_isNoFile_14 : decode cX6_isNoFile 14 = .ok (.iconst 1, 1) := by decide +kernel
theorem dX6_isNoFile_15 : decode cX6_isNoFile 15 = .ok (.goto 4, 3) := by decide +kernel
theorem dX6_isNoFile_18 : decode cX6_isNoFile 18 = .ok (.iconst 0, 1) := by decide +kernel
theorem dX6_isNoFile_19 : decode cX6_isNoFile 19 = .ok (.ireturn, 1) := by decide +kernel
theorem dX6_canBeRead_0 : decode cX6_canBeRead 0 = .ok (.aload_n 0, 1) := by decide +kernel
theorem dX6_canBeRead_1 : decode cX6_canBeRead 1 = .ok (.getfield 7, 3) := by decide +kernel
theorem dX6_canBeRead_4 : decode cX6_canBeRead 4 = .ok (.iload_n 1, 1) := by decide +kernel
theorem dX6_canBeRead_5 : decode cX6_canBeRead 5 = .ok (.iaload, 1) := by decide +kernel
theorem dX6_canBeRead_6 : decode cX6_canBeRead 6 = .ok (.iconst (-1), 1) := by decide +kernel
theorem dX6_canBeRead_7 : decode cX6_canBeRead 7 = .ok (.if_icmp .eq 16, 3) := by decide +kernel
theorem dX6_canBeRead_10 : decode cX6_canBeRead 10 = .ok (.aload_n 0, 1) := by decide +kernel
theorem dX6_canBeRead_11 : decode cX6_canBeRead 11 = .ok (.getfield 7, 3) := by decide +kernel
theorem dX6_canBeRead_14 : decode cX6_canBeRead 14 = .ok (.iload_n 1, 1) := by decide +kernel
theorem dX6_canBeRead_15 : decode cX6_canBeRead 15 = .ok (.iaload, 1) := by decide +kernel
theorem dX6_canBeRead_16 : decode cX6_canBeRead 16 = .ok (.aload_n 0, 1) := by decide +kernel
theorem dX6_canBeRead_17 : decode cX6_canBeRead 17 = .ok (.getfield 115, 3) := by decide +kernel
theorem dX6_canBeRead_20 : decode cX6_canBeRead 20 = .ok (.if_icmp .lt 7, 3) := by decide +kernel
theorem dX6_canBeRead_23 : decode cX6_canBeRead 23 = .ok (.iconst 1, 1) := by decide +kernel
theorem dX6_canBeRead_24 : decode cX6_canBeRead 24 = .ok (.goto 4, 3) := by decide +kernel
theorem dX6_canBeRead_27 : decode cX6_canBeRead 27 = .ok (.iconst 0, 1) := by decide +kernel
theorem dX6_canBeRead_28 : decode cX6_canBeRead 28 = .ok (.ireturn, 1) := by decide +kernel
theorem dX6_behind_0 : decode cX6_behind 0 = .ok (.iload_n 0, 1) := by decide +kernel
theorem dX6_behind_1 : decode cX6_behind 1 = .ok (.sipush 1000, 3) := by decide +kernel
theorem dX6_behind_4 : decode cX6_behind 4 = .ok (.iload_n 1, 1) := by decide +kernel
theorem dX6_behind_5 : decode cX6_behind 5 = .ok (.isub, 1) := by decide +kernel
theorem dX6_behind_6 : decode cX6_behind 6 = .ok (.imul, 1) := by decide +kernel
theorem dX6_behind_7 : decode cX6_behind 7 = .ok (.sipush 1000, 3) := by decide +kernel
theorem dX6_behind_10 : decode cX6_behind 10 = .ok (.idiv, 1) := by decide +kernel
theorem dX6_behind_11 : decode cX6_behind 11 = .ok (.ireturn, 1) := by decide +kernel
theorem dX6_offer_0 : decode cX6_offer 0 = .ok (.iload_n 2, 1) := by decide +kernel
theorem dX6_offer_1 : decode cX6_offer 1 = .ok (.aload_n 0, 1) := by decide +kernel
theorem dX6_offer_2 : decode cX6_offer 2 = .ok (.getfield 68, 3) := by decide +kernel
theorem dX6_offer_5 : decode cX6_offer 5 = .ok (.iload_n 1, 1) := by decide +kernel
theorem dX6_offer_6 : decode cX6_offer 6 = .ok (.iaload, 1) := by decide +kernel
theorem dX6_offer_7 : decode cX6_offer 7 = .ok (.if_icmp .le 7, 3) := by decide +kernel
theorem dX6_offer_10 : decode cX6_offer 10 = .ok (.iconst 1, 1) := by decide +kernel
theorem dX6_offer_11 : decode cX6_offer 11 = .ok (.goto 4, 3) := by decide +kernel
theorem dX6_offer_14 : decode cX6_offer 14 = .ok (.iconst 0, 1) := by decide +kernel
theorem dX6_offer_15 : decode cX6_offer 15 = .ok (.istore 5, 2) := by decide +kernel
theorem dX6_offer_17 : decode cX6_offer 17 = .ok (.iload_n 2, 1) := by decide +kernel
theorem dX6_offer_18 : decode cX6_offer 18 = .ok (.aload_n 0, 1) := by decide +kernel
theorem dX6_offer_19 : decode cX6_offer 19 = .ok (.getfield 68, 3) := by decide +kernel
theorem dX6_offer_22 : decode cX6_offer 22 = .ok (.iload_n 1, 1) := by decide +kernel
theorem dX6_offer_23 : decode cX6_offer 23 = .ok (.iaload, 1) := by decide +kernel
theorem dX6_offer_24 : decode cX6_offer 24 = .ok (.if_icmp .ne 41, 3) := by decide +kernel
theorem dX6_offer_27 : decode cX6_offer 27 = .ok (.iload_n 3, 1) := by decide +kernel
theorem dX6_offer_28 : decode cX6_offer 28 = .ok (.aload_n 0, 1) := by decide +kernel
theorem dX6_offer_29 : decode cX6_offer 29 = .ok (.getfield 71, 3) := by decide +kernel
theorem dX6_offer_32 : decode cX6_offer 32 = .ok (.iload_n 1, 1) := by decide +kernel
theorem dX6_offer_33 : decode cX6_offer 33 = .ok (.iaload, 1) := by decide +kernel
theorem dX6_offer_34 : decode cX6_offer 34 = .ok (.if_icmp .lt 24, 3) := by decide +kernel
theorem dX6_offer_37 : decode cX6_offer 37 = .ok (.iload_n 3, 1) := by decide +kernel
theorem dX6_offer_38 : decode cX6_offer 38 = .ok (.aload_n 0, 1) := by decide +kernel
theorem dX6_offer_39 : decode cX6_offer 39 = .ok (.getfield 71, 3) := by decide +kernel
theorem dX6_offer_42 : decode cX6_offer 42 = .ok (.iload_n 1, 1) := by decide +kernel
theorem dX6_offer_43 : decode cX6_offer 43 = .ok (.iaload, 1) := by decide +kernel
theorem dX6_offer_44 : decode cX6_offer 44 = .ok (.if_icmp .ne 18, 3) := by decide +kernel
theorem dX6_offer_47 : decode cX6_offer 47 = .ok (.iload 4, 2) := by decide +kernel
theorem dX6_offer_49 : decode cX6_offer 49 = .ok (.aload_n 0, 1) := by decide +kernel
theorem dX6_offer_50 : decode cX6_offer 50 = .ok (.getfield 74, 3) := by decide +kernel
theorem dX6_offer_53 : decode cX6_offer 53 = .ok (.iload_n 1, 1) := by decide +kernel
theorem dX6_offer_54 : decode cX6_offer 54 = .ok (.iaload, 1) := by decide +kernel
theorem dX6_offer_55 : decode cX6_offer 55 = .ok (.if_icmp .ge 7, 3) := by decide +kernel
theorem dX6_offer_58 : decode cX6_offer 58 = .ok (.iconst 1, 1) := by decide +kernel
theorem dX6_offer_59 : decode cX6_offer 59 = .ok (.goto 4, 3) := by decide +kernel
theorem dX6_offer_62 : decode cX6_offer 62 = .ok (.iconst 0, 1) := by decide +kernel
theorem dX6_offer_63 : decode cX6_offer 63 = .ok (.istore 5, 2) := by decide +kernel
theorem dX6_offer_65 : decode cX6_offer 65 = .ok (.iload 5, 2) := by decide +kernel
theorem dX6_offer_67 : decode cX6_offer 67 = .ok (.ifCond .eq 60, 3) := by decide +kernel
theorem dX6_offer_70 : decode cX6_offer 70 = .ok (.aload_n 0, 1) := by decide +kernel
theorem dX6_offer_71 : decode cX6_offer 71 = .ok (.getfield 68, 3) := by decide +kernel
theorem dX6_offer_74 : decode cX6_offer 74 = .ok (.iload_n 1, 1) := by decide +kernel
theorem dX6_offer_75 : decode cX6_offer 75 = .ok (.iload_n 2, 1) := by decide +kernel
theorem dX6_offer_76 : decode cX6_offer 76 = .ok (.iastore, 1) := by decide +kernel
theorem dX6_offer_77 : decode cX6_offer 77 = .ok (.aload_n 0, 1) := by decide +kernel
theorem dX6_offer_78 : decode cX6_offer 78 = .ok (.getfield 71, 3) := by decide +kernel
theorem dX6_offer_81 : decode cX6_offer 81 = .ok (.iload_n 1, 1) := by decide +kernel
theorem dX6_offer_82 : decode cX6_offer 82 = .ok (.iload_n 3, 1) := by decide +kernel
theorem dX6_offer_83 : decode cX6_offer 83 = .ok (.iastore, 1) := by decide +kernel
theorem dX6_offer_84 : decode cX6_offer 84 = .ok (.aload_n 0, 1) := by decide +kernel
theorem dX6_offer_85 : decode cX6_offer 85 = .ok (.getfield 74, 3) := by decide +kernel
theorem dX6_offer_88 : decode cX6_offer 88 = .ok (.iload_n 1, 1) := by decide +kernel
theorem dX6_offer_89 : decode cX6_offer 89 = .ok (.iload 4, 2) := by decide +kernel
theorem dX6_offer_91 : decode cX6_offer 91 = .ok (.iastore, 1) := by decide +kernel
theorem dX6_offer_92 : decode cX6_offer 92 = .ok (.iconst 0, 1) := by decide +kernel
theorem dX6_offer_93 : decode cX6_offer 93 = .ok (.istore 6, 2) := by decide +kernel
theorem dX6_offer_95 : decode cX6_offer 95 = .ok (.iload 6, 2) := by decide +kernel
theorem dX6_offer_97 : decode cX6_offer 97 = .ok (.iload 4, 2) := by decide +kernel
theorem dX6_offer_99 : decode cX6_offer 99 = .ok (.if_icmp .ge 28, 3) := by decide +kernel
theorem dX6_offer_102 : decode cX6_offer 102 = .ok (.aload_n 0, 1) := by decide +kernel
theorem dX6_offer_103 : decode cX6_offer 103 = .ok (.getfield 77, 3) := by decide +kernel
theorem dX6_offer_106 : decode cX6_offer 106 = .ok (.bipush 9, 2) := by decide +kernel
theorem dX6_offer_108 : decode cX6_offer 108 = .ok (.iload_n 1, 1) := by decide +kernel
theorem dX6_offer_109 : decode cX6_offer 109 = .ok (.imul, 1) := by decide +kernel
theorem dX6_offer_110 : decode cX6_offer 110 = .ok (.iload 6, 2) := by decide +kernel
theorem dX6_offer_112 : decode cX6_offer 112 = .ok (.iadd, 1) := by decide +kernel
theorem dX6_offer_113 : decode cX6_offer 113 = .ok (.aload_n 0, 1) := by decide +kernel
theorem dX6_offer_114 : decode cX6_offer 114 = .ok (.getfield 80, 3) := by decide +kernel
theorem dX6_offer_117 : decode cX6_offer 117 = .ok (.iload 6, 2) := by decide +kernel
theorem dX6_offer_119 : decode cX6_offer 119 = .ok (.iaload, 1) := by decide +kernel
theorem dX6_offer_120 : decode cX6_offer 120 = .ok (.iastore, 1) := by decide +kernel
theorem dX6_offer_121 : decode cX6_offer 121 = .ok (.iinc 6 1, 3) := by decide +kernel
theorem dX6_offer_124 : decode cX6_offer 124 = .ok (.goto (-29), 3) := by decide +kernel
theorem dX6_offer_127 : decode cX6_offer 127 = .ok (.return_, 1) := by decide +kernel
theorem dX6_nextFrom_0 : decode cX6_nextFrom 0 = .ok (.iload_n 2, 1) := by decide +kernel
theorem dX6_nextFrom_1 : decode cX6_nextFrom 1 = .ok (.istore_n 3, 1) := by decide +kernel
theorem dX6_nextFrom_2 : decode cX6_nextFrom 2 = .ok (.iload_n 3, 1) := by decide +kernel
theorem dX6_nextFrom_3 : decode cX6_nextFrom 3 = .ok (.aload_n 0, 1) := by decide +kernel
theorem dX6_nextFrom_4 : decode cX6_nextFrom 4 = .ok (.getfield 118, 3) := by decide +kernel
theorem dX6_nextFrom_7 : decode cX6_nextFrom 7 = .ok (.if_icmp .ge 42, 3) := by decide +kernel
theorem dX6_nextFrom_10 : decode cX6_nextFrom 10 = .ok (.aload_n 0, 1) := by decide +kernel
theorem dX6_nextFrom_11 : decode cX6_nextFrom 11 = .ok (.getfield 25, 3) := by decide +kernel
theorem dX6_nextFrom_14 : decode cX6_nextFrom 14 = .ok (.iload_n 3, 1) := by decide +kernel
theorem dX6_nextFrom_15 : decode cX6_nextFrom 15 = .ok (.baload, 1) := by decide +kernel
theorem dX6_nextFrom_16 : decode cX6_nextFrom 16 = .ok (.ifCond .ne 27, 3) := by decide +kernel
theorem dX6_nextFrom_19 : decode cX6_nextFrom 19 = .ok (.aload_n 0, 1) := by decide +kernel
theorem dX6_nextFrom_20 : decode cX6_nextFrom 20 = .ok (.getfield 13, 3) := by decide +kernel
theorem dX6_nextFrom_23 : decode cX6_nextFrom 23 = .ok (.iload_n 3, 1) := by decide +kernel
theorem dX6_nextFrom_24 : decode cX6_nextFrom 24 = .ok (.iaload, 1) := by decide +kernel
theorem dX6_nextFrom_25 : decode cX6_nextFrom 25 = .ok (.iload_n 1, 1) := by decide +kernel
theorem dX6_nextFrom_26 : decode cX6_nextFrom 26 = .ok (.if_icmp .ne 17, 3) := by decide +kernel
theorem dX6_nextFrom_29 : decode cX6_nextFrom 29 = .ok (.aload_n 0, 1) := by decide +kernel
theorem dX6_nextFrom_30 : decode cX6_nextFrom 30 = .ok (.getfield 95, 3) := by decide +kernel
theorem dX6_nextFrom_33 : decode cX6_nextFrom 33 = .ok (.aload_n 0, 1) := by decide +kernel
theorem dX6_nextFrom_34 : decode cX6_nextFrom 34 = .ok (.getfield 16, 3) := by decide +kernel
theorem dX6_nextFrom_37 : decode cX6_nextFrom 37 = .ok (.iload_n 3, 1) := by decide +kernel
theorem dX6_nextFrom_38 : decode cX6_nextFrom 38 = .ok (.iaload, 1) := by decide +kernel
theorem dX6_nextFrom_39 : decode cX6_nextFrom 39 = .ok (.baload, 1) := by decide +kernel
theorem dX6_nextFrom_40 : decode cX6_nextFrom 40 = .ok (.ifCond .eq 9, 3) := by decide +kernel
theorem dX6_nextFrom_43 : decode cX6_nextFrom 43 = .ok (.iinc 3 1, 3) := by decide +kernel
theorem dX6_nextFrom_46 : decode cX6_nextFrom 46 = .ok (.goto (-44), 3) := by decide +kernel
theorem dX6_nextFrom_49 : decode cX6_nextFrom 49 = .ok (.iload_n 3, 1) := by decide +kernel
theorem dX6_nextFrom_50 : decode cX6_nextFrom 50 = .ok (.ireturn, 1) := by decide +kernel
theorem dX6_goAll_0 : decode cX6_goAll 0 = .ok (.iconst 0, 1) := by decide +kernel
theorem dX6_goAll_1 : decode cX6_goAll 1 = .ok (.istore_n 3, 1) := by decide +kernel
theorem dX6_goAll_2 : decode cX6_goAll 2 = .ok (.iconst (-1), 1) := by decide +kernel
theorem dX6_goAll_3 : decode cX6_goAll 3 = .ok (.istore 4, 2) := by decide +kernel
theorem dX6_goAll_5 : decode cX6_goAll 5 = .ok (.aload_n 0, 1) := by decide +kernel
theorem dX6_goAll_6 : decode cX6_goAll 6 = .ok (.getfield 83, 3) := by decide +kernel
theorem dX6_goAll_9 : decode cX6_goAll 9 = .ok (.iconst 0, 1) := by decide +kernel
theorem dX6_goAll_10 : decode cX6_goAll 10 = .ok (.iload_n 1, 1) := by decide +kernel
theorem dX6_goAll_11 : decode cX6_goAll 11 = .ok (.iastore, 1) := by decide +kernel
theorem dX6_goAll_12 : decode cX6_goAll 12 = .ok (.aload_n 0, 1) := by decide +kernel
theorem dX6_goAll_13 : decode cX6_goAll 13 = .ok (.getfield 86, 3) := by decide +kernel
theorem dX6_goAll_16 : decode cX6_goAll 16 = .ok (.iconst 0, 1) := by decide +kernel
theorem dX6_goAll_17 : decode cX6_goAll 17 = .ok (.sipush 1000, 3) := by decide +kernel
theorem dX6_goAll_20 : decode cX6_goAll 20 = .ok (.iastore, 1) := by decide +kernel
theorem dX6_goAll_21 : decode cX6_goAll 21 = .ok (.aload_n 0, 1) := by decide +kernel
theorem dX6_goAll_22 : decode cX6_goAll 22 = .ok (.getfield 89, 3) := by decide +kernel
theorem dX6_goAll_25 : decode cX6_goAll 25 = .ok (.iconst 0, 1) := by decide +kernel
theorem dX6_goAll_26 : decode cX6_goAll 26 = .ok (.iconst 0, 1) := by decide +kernel
theorem dX6_goAll_27 : decode cX6_goAll 27 = .ok (.iastore, 1) := by decide +kernel
theorem dX6_goAll_28 : decode cX6_goAll 28 = .ok (.aload_n 0, 1) := by decide +kernel
theorem dX6_goAll_29 : decode cX6_goAll 29 = .ok (.getfield 92, 3) := by decide +kernel
theorem dX6_goAll_32 : decode cX6_goAll 32 = .ok (.iconst 0, 1) := by decide +kernel
theorem dX6_goAll_33 : decode cX6_goAll 33 = .ok (.iconst 0, 1) := by decide +kernel
theorem dX6_goAll_34 : decode cX6_goAll 34 = .ok (.iastore, 1) := by decide +kernel
theorem dX6_goAll_35 : decode cX6_goAll 35 = .ok (.aload_n 0, 1) := by decide +kernel
theorem dX6_goAll_36 : decode cX6_goAll 36 = .ok (.getfield 95, 3) := by decide +kernel
theorem dX6_goAll_39 : decode cX6_goAll 39 = .ok (.iload_n 1, 1) := by decide +kernel
theorem dX6_goAll_40 : decode cX6_goAll 40 = .ok (.iconst 1, 1) := by decide +kernel
theorem dX6_goAll_41 : decode cX6_goAll 41 = .ok (.bastore, 1) := by decide +kernel
theorem dX6_goAll_42 : decode cX6_goAll 42 = .ok (.iload_n 3, 1) := by decide +kernel
theorem dX6_goAll_43 : decode cX6_goAll 43 = .ok (.ifCond .lt 225, 3) := by decide +kernel
theorem dX6_goAll_46 : decode cX6_goAll 46 = .ok (.aload_n 0, 1) := by decide +kernel
theorem dX6_goAll_47 : decode cX6_goAll 47 = .ok (.getfield 92, 3) := by decide +kernel
theorem dX6_goAll_50 : decode cX6_goAll 50 = .ok (.iload_n 3, 1) := by decide +kernel
theorem dX6_goAll_51 : decode cX6_goAll 51 = .ok (.iaload, 1) := by decide +kernel
theorem dX6_goAll_52 : decode cX6_goAll 52 = .ok (.ifCond .ne 68, 3) := by decide +kernel
theorem dX6_goAll_55 : decode cX6_goAll 55 = .ok (.iload_n 2, 1) := by decide +kernel
theorem dX6_goAll_56 : decode cX6_goAll 56 = .ok (.iconst (-1), 1) := by decide +kernel
theorem dX6_goAll_57 : decode cX6_goAll 57 = .ok (.if_icmp .ne 34, 3) := by decide +kernel
theorem dX6_goAll_60 : decode cX6_goAll 60 = .ok (.aload_n 0, 1) := by decide +kernel
theorem dX6_goAll_61 : decode cX6_goAll 61 = .ok (.bipush 10, 2) := by decide +kernel
theorem dX6_goAll_63 : decode cX6_goAll 63 = .ok (.iload_n 1, 1) := by decide +kernel
theorem dX6_goAll_64 : decode cX6_goAll 64 = .ok (.imul, 1) := by decide +kernel
theorem dX6_goAll_65 : decode cX6_goAll 65 = .ok (.aload_n 0, 1) := by decide +kernel
theorem dX6_goAll_66 : decode cX6_goAll 66 = .ok (.getfield 83, 3) := by decide +kernel
theorem dX6_goAll_69 : decode cX6_goAll 69 = .ok (.iload_n 3, 1) := by decide +kernel
theorem dX6_goAll_70 : decode cX6_goAll 70 = .ok (.iaload, 1) := by decide +kernel
theorem dX6_goAll_71 : decode cX6_goAll 71 = .ok (.iadd, 1) := by decide +kernel
theorem dX6_goAll_72 : decode cX6_goAll 72 = .ok (.aload_n 0, 1) := by decide +kernel
theorem dX6_goAll_73 : decode cX6_goAll 73 = .ok (.getfield 86, 3) := by decide +kernel
theorem dX6_goAll_76 : decode cX6_goAll 76 = .ok (.iload_n 3, 1) := by decide +kernel
theorem dX6_goAll_77 : decode cX6_goAll 77 = .ok (.iaload, 1) := by decide +kernel
theorem dX6_goAll_78 : decode cX6_goAll 78 = .ok (.aload_n 0, 1) := by decide +kernel
theorem dX6_goAll_79 : decode cX6_goAll 79 = .ok (.getfield 89, 3) := by decide +kernel
theorem dX6_goAll_82 : decode cX6_goAll 82 = .ok (.iload_n 3, 1) := by decide +kernel
theorem dX6_goAll_83 : decode cX6_goAll 83 = .ok (.iaload, 1) := by decide +kernel
theorem dX6_goAll_84 : decode cX6_goAll 84 = .ok (.iload_n 3, 1) := by decide +kernel
theorem dX6_goAll_85 : decode cX6_goAll 85 = .ok (.invokevirtual 121, 3) := by decide +kernel
theorem dX6_goAll_88 : decode cX6_goAll 88 = .ok (.goto 32, 3) := by decide +kernel
theorem dX6_goAll_91 : decode cX6_goAll 91 = .ok (.aload_n 0, 1) := by decide +kernel
theorem dX6_goAll_92 : decode cX6_goAll 92 = .ok (.getfield 83, 3) := by decide +kernel
theorem dX6_goAll_95 : decode cX6_goAll 95 = .ok (.iload_n 3, 1) := by decide +kernel
theorem dX6_goAll_96 : decode cX6_goAll 96 = .ok (.iaload, 1) := by decide +kernel
theorem dX6_goAll_97 : decode cX6_goAll 97 = .ok (.iload_n 2, 1) := by decide +kernel
theorem dX6_goAll_98 : decode cX6_goAll 98 = .ok (.if_icmp .ne 22, 3) := by decide +kernel
theorem dX6_goAll_101 : decode cX6_goAll 101 = .ok (.aload_n 0, 1) := by decide +kernel
theorem dX6_goAll_102 : decode cX6_goAll 102 = .ok (.getfield 86, 3) := by decide +kernel
theorem dX6_goAll_105 : decode cX6_goAll 105 = .ok (.iload_n 3, 1) := by decide +kernel
theorem dX6_goAll_106 : decode cX6_goAll 106 = .ok (.iaload, 1) := by decide +kernel
theorem dX6_goAll_107 : decode cX6_goAll 107 = .ok (.iload 4, 2) := by decide +kernel
theorem dX6_goAll_109 : decode cX6_goAll 109 = .ok (.if_icmp .le 11, 3) := by decide +kernel
theorem dX6_goAll_112 : decode cX6_goAll 112 = .ok (.aload_n 0, 1) := by decide +kernel
theorem dX6_goAll_113 : decode cX6_goAll 113 = .ok (.getfield 86, 3) := by decide +kernel
theorem dX6_goAll_116 : decode cX6_goAll 116 = .ok (.iload_n 3, 1) := by decide +kernel
theorem dX6_goAll_117 : decode cX6_goAll 117 = .ok (.iaload, 1) := by decide +kernel
theorem dX6_goAll_118 : decode cX6_goAll 118 = .ok (.istore 4, 2) := by decide +kernel
theorem dX6_goAll_120 : decode cX6_goAll 120 = .ok (.aload_n 0, 1) := by decide +kernel
theorem dX6_goAll_121 : decode cX6_goAll 121 = .ok (.aload_n 0, 1) := by decide +kernel
theorem dX6_goAll_122 : decode cX6_goAll 122 = .ok (.getfield 83, 3) := by decide +kernel
theorem dX6_goAll_125 : decode cX6_goAll 125 = .ok (.iload_n 3, 1) := by decide +kernel
theorem dX6_goAll_126 : decode cX6_goAll 126 = .ok (.iaload, 1) := by decide +kernel
theorem dX6_goAll_127 : decode cX6_goAll 127 = .ok (.aload_n 0, 1) := by decide +kernel
theorem dX6_goAll_128 : decode cX6_goAll 128 = .ok (.getfield 92, 3) := by decide +kernel
theorem dX6_goAll_131 : decode cX6_goAll 131 = .ok (.iload_n 3, 1) := by decide +kernel
theorem dX6_goAll_132 : decode cX6_goAll 132 = .ok (.iaload, 1) := by decide +kernel
theorem dX6_goAll_133 : decode cX6_goAll 133 = .ok (.invokevirtual 125, 3) := by decide +kernel
theorem dX6_goAll_136 : decode cX6_goAll 136 = .ok (.istore 5, 2) := by decide +kernel
theorem dX6_goAll_138 : decode cX6_goAll 138 = .ok (.aload_n 0, 1) := by decide +kernel
theorem dX6_goAll_139 : decode cX6_goAll 139 = .ok (.getfield 92, 3) := by decide +kernel
theorem dX6_goAll_142 : decode cX6_goAll 142 = .ok (.iload_n 3, 1) := by decide +kernel
theorem dX6_goAll_143 : decode cX6_goAll 143 = .ok (.iload 5, 2) := by decide +kernel
theorem dX6_goAll_145 : decode cX6_goAll 145 = .ok (.iconst 1, 1) := by decide +kernel
theorem dX6_goAll_146 : decode cX6_goAll 146 = .ok (.iadd, 1) := by decide +kernel
theorem dX6_goAll_147 : decode cX6_goAll 147 = .ok (.iastore, 1) := by decide +kernel
theorem dX6_goAll_148 : decode cX6_goAll 148 = .ok (.iload 5, 2) := by decide +kernel
theorem dX6_goAll_150 : decode cX6_goAll 150 = .ok (.aload_n 0, 1) := by decide +kernel
theorem dX6_goAll_151 : decode cX6_goAll 151 = .ok (.getfield 118, 3) := by decide +kernel
theorem dX6_goAll_154 : decode cX6_goAll 154 = .ok (.if_icmp .ne 21, 3) := by decide +kernel
theorem dX6_goAll_157 : decode cX6_goAll 157 = .ok (.aload_n 0, 1) := by decide +kernel
theorem dX6_goAll_158 : decode cX6_goAll 158 = .ok (.getfield 95, 3) := by decide +kernel
theorem dX6_goAll_161 : decode cX6_goAll 161 = .ok (.aload_n 0, 1) := by decide +kernel
theorem dX6_goAll_162 : decode cX6_goAll 162 = .ok (.getfield 83, 3) := by decide +kernel
theorem dX6_goAll_165 : decode cX6_goAll 165 = .ok (.iload_n 3, 1) := by decide +kernel
theorem dX6_goAll_166 : decode cX6_goAll 166 = .ok (.iaload, 1) := by decide +kernel
theorem dX6_goAll_167 : decode cX6_goAll 167 = .ok (.iconst 0, 1) := by decide +kernel
theorem dX6_goAll_168 : decode cX6_goAll 168 = .ok (.bastore, 1) := by decide +kernel
theorem dX6_goAll_169 : decode cX6_goAll 169 = .ok (.iinc 3 (-1), 3) := by decide +kernel
theorem dX6_goAll_172 : decode cX6_goAll 172 = .ok (.goto 93, 3) := by decide +kernel
theorem dX6_goAll_175 : decode cX6_goAll 175 = .ok (.aload_n 0, 1) := by decide +kernel
theorem dX6_goAll_176 : decode cX6_goAll 176 = .ok (.getfield 80, 3) := by decide +kernel
theorem dX6_goAll_179 : decode cX6_goAll 179 = .ok (.iload_n 3, 1) := by decide +kernel
theorem dX6_goAll_180 : decode cX6_goAll 180 = .ok (.iload 5, 2) := by decide +kernel
theorem dX6_goAll_182 : decode cX6_goAll 182 = .ok (.iastore, 1) := by decide +kernel
theorem dX6_goAll_183 : decode cX6_goAll 183 = .ok (.iinc 3 1, 3) := by decide +kernel
theorem dX6_goAll_186 : decode cX6_goAll 186 = .ok (.aload_n 0, 1) := by decide +kernel
theorem dX6_goAll_187 : decode cX6_goAll 187 = .ok (.getfield 83, 3) := by decide +kernel
theorem dX6_goAll_190 : decode cX6_goAll 190 = .ok (.iload_n 3, 1) := by decide +kernel
theorem dX6_goAll_191 : decode cX6_goAll 191 = .ok (.aload_n 0, 1) := by decide +kernel
theorem dX6_goAll_192 : decode cX6_goAll 192 = .ok (.getfield 16, 3) := by decide +kernel
theorem dX6_goAll_195 : decode cX6_goAll 195 = .ok (.iload 5, 2) := by decide +kernel
theorem dX6_goAll_197 : decode cX6_goAll 197 = .ok (.iaload, 1) := by decide +kernel
theorem dX6_goAll_198 : decode cX6_goAll 198 = .ok (.iastore, 1) := by decide +kernel
theorem dX6_goAll_199 : decode cX6_goAll 199 = .ok (.aload_n 0, 1) := by decide +kernel
theorem dX6_goAll_200 : decode cX6_goAll 200 = .ok (.getfield 86, 3) := by decide +kernel
theorem dX6_goAll_203 : decode cX6_goAll 203 = .ok (.iload_n 3, 1) := by decide +kernel
theorem dX6_goAll_204 : decode cX6_goAll 204 = .ok (.aload_n 0, 1) := by decide +kernel
theorem dX6_goAll_205 : decode cX6_goAll 205 = .ok (.getfield 86, 3) := by decide +kernel
theorem dX6_goAll_208 : decode cX6_goAll 208 = .ok (.iload_n 3, 1) := by decide +kernel
theorem dX6_goAll_209 : decode cX6_goAll 209 = .ok (.iconst 1, 1) := by decide +kernel
theorem dX6_goAll_210 : decode cX6_goAll 210 = .ok (.isub, 1) := by decide +kernel
theorem dX6_goAll_211 : decode cX6_goAll 211 = .ok (.iaload, 1) := by decide +kernel
theorem dX6_goAll_212 : decode cX6_goAll 212 = .ok (.aload_n 0, 1) := by decide +kernel
theorem dX6_goAll_213 : decode cX6_goAll 213 = .ok (.getfield 19, 3) := by decide +kernel
theorem dX6_goAll_216 : decode cX6_goAll 216 = .ok (.iload 5, 2) := by decide +kernel
theorem dX6_goAll_218 : decode cX6_goAll 218 = .ok (.iaload, 1) := by decide +kernel
theorem dX6_goAll_219 : decode cX6_goAll 219 = .ok (.invokestatic 129, 3) := by decide +kernel
theorem dX6_goAll_222 : decode cX6_goAll 222 = .ok (.iastore, 1) := by decide +kernel
theorem dX6_goAll_223 : decode cX6_goAll 223 = .ok (.aload_n 0, 1) := by decide +kernel
theorem dX6_goAll_224 : decode cX6_goAll 224 = .ok (.getfield 89, 3) := by decide +kernel
theorem dX6_goAll_227 : decode cX6_goAll 227 = .ok (.iload_n 3, 1) := by decide +kernel
theorem dX6_goAll_228 : decode cX6_goAll 228 = .ok (.aload_n 0, 1) := by decide +kernel
theorem dX6_goAll_229 : decode cX6_goAll 229 = .ok (.getfield 89, 3) := by decide +kernel
theorem dX6_goAll_232 : decode cX6_goAll 232 = .ok (.iload_n 3, 1) := by decide +kernel
theorem dX6_goAll_233 : decode cX6_goAll 233 = .ok (.iconst 1, 1) := by decide +kernel
theorem dX6_goAll_234 : decode cX6_goAll 234 = .ok (.isub, 1) := by decide +kernel
theorem dX6_goAll_235 : decode cX6_goAll 235 = .ok (.iaload, 1) := by decide +kernel
theorem dX6_goAll_236 : decode cX6_goAll 236 = .ok (.aload_n 0, 1) := by decide +kernel
theorem dX6_goAll_237 : decode cX6_goAll 237 = .ok (.getfield 22, 3) := by decide +kernel
theorem dX6_goAll_240 : decode cX6_goAll 240 = .ok (.iload 5, 2) := by decide +kernel
theorem dX6_goAll_242 : decode cX6_goAll 242 = .ok (.iaload, 1) := by decide +kernel
theorem dX6_goAll_243 : decode cX6_goAll 243 = .ok (.iadd, 1) := by decide +kernel
theorem dX6_goAll_244 : decode cX6_goAll 244 = .ok (.iastore, 1) := by decide +kernel
theorem dX6_goAll_245 : decode cX6_goAll 245 = .ok (.aload_n 0, 1) := by decide +kernel
theorem dX6_goAll_246 : decode cX6_goAll 246 = .ok (.getfield 92, 3) := by decide +kernel
theorem dX6_goAll_249 : decode cX6_goAll 249 = .ok (.iload_n 3, 1) := by decide +kernel
theorem dX6_goAll_250 : decode cX6_goAll 250 = .ok (.iconst 0, 1) := by decide +kernel
theorem dX6_goAll_251 : decode cX6_goAll 251 = .ok (.iastore, 1) := by decide +kernel
theorem dX6_goAll_252 : decode cX6_goAll 252 = .ok (.aload_n 0, 1) := by decide +kernel
theorem dX6_goAll_253 : decode cX6_goAll 253 = .ok (.getfield 95, 3) := by decide +kernel
theorem dX6_goAll_256 : decode cX6_goAll 256 = .ok (.aload_n 0, 1) := by decide +kernel
theorem dX6_goAll_257 : decode cX6_goAll 257 = .ok (.getfield 16, 3) := by decide +kernel
theorem dX6_goAll_260 : decode cX6_goAll 260 = .ok (.iload 5, 2) := by decide +kernel
theorem dX6_goAll_262 : decode cX6_goAll 262 = .ok (.iaload, 1) := by decide +kernel
theorem dX6_goAll_263 : decode cX6_goAll 263 = .ok (.iconst 1, 1) := by decide +kernel
theorem dX6_goAll_264 : decode cX6_goAll 264 = .ok (.bastore, 1) := by decide +kernel
theorem dX6_goAll_265 : decode cX6_goAll 265 = .ok (.goto (-223), 3) := by decide +kernel
theorem dX6_goAll_268 : decode cX6_goAll 268 = .ok (.iload 4, 2) := by decide +kernel
theorem dX6_goAll_270 : decode cX6_goAll 270 = .ok (.ireturn, 1) := by decide +kernel
theorem dX6_find_0 : decode cX6_find 0 = .ok (.aload_n 0, 1) := by decide +kernel
theorem dX6_find_1 : decode cX6_find 1 = .ok (.getfield 132, 3) := by decide +kernel
theorem dX6_find_4 : decode cX6_find 4 = .ok (.ifCond .ne 68, 3) := by decide +kernel
theorem dX6_find_7 : decode cX6_find 7 = .ok (.iconst 0, 1) := by decide +kernel
theorem dX6_find_8 : decode cX6_find 8 = .ok (.istore_n 1, 1) := by decide +kernel
theorem dX6_find_9 : decode cX6_find 9 = .ok (.iload_n 1, 1) := by decide +kernel
theorem dX6_find_10 : decode cX6_find 10 = .ok (.bipush 100, 2) := by decide +kernel
theorem dX6_find_12 : decode cX6_find 12 = .ok (.if_icmp .ge 30, 3) := by decide +kernel
theorem dX6_find_15 : decode cX6_find 15 = .ok (.aload_n 0, 1) := by decide +kernel
theorem dX6_find_16 : decode cX6_find 16 = .ok (.getfield 68, 3) := by decide +kernel
theorem dX6_find_19 : decode cX6_find 19 = .ok (.iload_n 1, 1) := by decide +kernel
theorem dX6_find_20 : decode cX6_find 20 = .ok (.iconst (-1), 1) := by decide +kernel
theorem dX6_find_21 : decode cX6_find 21 = .ok (.iastore, 1) := by decide +kernel
theorem dX6_find_22 : decode cX6_find 22 = .ok (.aload_n 0, 1) := by decide +kernel
theorem dX6_find_23 : decode cX6_find 23 = .ok (.getfield 71, 3) := by decide +kernel
theorem dX6_find_26 : decode cX6_find 26 = .ok (.iload_n 1, 1) := by decide +kernel
theorem dX6_find_27 : decode cX6_find 27 = .ok (.iconst (-1), 1) := by decide +kernel
theorem dX6_find_28 : decode cX6_find 28 = .ok (.iastore, 1) := by decide +kernel
theorem dX6_find_29 : decode cX6_find 29 = .ok (.aload_n 0, 1) := by decide +kernel
theorem dX6_find_30 : decode cX6_find 30 = .ok (.getfield 74, 3) := by decide +kernel
theorem dX6_find_33 : decode cX6_find 33 = .ok (.iload_n 1, 1) := by decide +kernel
theorem dX6_find_34 : decode cX6_find 34 = .ok (.iconst 0, 1) := by decide +kernel
theorem dX6_find_35 : decode cX6_find 35 = .ok (.iastore, 1) := by decide +kernel
theorem dX6_find_36 : decode cX6_find 36 = .ok (.iinc 1 1, 3) := by decide +kernel
theorem dX6_find_39 : decode cX6_find 39 = .ok (.goto (-30), 3) := by decide +kernel
theorem dX6_find_42 : decode cX6_find 42 = .ok (.iconst 0, 1) := by decide +kernel
theorem dX6_find_43 : decode cX6_find 43 = .ok (.istore_n 1, 1) := by decide +kernel
theorem dX6_find_44 : decode cX6_find 44 = .ok (.iconst 0, 1) := by decide +kernel
theorem dX6_find_45 : decode cX6_find 45 = .ok (.istore_n 2, 1) := by decide +kernel
theorem dX6_find_46 : decode cX6_find 46 = .ok (.iload_n 2, 1) := by decide +kernel
theorem dX6_find_47 : decode cX6_find 47 = .ok (.bipush 10, 2) := by decide +kernel
theorem dX6_find_49 : decode cX6_find 49 = .ok (.if_icmp .ge 18, 3) := by decide +kernel
theorem dX6_find_52 : decode cX6_find 52 = .ok (.iload_n 1, 1) := by decide +kernel
theorem dX6_find_53 : decode cX6_find 53 = .ok (.aload_n 0, 1) := by decide +kernel
theorem dX6_find_54 : decode cX6_find 54 = .ok (.iload_n 2, 1) := by decide +kernel
theorem dX6_find_55 : decode cX6_find 55 = .ok (.iconst (-1), 1) := by decide +kernel
theorem dX6_find_56 : decode cX6_find 56 = .ok (.invokevirtual 136, 3) := by decide +kernel
theorem dX6_find_59 : decode cX6_find 59 = .ok (.iadd, 1) := by decide +kernel
theorem dX6_find_60 : decode cX6_find 60 = .ok (.istore_n 1, 1) := by decide +kernel
theorem dX6_find_61 : decode cX6_find 61 = .ok (.iinc 2 1, 3) := by decide +kernel
theorem dX6_find_64 : decode cX6_find 64 = .ok (.goto (-18), 3) := by decide +kernel
theorem dX6_find_67 : decode cX6_find 67 = .ok (.aload_n 0, 1) := by decide +kernel
theorem dX6_find_68 : decode cX6_find 68 = .ok (.iconst 1, 1) := by decide +kernel
theorem dX6_find_69 : decode cX6_find 69 = .ok (.putfield 132, 3) := by decide +kernel
theorem dX6_find_72 : decode cX6_find 72 = .ok (.return_, 1) := by decide +kernel
theorem dX6_along_0 : decode cX6_along 0 = .ok (.iload_n 2, 1) := by decide +kernel
theorem dX6_along_1 : decode cX6_along 1 = .ok (.istore_n 3, 1) := by decide +kernel
theorem dX6_along_2 : decode cX6_along 2 = .ok (.iconst 0, 1) := by decide +kernel
theorem dX6_along_3 : decode cX6_along 3 = .ok (.istore 4, 2) := by decide +kernel
theorem dX6_along_5 : decode cX6_along 5 = .ok (.iload 4, 2) := by decide +kernel
theorem dX6_along_7 : decode cX6_along 7 = .ok (.aload_n 0, 1) := by decide +kernel
theorem dX6_along_8 : decode cX6_along 8 = .ok (.getfield 74, 3) := by decide +kernel
theorem dX6_along_11 : decode cX6_along 11 = .ok (.iload_n 1, 1) := by decide +kernel
theorem dX6_along_12 : decode cX6_along 12 = .ok (.iaload, 1) := by decide +kernel
theorem dX6_along_13 : decode cX6_along 13 = .ok (.if_icmp .ge 31, 3) := by decide +kernel
theorem dX6_along_16 : decode cX6_along 16 = .ok (.iload_n 3, 1) := by decide +kernel
theorem dX6_along_17 : decode cX6_along 17 = .ok (.aload_n 0, 1) := by decide +kernel
theorem dX6_along_18 : decode cX6_along 18 = .ok (.getfield 19, 3) := by decide +kernel
theorem dX6_along_21 : decode cX6_along 21 = .ok (.aload_n 0, 1) := by decide +kernel
theorem dX6_along_22 : decode cX6_along 22 = .ok (.getfield 77, 3) := by decide +kernel
theorem dX6_along_25 : decode cX6_along 25 = .ok (.bipush 9, 2) := by decide +kernel
theorem dX6_along_27 : decode cX6_along 27 = .ok (.iload_n 1, 1) := by decide +kernel
theorem dX6_along_28 : decode cX6_along 28 = .ok (.imul, 1) := by decide +kernel
theorem dX6_along_29 : decode cX6_along 29 = .ok (.iload 4, 2) := by decide +kernel
theorem dX6_along_31 : decode cX6_along 31 = .ok (.iadd, 1) := by decide +kernel
theorem dX6_along_32 : decode cX6_along 32 = .ok (.iaload, 1) := by decide +kernel
theorem dX6_along_33 : decode cX6_along 33 = .ok (.iaload, 1) := by decide +kernel
theorem dX6_along_34 : decode cX6_along 34 = .ok (.invokestatic 129, 3) := by decide +kernel
theorem dX6_along_37 : decode cX6_along 37 = .ok (.istore_n 3, 1) := by decide +kernel
theorem dX6_along_38 : decode cX6_along 38 = .ok (.iinc 4 1, 3) := by decide +kernel
theorem dX6_along_41 : decode cX6_along 41 = .ok (.goto (-36), 3) := by decide +kernel
theorem dX6_along_44 : decode cX6_along 44 = .ok (.iload_n 3, 1) := by decide +kernel
theorem dX6_along_45 : decode cX6_along 45 = .ok (.ireturn, 1) := by decide +kernel
theorem dX6_isSafeIn_0 : decode cX6_isSafeIn 0 = .ok (.aload_n 0, 1) := by decide +kernel
theorem dX6_isSafeIn_1 : decode cX6_isSafeIn 1 = .ok (.getfield 7, 3) := by decide +kernel
theorem dX6_isSafeIn_4 : decode cX6_isSafeIn 4 = .ok (.iload_n 2, 1) := by decide +kernel
theorem dX6_isSafeIn_5 : decode cX6_isSafeIn 5 = .ok (.iaload, 1) := by decide +kernel
theorem dX6_isSafeIn_6 : decode cX6_isSafeIn 6 = .ok (.iconst (-1), 1) := by decide +kernel
theorem dX6_isSafeIn_7 : decode cX6_isSafeIn 7 = .ok (.if_icmp .eq 27, 3) := by decide +kernel
theorem dX6_isSafeIn_10 : decode cX6_isSafeIn 10 = .ok (.aload_n 0, 1) := by decide +kernel
theorem dX6_isSafeIn_11 : decode cX6_isSafeIn 11 = .ok (.getfield 59, 3) := by decide +kernel
theorem dX6_isSafeIn_14 : decode cX6_isSafeIn 14 = .ok (.iload_n 1, 1) := by decide +kernel
theorem dX6_isSafeIn_15 : decode cX6_isSafeIn 15 = .ok (.baload, 1) := by decide +kernel
theorem dX6_isSafeIn_16 : decode cX6_isSafeIn 16 = .ok (.ifCond .ne 22, 3) := by decide +kernel
theorem dX6_isSafeIn_19 : decode cX6_isSafeIn 19 = .ok (.aload_n 0, 1) := by decide +kernel
theorem dX6_isSafeIn_20 : decode cX6_isSafeIn 20 = .ok (.getfield 7, 3) := by decide +kernel
theorem dX6_isSafeIn_23 : decode cX6_isSafeIn 23 = .ok (.iload_n 2, 1) := by decide +kernel
theorem dX6_isSafeIn_24 : decode cX6_isSafeIn 24 = .ok (.iaload, 1) := by decide +kernel
theorem dX6_isSafeIn_25 : decode cX6_isSafeIn 25 = .ok (.aload_n 0, 1) := by decide +kernel
theorem dX6_isSafeIn_26 : decode cX6_isSafeIn 26 = .ok (.getfield 50, 3) := by decide +kernel
theorem dX6_isSafeIn_29 : decode cX6_isSafeIn 29 = .ok (.iload_n 1, 1) := by decide +kernel
theorem dX6_isSafeIn_30 : decode cX6_isSafeIn 30 = .ok (.iaload, 1) := by decide +kernel
theorem dX6_isSafeIn_31 : decode cX6_isSafeIn 31 = .ok (.if_icmp .lt 7, 3) := by decide +kernel
theorem dX6_isSafeIn_34 : decode cX6_isSafeIn 34 = .ok (.iconst 1, 1) := by decide +kernel
theorem dX6_isSafeIn_35 : decode cX6_isSafeIn 35 = .ok (.goto 4, 3) := by decide +kernel
theorem dX6_isSafeIn_38 : decode cX6_isSafeIn 38 = .ok (.iconst 0, 1) := by decide +kernel
theorem dX6_isSafeIn_39 : decode cX6_isSafeIn 39 = .ok (.ireturn, 1) := by decide +kernel
theorem dX6_havenOf_0 : decode cX6_havenOf 0 = .ok (.iconst (-1), 1) := by decide +kernel
theorem dX6_havenOf_1 : decode cX6_havenOf 1 = .ok (.istore_n 2, 1) := by decide +kernel
theorem dX6_havenOf_2 : decode cX6_havenOf 2 = .ok (.iconst (-1), 1) := by decide +kernel
theorem dX6_havenOf_3 : decode cX6_havenOf 3 = .ok (.istore_n 3, 1) := by decide +kernel
theorem dX6_havenOf_4 : decode cX6_havenOf 4 = .ok (.iconst 0, 1) := by decide +kernel
theorem dX6_havenOf_5 : decode cX6_havenOf 5 = .ok (.istore 4, 2) := by decide +kernel
theorem dX6_havenOf_7 : decode cX6_havenOf 7 = .ok (.iconst 0, 1) := by decide +kernel
theorem dX6_havenOf_8 : decode cX6_havenOf 8 = .ok (.istore 5, 2) := by decide +kernel
theorem dX6_havenOf_10 : decode cX6_havenOf 10 = .ok (.iload 5, 2) := by decide +kernel
theorem dX6_havenOf_12 : decode cX6_havenOf 12 = .ok (.bipush 10, 2) := by decide +kernel
theorem dX6_havenOf_14 : decode cX6_havenOf 14 = .ok (.if_icmp .ge 123, 3) := by decide +kernel
theorem dX6_havenOf_17 : decode cX6_havenOf 17 = .ok (.bipush 10, 2) := by decide +kernel
theorem dX6_havenOf_19 : decode cX6_havenOf 19 = .ok (.aload_n 0, 1) := by decide +kernel
theorem dX6_havenOf_20 : decode cX6_havenOf 20 = .ok (.getfield 38, 3) := by decide +kernel
theorem dX6_havenOf_23 : decode cX6_havenOf 23 = .ok (.iload_n 1, 1) := by decide +kernel
theorem dX6_havenOf_24 : decode cX6_havenOf 24 = .ok (.iaload, 1) := by decide +kernel
theorem dX6_havenOf_25 : decode cX6_havenOf 25 = .ok (.imul, 1) := by decide +kernel
theorem dX6_havenOf_26 : decode cX6_havenOf 26 = .ok (.iload 5, 2) := by decide +kernel
theorem dX6_havenOf_28 : decode cX6_havenOf 28 = .ok (.iadd, 1) := by decide +kernel
theorem dX6_havenOf_29 : decode cX6_havenOf 29 = .ok (.istore 6, 2) := by decide +kernel
theorem dX6_havenOf_31 : decode cX6_havenOf 31 = .ok (.aload_n 0, 1) := by decide +kernel
theorem dX6_havenOf_32 : decode cX6_havenOf 32 = .ok (.getfield 68, 3) := by decide +kernel
theorem dX6_havenOf_35 : decode cX6_havenOf 35 = .ok (.iload 6, 2) := by decide +kernel
theorem dX6_havenOf_37 : decode cX6_havenOf 37 = .ok (.iaload, 1) := by decide +kernel
theorem dX6_havenOf_38 : decode cX6_havenOf 38 = .ok (.iconst (-1), 1) := by decide +kernel
theorem dX6_havenOf_39 : decode cX6_havenOf 39 = .ok (.if_icmp .ne 7, 3) := by decide +kernel
theorem dX6_havenOf_42 : decode cX6_havenOf 42 = .ok (.iconst (-1), 1) := by decide +kernel
theorem dX6_havenOf_43 : decode cX6_havenOf 43 = .ok (.goto 15, 3) := by decide +kernel
theorem dX6_havenOf_46 : decode cX6_havenOf 46 = .ok (.aload_n 0, 1) := by decide +kernel
theorem dX6_havenOf_47 : decode cX6_havenOf 47 = .ok (.iload 6, 2) := by decide +kernel
theorem dX6_havenOf_49 : decode cX6_havenOf 49 = .ok (.aload_n 0, 1) := by decide +kernel
theorem dX6_havenOf_50 : decode cX6_havenOf 50 = .ok (.getfield 47, 3) := by decide +kernel
theorem dX6_havenOf_53 : decode cX6_havenOf 53 = .ok (.iload_n 1, 1) := by decide +kernel
theorem dX6_havenOf_54 : decode cX6_havenOf 54 = .ok (.iaload, 1) := by decide +kernel
theorem dX6_havenOf_55 : decode cX6_havenOf 55 = .ok (.invokevirtual 139, 3) := by decide +kernel
theorem dX6_havenOf_58 : decode cX6_havenOf 58 = .ok (.istore 7, 2) := by decide +kernel
theorem dX6_havenOf_60 : decode cX6_havenOf 60 = .ok (.iload 7, 2) := by decide +kernel
theorem dX6_havenOf_62 : decode cX6_havenOf 62 = .ok (.iconst (-1), 1) := by decide +kernel
theorem dX6_havenOf_63 : decode cX6_havenOf 63 = .ok (.if_icmp .eq 68, 3) := by decide +kernel
theorem dX6_havenOf_66 : decode cX6_havenOf 66 = .ok (.aload_n 0, 1) := by decide +kernel
theorem dX6_havenOf_67 : decode cX6_havenOf 67 = .ok (.iload_n 1, 1) := by decide +kernel
theorem dX6_havenOf_68 : decode cX6_havenOf 68 = .ok (.iload 5, 2) := by decide +kernel
theorem dX6_havenOf_70 : decode cX6_havenOf 70 = .ok (.invokevirtual 142, 3) := by decide +kernel
theorem dX6_havenOf_73 : decode cX6_havenOf 73 = .ok (.ifCond .eq 58, 3) := by decide +kernel
theorem dX6_havenOf_76 : decode cX6_havenOf 76 = .ok (.iload 7, 2) := by decide +kernel
theorem dX6_havenOf_78 : decode cX6_havenOf 78 = .ok (.aload_n 0, 1) := by decide +kernel
theorem dX6_havenOf_79 : decode cX6_havenOf 79 = .ok (.getfield 32, 3) := by decide +kernel
theorem dX6_havenOf_82 : decode cX6_havenOf 82 = .ok (.aload_n 0, 1) := by decide +kernel
theorem dX6_havenOf_83 : decode cX6_havenOf 83 = .ok (.getfield 44, 3) := by decide +kernel
theorem dX6_havenOf_86 : decode cX6_havenOf 86 = .ok (.iload_n 1, 1) := by decide +kernel
theorem dX6_havenOf_87 : decode cX6_havenOf 87 = .ok (.iaload, 1) := by decide +kernel
theorem dX6_havenOf_88 : decode cX6_havenOf 88 = .ok (.iaload, 1) := by decide +kernel
theorem dX6_havenOf_89 : decode cX6_havenOf 89 = .ok (.if_icmp .lt 42, 3) := by decide +kernel
theorem dX6_havenOf_92 : decode cX6_havenOf 92 = .ok (.iload 7, 2) := by decide +kernel
theorem dX6_havenOf_94 : decode cX6_havenOf 94 = .ok (.iload_n 3, 1) := by decide +kernel
theorem dX6_havenOf_95 : decode cX6_havenOf 95 = .ok (.if_icmp .gt 21, 3) := by decide +kernel
theorem dX6_havenOf_98 : decode cX6_havenOf 98 = .ok (.iload 7, 2) := by decide +kernel
theorem dX6_havenOf_100 : decode cX6_havenOf 100 = .ok (.iload_n 3, 1) := by decide +kernel
theorem dX6_havenOf_101 : decode cX6_havenOf 101 = .ok (.if_icmp .ne 30, 3) := by decide +kernel
theorem dX6_havenOf_104 : decode cX6_havenOf 104 = .ok (.aload_n 0, 1) := by decide +kernel
theorem dX6_havenOf_105 : decode cX6_havenOf 105 = .ok (.getfield 71, 3) := by decide +kernel
theorem dX6_havenOf_108 : decode cX6_havenOf 108 = .ok (.iload 6, 2) := by decide +kernel
theorem dX6_havenOf_110 : decode cX6_havenOf 110 = .ok (.iaload, 1) := by decide +kernel
theorem dX6_havenOf_111 : decode cX6_havenOf 111 = .ok (.iload 4, 2) := by decide +kernel
theorem dX6_havenOf_113 : decode cX6_havenOf 113 = .ok (.if_icmp .ge 18, 3) := by decide +kernel
theorem dX6_havenOf_116 : decode cX6_havenOf 116 = .ok (.iload 5, 2) := by decide +kernel
theorem dX6_havenOf_118 : decode cX6_havenOf 118 = .ok (.istore_n 2, 1) := by decide +kernel
theorem dX6_havenOf_119 : decode cX6_havenOf 119 = .ok (.iload 7, 2) := by decide +kernel
theorem dX6_havenOf_121 : decode cX6_havenOf 121 = .ok (.istore_n 3, 1) := by decide +kernel
theorem dX6_havenOf_122 : decode cX6_havenOf 122 = .ok (.aload_n 0, 1) := by decide +kernel
theorem dX6_havenOf_123 : decode cX6_havenOf 123 = .ok (.getfield 71, 3) := by decide +kernel
theorem dX6_havenOf_126 : decode cX6_havenOf 126 = .ok (.iload 6, 2) := by decide +kernel
theorem dX6_havenOf_128 : decode cX6_havenOf 128 = .ok (.iaload, 1) := by decide +kernel
theorem dX6_havenOf_129 : decode cX6_havenOf 129 = .ok (.istore 4, 2) := by decide +kernel
theorem dX6_havenOf_131 : decode cX6_havenOf 131 = .ok (.iinc 5 1, 3) := by decide +kernel
theorem dX6_havenOf_134 : decode cX6_havenOf 134 = .ok (.goto (-124), 3) := by decide +kernel
theorem dX6_havenOf_137 : decode cX6_havenOf 137 = .ok (.aload_n 0, 1) := by decide +kernel
theorem dX6_havenOf_138 : decode cX6_havenOf 138 = .ok (.getfield 56, 3) := by decide +kernel
theorem dX6_havenOf_141 : decode cX6_havenOf 141 = .ok (.iload_n 1, 1) := by decide +kernel
theorem dX6_havenOf_142 : decode cX6_havenOf 142 = .ok (.iaload, 1) := by decide +kernel
theorem dX6_havenOf_143 : decode cX6_havenOf 143 = .ok (.ifCond .ne 7, 3) := by decide +kernel
theorem dX6_havenOf_146 : decode cX6_havenOf 146 = .ok (.iload_n 2, 1) := by decide +kernel
theorem dX6_havenOf_147 : decode cX6_havenOf 147 = .ok (.goto 4, 3) := by decide +kernel
theorem dX6_havenOf_150 : decode cX6_havenOf 150 = .ok (.iconst (-1), 1) := by decide +kernel
theorem dX6_havenOf_151 : decode cX6_havenOf 151 = .ok (.ireturn, 1) := by decide +kernel
theorem dX6_affords_0 : decode cX6_affords 0 = .ok (.aload_n 0, 1) := by decide +kernel
theorem dX6_affords_1 : decode cX6_affords 1 = .ok (.getfield 41, 3) := by decide +kernel
theorem dX6_affords_4 : decode cX6_affords 4 = .ok (.iload_n 1, 1) := by decide +kernel
theorem dX6_affords_5 : decode cX6_affords 5 = .ok (.iaload, 1) := by decide +kernel
theorem dX6_affords_6 : decode cX6_affords 6 = .ok (.aload_n 0, 1) := by decide +kernel
theorem dX6_affords_7 : decode cX6_affords 7 = .ok (.getfield 71, 3) := by decide +kernel
theorem dX6_affords_10 : decode cX6_affords 10 = .ok (.bipush 10, 2) := by decide +kernel
theorem dX6_affords_12 : decode cX6_affords 12 = .ok (.aload_n 0, 1) := by decide +kernel
theorem dX6_affords_13 : decode cX6_affords 13 = .ok (.getfield 38, 3) := by decide +kernel
theorem dX6_affords_16 : decode cX6_affords 16 = .ok (.iload_n 1, 1) := by decide +kernel
theorem dX6_affords_17 : decode cX6_affords 17 = .ok (.iaload, 1) := by decide +kernel
theorem dX6_affords_18 : decode cX6_affords 18 = .ok (.imul, 1) := by decide +kernel
theorem dX6_affords_19 : decode cX6_affords 19 = .ok (.iload_n 2, 1) := by decide +kernel
theorem dX6_affords_20 : decode cX6_affords 20 = .ok (.iadd, 1) := by decide +kernel
theorem dX6_affords_21 : decode cX6_affords 21 = .ok (.iaload, 1) := by decide +kernel
theorem dX6_affords_22 : decode cX6_affords 22 = .ok (.imul, 1) := by decide +kernel
theorem dX6_affords_23 : decode cX6_affords 23 = .ok (.aload_n 0, 1) := by decide +kernel
theorem dX6_affords_24 : decode cX6_affords 24 = .ok (.getfield 102, 3) := by decide +kernel
theorem dX6_affords_27 : decode cX6_affords 27 = .ok (.if_icmp .gt 7, 3) := by decide +kernel
theorem dX6_affords_30 : decode cX6_affords 30 = .ok (.iconst 1, 1) := by decide +kernel
theorem dX6_affords_31 : decode cX6_affords 31 = .ok (.goto 4, 3) := by decide +kernel
theorem dX6_affords_34 : decode cX6_affords 34 = .ok (.iconst 0, 1) := by decide +kernel
theorem dX6_affords_35 : decode cX6_affords 35 = .ok (.ireturn, 1) := by decide +kernel
theorem dX6_take_0 : decode cX6_take 0 = .ok (.bipush 10, 2) := by decide +kernel
theorem dX6_take_2 : decode cX6_take 2 = .ok (.aload_n 0, 1) := by decide +kernel
theorem dX6_take_3 : decode cX6_take 3 = .ok (.getfield 38, 3) := by decide +kernel
theorem dX6_take_6 : decode cX6_take 6 = .ok (.iload_n 1, 1) := by decide +kernel
theorem dX6_take_7 : decode cX6_take 7 = .ok (.iaload, 1) := by decide +kernel
theorem dX6_take_8 : decode cX6_take 8 = .ok (.imul, 1) := by decide +kernel
theorem dX6_take_9 : decode cX6_take 9 = .ok (.iload_n 2, 1) := by decide +kernel
theorem dX6_take_10 : decode cX6_take 10 = .ok (.iadd, 1) := by decide +kernel
theorem dX6_take_11 : decode cX6_take 11 = .ok (.istore_n 3, 1) := by decide +kernel
theorem dX6_take_12 : decode cX6_take 12 = .ok (.aload_n 0, 1) := by decide +kernel
theorem dX6_take_13 : decode cX6_take 13 = .ok (.dup, 1) := by decide +kernel
theorem dX6_take_14 : decode cX6_take 14 = .ok (.getfield 102, 3) := by decide +kernel
theorem dX6_take_17 : decode cX6_take 17 = .ok (.aload_n 0, 1) := by decide +kernel
theorem dX6_take_18 : decode cX6_take 18 = .ok (.getfield 41, 3) := by decide +kernel
theorem dX6_take_21 : decode cX6_take 21 = .ok (.iload_n 1, 1) := by decide +kernel
theorem dX6_take_22 : decode cX6_take 22 = .ok (.iaload, 1) := by decide +kernel
theorem dX6_take_23 : decode cX6_take 23 = .ok (.aload_n 0, 1) := by decide +kernel
theorem dX6_take_24 : decode cX6_take 24 = .ok (.getfield 71, 3) := by decide +kernel
theorem dX6_take_27 : decode cX6_take 27 = .ok (.iload_n 3, 1) := by decide +kernel
theorem dX6_take_28 : decode cX6_take 28 = .ok (.iaload, 1) := by decide +kernel
theorem dX6_take_29 : decode cX6_take 29 = .ok (.imul, 1) := by decide +kernel
theorem dX6_take_30 : decode cX6_take 30 = .ok (.isub, 1) := by decide +kernel
theorem dX6_take_31 : decode cX6_take 31 = .ok (.putfield 102, 3) := by decide +kernel
theorem dX6_take_34 : decode cX6_take 34 = .ok (.aload_n 0, 1) := by decide +kernel
theorem dX6_take_35 : decode cX6_take 35 = .ok (.getfield 47, 3) := by decide +kernel
theorem dX6_take_38 : decode cX6_take 38 = .ok (.iload_n 1, 1) := by decide +kernel
theorem dX6_take_39 : decode cX6_take 39 = .ok (.aload_n 0, 1) := by decide +kernel
theorem dX6_take_40 : decode cX6_take 40 = .ok (.iload_n 3, 1) := by decide +kernel
theorem dX6_take_41 : decode cX6_take 41 = .ok (.aload_n 0, 1) := by decide +kernel
theorem dX6_take_42 : decode cX6_take 42 = .ok (.getfield 47, 3) := by decide +kernel
theorem dX6_take_45 : decode cX6_take 45 = .ok (.iload_n 1, 1) := by decide +kernel
theorem dX6_take_46 : decode cX6_take 46 = .ok (.iaload, 1) := by decide +kernel
theorem dX6_take_47 : decode cX6_take 47 = .ok (.invokevirtual 139, 3) := by decide +kernel
theorem dX6_take_50 : decode cX6_take 50 = .ok (.iastore, 1) := by decide +kernel
theorem dX6_take_51 : decode cX6_take 51 = .ok (.aload_n 0, 1) := by decide +kernel
theorem dX6_take_52 : decode cX6_take 52 = .ok (.getfield 38, 3) := by decide +kernel
theorem dX6_take_55 : decode cX6_take 55 = .ok (.iload_n 1, 1) := by decide +kernel
theorem dX6_take_56 : decode cX6_take 56 = .ok (.iload_n 2, 1) := by decide +kernel
theorem dX6_take_57 : decode cX6_take 57 = .ok (.iastore, 1) := by decide +kernel
theorem dX6_take_58 : decode cX6_take 58 = .ok (.return_, 1) := by decide +kernel
theorem dX6_setLast_0 : decode cX6_setLast 0 = .ok (.iload_n 1, 1) := by decide +kernel
theorem dX6_setLast_1 : decode cX6_setLast 1 = .ok (.invokestatic 146, 3) := by decide +kernel
theorem dX6_setLast_4 : decode cX6_setLast 4 = .ok (.ifCond .eq 9, 3) := by decide +kernel
theorem dX6_setLast_7 : decode cX6_setLast 7 = .ok (.aload_n 0, 1) := by decide +kernel
theorem dX6_setLast_8 : decode cX6_setLast 8 = .ok (.iconst 1, 1) := by decide +kernel
theorem dX6_setLast_9 : decode cX6_setLast 9 = .ok (.invokevirtual 150, 3) := by decide +kernel
theorem dX6_setLast_12 : decode cX6_setLast 12 = .ok (.ireturn, 1) := by decide +kernel
theorem dX6_setLast_13 : decode cX6_setLast 13 = .ok (.iload_n 2, 1) := by decide +kernel
theorem dX6_setLast_14 : decode cX6_setLast 14 = .ok (.iconst (-1), 1) := by decide +kernel
theorem dX6_setLast_15 : decode cX6_setLast 15 = .ok (.if_icmp .eq 23, 3) := by decide +kernel
theorem dX6_setLast_18 : decode cX6_setLast 18 = .ok (.iload_n 2, 1) := by decide +kernel
theorem dX6_setLast_19 : decode cX6_setLast 19 = .ok (.aload_n 0, 1) := by decide +kernel
theorem dX6_setLast_20 : decode cX6_setLast 20 = .ok (.getfield 115, 3) := by decide +kernel
theorem dX6_setLast_23 : decode cX6_setLast 23 = .ok (.sipush 1000, 3) := by decide +kernel
theorem dX6_setLast_26 : decode cX6_setLast 26 = .ok (.invokestatic 108, 3) := by decide +kernel
theorem dX6_setLast_29 : decode cX6_setLast 29 = .ok (.ifCond .ne 9, 3) := by decide +kernel
theorem dX6_setLast_32 : decode cX6_setLast 32 = .ok (.aload_n 0, 1) := by decide +kernel
theorem dX6_setLast_33 : decode cX6_setLast 33 = .ok (.iconst 2, 1) := by decide +kernel
theorem dX6_setLast_34 : decode cX6_setLast 34 = .ok (.invokevirtual 150, 3) := by decide +kernel
theorem dX6_setLast_37 : decode cX6_setLast 37 = .ok (.ireturn, 1) := by decide +kernel
theorem dX6_setLast_38 : decode cX6_setLast 38 = .ok (.aload_n 0, 1) := by decide +kernel
theorem dX6_setLast_39 : decode cX6_setLast 39 = .ok (.iload_n 1, 1) := by decide +kernel
theorem dX6_setLast_40 : decode cX6_setLast 40 = .ok (.invokevirtual 154, 3) := by decide +kernel
theorem dX6_setLast_43 : decode cX6_setLast 43 = .ok (.ifCond .ne 9, 3) := by decide +kernel
theorem dX6_setLast_46 : decode cX6_setLast 46 = .ok (.aload_n 0, 1) := by decide +kernel
theorem dX6_setLast_47 : decode cX6_setLast 47 = .ok (.iconst 3, 1) := by decide +kernel
theorem dX6_setLast_48 : decode cX6_setLast 48 = .ok (.invokevirtual 150, 3) := by decide +kernel
theorem dX6_setLast_51 : decode cX6_setLast 51 = .ok (.ireturn, 1) := by decide +kernel
theorem dX6_setLast_52 : decode cX6_setLast 52 = .ok (.aload_n 0, 1) := by decide +kernel
theorem dX6_setLast_53 : decode cX6_setLast 53 = .ok (.iconst 0, 1) := by decide +kernel
theorem dX6_setLast_54 : decode cX6_setLast 54 = .ok (.putfield 105, 3) := by decide +kernel
theorem dX6_setLast_57 : decode cX6_setLast 57 = .ok (.aload_n 0, 1) := by decide +kernel
theorem dX6_setLast_58 : decode cX6_setLast 58 = .ok (.getfield 7, 3) := by decide +kernel
theorem dX6_setLast_61 : decode cX6_setLast 61 = .ok (.iload_n 1, 1) := by decide +kernel
theorem dX6_setLast_62 : decode cX6_setLast 62 = .ok (.iaload, 1) := by decide +kernel
theorem dX6_setLast_63 : decode cX6_setLast 63 = .ok (.istore_n 3, 1) := by decide +kernel
theorem dX6_setLast_64 : decode cX6_setLast 64 = .ok (.aload_n 0, 1) := by decide +kernel
theorem dX6_setLast_65 : decode cX6_setLast 65 = .ok (.getfield 7, 3) := by decide +kernel
theorem dX6_setLast_68 : decode cX6_setLast 68 = .ok (.iload_n 1, 1) := by decide +kernel
theorem dX6_setLast_69 : decode cX6_setLast 69 = .ok (.iload_n 2, 1) := by decide +kernel
theorem dX6_setLast_70 : decode cX6_setLast 70 = .ok (.iastore, 1) := by decide +kernel
theorem dX6_setLast_71 : decode cX6_setLast 71 = .ok (.iload_n 3, 1) := by decide +kernel
theorem dX6_setLast_72 : decode cX6_setLast 72 = .ok (.ireturn, 1) := by decide +kernel
theorem dX6_converter_0 : decode cX6_converter 0 = .ok (.iload_n 1, 1) := by decide +kernel
theorem dX6_converter_1 : decode cX6_converter 1 = .ok (.invokestatic 146, 3) := by decide +kernel
theorem dX6_converter_4 : decode cX6_converter 4 = .ok (.ifCond .ne 10, 3) := by decide +kernel
theorem dX6_converter_7 : decode cX6_converter 7 = .ok (.iload_n 2, 1) := by decide +kernel
theorem dX6_converter_8 : decode cX6_converter 8 = .ok (.invokestatic 146, 3) := by decide +kernel
theorem dX6_converter_11 : decode cX6_converter 11 = .ok (.ifCond .eq 9, 3) := by decide +kernel
theorem dX6_converter_14 : decode cX6_converter 14 = .ok (.aload_n 0, 1) := by decide +kernel
theorem dX6_converter_15 : decode cX6_converter 15 = .ok (.iconst 1, 1) := by decide +kernel
theorem dX6_converter_16 : decode cX6_converter 16 = .ok (.invokevirtual 150, 3) := by decide +kernel
theorem dX6_converter_19 : decode cX6_converter 19 = .ok (.ireturn, 1) := by decide +kernel
theorem dX6_converter_20 : decode cX6_converter 20 = .ok (.iload_n 3, 1) := by decide +kernel
theorem dX6_converter_21 : decode cX6_converter 21 = .ok (.iconst 0, 1) := by decide +kernel
theorem dX6_converter_22 : decode cX6_converter 22 = .ok (.sipush 500, 3) := by decide +kernel
theorem dX6_converter_25 : decode cX6_converter 25 = .ok (.invokestatic 108, 3) := by decide +kernel
theorem dX6_converter_28 : decode cX6_converter 28 = .ok (.ifCond .eq 19, 3) := by decide +kernel
theorem dX6_converter_31 : decode cX6_converter 31 = .ok (.iload 4, 2) := by decide +kernel
theorem dX6_converter_33 : decode cX6_converter 33 = .ok (.iconst 0, 1) := by decide +kernel
theorem dX6_converter_34 : decode cX6_converter 34 = .ok (.bipush 100, 2) := by decide +kernel
theorem dX6_converter_36 : decode cX6_converter 36 = .ok (.invokestatic 108, 3) := by decide +kernel
theorem dX6_converter_39 : decode cX6_converter 39 = .ok (.ifCond .eq 8, 3) := by decide +kernel
theorem dX6_converter_42 : decode cX6_converter 42 = .ok (.iload_n 1, 1) := by decide +kernel
theorem dX6_converter_43 : decode cX6_converter 43 = .ok (.iload_n 2, 1) := by decide +kernel
theorem dX6_converter_44 : decode cX6_converter 44 = .ok (.if_icmp .ne 9, 3) := by decide +kernel
theorem dX6_converter_47 : decode cX6_converter 47 = .ok (.aload_n 0, 1) := by decide +kernel
theorem dX6_converter_48 : decode cX6_converter 48 = .ok (.iconst 2, 1) := by decide +kernel
theorem dX6_converter_49 : decode cX6_converter 49 = .ok (.invokevirtual 150, 3) := by decide +kernel
theorem dX6_converter_52 : decode cX6_converter 52 = .ok (.ireturn, 1) := by decide +kernel
theorem dX6_converter_53 : decode cX6_converter 53 = .ok (.aload_n 0, 1) := by decide +kernel
theorem dX6_converter_54 : decode cX6_converter 54 = .ok (.getfield 118, 3) := by decide +kernel
theorem dX6_converter_57 : decode cX6_converter 57 = .ok (.bipush 30, 2) := by decide +kernel
theorem dX6_converter_59 : decode cX6_converter 59 = .ok (.if_icmp .ne 9, 3) := by decide +kernel
theorem dX6_converter_62 : decode cX6_converter 62 = .ok (.aload_n 0, 1) := by decide +kernel
theorem dX6_converter_63 : decode cX6_converter 63 = .ok (.iconst 3, 1) := by decide +kernel
theorem dX6_converter_64 : decode cX6_converter 64 = .ok (.invokevirtual 150, 3) := by decide +kernel
theorem dX6_converter_67 : decode cX6_converter 67 = .ok (.ireturn, 1) := by decide +kernel
theorem dX6_converter_68 : decode cX6_converter 68 = .ok (.aload_n 0, 1) := by decide +kernel
theorem dX6_converter_69 : decode cX6_converter 69 = .ok (.iconst 0, 1) := by decide +kernel
theorem dX6_converter_70 : decode cX6_converter 70 = .ok (.putfield 105, 3) := by decide +kernel
theorem dX6_converter_73 : decode cX6_converter 73 = .ok (.aload_n 0, 1) := by decide +kernel
theorem dX6_converter_74 : decode cX6_converter 74 = .ok (.getfield 13, 3) := by decide +kernel
theorem dX6_converter_77 : decode cX6_converter 77 = .ok (.aload_n 0, 1) := by decide +kernel
theorem dX6_converter_78 : decode cX6_converter 78 = .ok (.getfield 118, 3) := by decide +kernel
theorem dX6_converter_81 : decode cX6_converter 81 = .ok (.iload_n 1, 1) := by decide +kernel
theorem dX6_converter_82 : decode cX6_converter 82 = .ok (.iastore, 1) := by decide +kernel
theorem dX6_converter_83 : decode cX6_converter 83 = .ok (.aload_n 0, 1) := by decide +kernel
theorem dX6_converter_84 : decode cX6_converter 84 = .ok (.getfield 16, 3) := by decide +kernel
theorem dX6_converter_87 : decode cX6_converter 87 = .ok (.aload_n 0, 1) := by decide +kernel
theorem dX6_converter_88 : decode cX6_converter 88 = .ok (.getfield 118, 3) := by decide +kernel
theorem dX6_converter_91 : decode cX6_converter 91 = .ok (.iload_n 2, 1) := by decide +kernel
theorem dX6_converter_92 : decode cX6_converter 92 = .ok (.iastore, 1) := by decide +kernel
theorem dX6_converter_93 : decode cX6_converter 93 = .ok (.aload_n 0, 1) := by decide +kernel
theorem dX6_converter_94 : decode cX6_converter 94 = .ok (.getfield 19, 3) := by decide +kernel
theorem dX6_converter_97 : decode cX6_converter 97 = .ok (.aload_n 0, 1) := by decide +kernel
theorem dX6_converter_98 : decode cX6_converter 98 = .ok (.getfield 118, 3) := by decide +kernel
theorem dX6_converter_101 : decode cX6_converter 101 = .ok (.iload_n 3, 1) := by decide +kernel
theorem dX6_converter_102 : decode cX6_converter 102 = .ok (.iastore, 1) := by decide +kernel
theorem dX6_converter_103 : decode cX6_converter 103 = .ok (.aload_n 0, 1) := by decide +kernel
theorem dX6_converter_104 : decode cX6_converter 104 = .ok (.getfield 22, 3) := by decide +kernel
theorem dX6_converter_107 : decode cX6_converter 107 = .ok (.aload_n 0, 1) := by decide +kernel
theorem dX6_converter_108 : decode cX6_converter 108 = .ok (.getfield 118, 3) := by decide +kernel
theorem dX6_converter_111 : decode cX6_converter 111 = .ok (.iload 4, 2) := by decide +kernel
theorem dX6_converter_113 : decode cX6_converter 113 = .ok (.iastore, 1) := by decide +kernel
theorem dX6_converter_114 : decode cX6_converter 114 = .ok (.aload_n 0, 1) := by decide +kernel
theorem dX6_converter_115 : decode cX6_converter 115 = .ok (.dup, 1) := by decide +kernel
theorem dX6_converter_116 : decode cX6_converter 116 = .ok (.getfield 118, 3) := by decide +kernel
theorem dX6_converter_119 : decode cX6_converter 119 = .ok (.iconst 1, 1) := by decide +kernel
theorem dX6_converter_120 : decode cX6_converter 120 = .ok (.iadd, 1) := by decide +kernel
theorem dX6_converter_121 : decode cX6_converter 121 = .ok (.putfield 118, 3) := by decide +kernel
theorem dX6_converter_124 : decode cX6_converter 124 = .ok (.aload_n 0, 1) := by decide +kernel
theorem dX6_converter_125 : decode cX6_converter 125 = .ok (.iconst 0, 1) := by decide +kernel
theorem dX6_converter_126 : decode cX6_converter 126 = .ok (.putfield 132, 3) := by decide +kernel
theorem dX6_converter_129 : decode cX6_converter 129 = .ok (.aload_n 0, 1) := by decide +kernel
theorem dX6_converter_130 : decode cX6_converter 130 = .ok (.getfield 118, 3) := by decide +kernel
theorem dX6_converter_133 : decode cX6_converter 133 = .ok (.iconst 1, 1) := by decide +kernel
theorem dX6_converter_134 : decode cX6_converter 134 = .ok (.isub, 1) := by decide +kernel
theorem dX6_converter_135 : decode cX6_converter 135 = .ok (.ireturn, 1) := by decide +kernel
theorem dX6_withdraw_0 : decode cX6_withdraw 0 = .ok (.iload_n 1, 1) := by decide +kernel
theorem dX6_withdraw_1 : decode cX6_withdraw 1 = .ok (.iconst 0, 1) := by decide +kernel
theorem dX6_withdraw_2 : decode cX6_withdraw 2 = .ok (.aload_n 0, 1) := by decide +kernel
theorem dX6_withdraw_3 : decode cX6_withdraw 3 = .ok (.getfield 118, 3) := by decide +kernel
theorem dX6_withdraw_6 : decode cX6_withdraw 6 = .ok (.iconst 1, 1) := by decide +kernel
theorem dX6_withdraw_7 : decode cX6_withdraw 7 = .ok (.isub, 1) := by decide +kernel
theorem dX6_withdraw_8 : decode cX6_withdraw 8 = .ok (.invokestatic 108, 3) := by decide +kernel
theorem dX6_withdraw_11 : decode cX6_withdraw 11 = .ok (.ifCond .ne 9, 3) := by decide +kernel
theorem dX6_withdraw_14 : decode cX6_withdraw 14 = .ok (.aload_n 0, 1) := by decide +kernel
theorem dX6_withdraw_15 : decode cX6_withdraw 15 = .ok (.iconst 1, 1) := by decide +kernel
theorem dX6_withdraw_16 : decode cX6_withdraw 16 = .ok (.invokevirtual 150, 3) := by decide +kernel
theorem dX6_withdraw_19 : decode cX6_withdraw 19 = .ok (.ireturn, 1) := by decide +kernel
theorem dX6_withdraw_20 : decode cX6_withdraw 20 = .ok (.aload_n 0, 1) := by decide +kernel
theorem dX6_withdraw_21 : decode cX6_withdraw 21 = .ok (.getfield 25, 3) := by decide +kernel
theorem dX6_withdraw_24 : decode cX6_withdraw 24 = .ok (.iload_n 1, 1) := by decide +kernel
theorem dX6_withdraw_25 : decode cX6_withdraw 25 = .ok (.baload, 1) := by decide +kernel
theorem dX6_withdraw_26 : decode cX6_withdraw 26 = .ok (.ifCond .eq 9, 3) := by decide +kernel
theorem dX6_withdraw_29 : decode cX6_withdraw 29 = .ok (.aload_n 0, 1) := by decide +kernel
theorem dX6_withdraw_30 : decode cX6_withdraw 30 = .ok (.iconst 2, 1) := by decide +kernel
theorem dX6_withdraw_31 : decode cX6_withdraw 31 = .ok (.invokevirtual 150, 3) := by decide +kernel
theorem dX6_withdraw_34 : decode cX6_withdraw 34 = .ok (.ireturn, 1) := by decide +kernel
theorem dX6_withdraw_35 : decode cX6_withdraw 35 = .ok (.aload_n 0, 1) := by decide +kernel
theorem dX6_withdraw_36 : decode cX6_withdraw 36 = .ok (.iconst 0, 1) := by decide +kernel
theorem dX6_withdraw_37 : decode cX6_withdraw 37 = .ok (.putfield 105, 3) := by decide +kernel
theorem dX6_withdraw_40 : decode cX6_withdraw 40 = .ok (.aload_n 0, 1) := by decide +kernel
theorem dX6_withdraw_41 : decode cX6_withdraw 41 = .ok (.invokevirtual 157, 3) := by decide +kernel
theorem dX6_withdraw_44 : decode cX6_withdraw 44 = .ok (.iconst 0, 1) := by decide +kernel
theorem dX6_withdraw_45 : decode cX6_withdraw 45 = .ok (.istore_n 2, 1) := by decide +kernel
theorem dX6_withdraw_46 : decode cX6_withdraw 46 = .ok (.iload_n 2, 1) := by decide +kernel
theorem dX6_withdraw_47 : decode cX6_withdraw 47 = .ok (.aload_n 0, 1) := by decide +kernel
theorem dX6_withdraw_48 : decode cX6_withdraw 48 = .ok (.getfield 112, 3) := by decide +kernel
theorem dX6_withdraw_51 : decode cX6_withdraw 51 = .ok (.if_icmp .ge 29, 3) := by decide +kernel
theorem dX6_withdraw_54 : decode cX6_withdraw 54 = .ok (.aload_n 0, 1) := by decide +kernel
theorem dX6_withdraw_55 : decode cX6_withdraw 55 = .ok (.getfield 62, 3) := by decide +kernel
theorem dX6_withdraw_58 : decode cX6_withdraw 58 = .ok (.iload_n 2, 1) := by decide +kernel
theorem dX6_withdraw_59 : decode cX6_withdraw 59 = .ok (.aload_n 0, 1) := by decide +kernel
theorem dX6_withdraw_60 : decode cX6_withdraw 60 = .ok (.iload_n 2, 1) := by decide +kernel
theorem dX6_withdraw_61 : decode cX6_withdraw 61 = .ok (.invokevirtual 160, 3) := by decide +kernel
theorem dX6_withdraw_64 : decode cX6_withdraw 64 = .ok (.iconst (-1), 1) := by decide +kernel
theorem dX6_withdraw_65 : decode cX6_withdraw 65 = .ok (.if_icmp .eq 7, 3) := by decide +kernel
theorem dX6_withdraw_68 : decode cX6_withdraw 68 = .ok (.iconst 1, 1) := by decide +kernel
theorem dX6_withdraw_69 : decode cX6_withdraw 69 = .ok (.goto 4, 3) := by decide +kernel
theorem dX6_withdraw_72 : decode cX6_withdraw 72 = .ok (.iconst 0, 1) := by decide +kernel
theorem dX6_withdraw_73 : decode cX6_withdraw 73 = .ok (.bastore, 1) := by decide +kernel
theorem dX6_withdraw_74 : decode cX6_withdraw 74 = .ok (.iinc 2 1, 3) := by decide +kernel
theorem dX6_withdraw_77 : decode cX6_withdraw 77 = .ok (.goto (-31), 3) := by decide +kernel
theorem dX6_withdraw_80 : decode cX6_withdraw 80 = .ok (.aload_n 0, 1) := by decide +kernel
theorem dX6_withdraw_81 : decode cX6_withdraw 81 = .ok (.getfield 25, 3) := by decide +kernel
theorem dX6_withdraw_84 : decode cX6_withdraw 84 = .ok (.iload_n 1, 1) := by decide +kernel
theorem dX6_withdraw_85 : decode cX6_withdraw 85 = .ok (.iconst 1, 1) := by decide +kernel
theorem dX6_withdraw_86 : decode cX6_withdraw 86 = .ok (.bastore, 1) := by decide +kernel
theorem dX6_withdraw_87 : decode cX6_withdraw 87 = .ok (.aload_n 0, 1) := by decide +kernel
theorem dX6_withdraw_88 : decode cX6_withdraw 88 = .ok (.iconst 0, 1) := by decide +kernel
theorem dX6_withdraw_89 : decode cX6_withdraw 89 = .ok (.putfield 132, 3) := by decide +kernel
theorem dX6_withdraw_92 : decode cX6_withdraw 92 = .ok (.aload_n 0, 1) := by decide +kernel
theorem dX6_withdraw_93 : decode cX6_withdraw 93 = .ok (.invokevirtual 157, 3) := by decide +kernel
theorem dX6_withdraw_96 : decode cX6_withdraw 96 = .ok (.iconst 0, 1) := by decide +kernel
theorem dX6_withdraw_97 : decode cX6_withdraw 97 = .ok (.istore_n 2, 1) := by decide +kernel
theorem dX6_withdraw_98 : decode cX6_withdraw 98 = .ok (.iconst 0, 1) := by decide +kernel
theorem dX6_withdraw_99 : decode cX6_withdraw 99 = .ok (.istore_n 3, 1) := by decide +kernel
theorem dX6_withdraw_100 : decode cX6_withdraw 100 = .ok (.iload_n 3, 1) := by decide +kernel
theorem dX6_withdraw_101 : decode cX6_withdraw 101 = .ok (.aload_n 0, 1) := by decide +kernel
theorem dX6_withdraw_102 : decode cX6_withdraw 102 = .ok (.getfield 112, 3) := by decide +kernel
theorem dX6_withdraw_105 : decode cX6_withdraw 105 = .ok (.if_icmp .ge 35, 3) := by decide +kernel
theorem dX6_withdraw_108 : decode cX6_withdraw 108 = .ok (.iload_n 2, 1) := by decide +kernel
theorem dX6_withdraw_109 : decode cX6_withdraw 109 = .ok (.aload_n 0, 1) := by decide +kernel
theorem dX6_withdraw_110 : decode cX6_withdraw 110 = .ok (.getfield 62, 3) := by decide +kernel
theorem dX6_withdraw_113 : decode cX6_withdraw 113 = .ok (.iload_n 3, 1) := by decide +kernel
theorem dX6_withdraw_114 : decode cX6_withdraw 114 = .ok (.baload, 1) := by decide +kernel
theorem dX6_withdraw_115 : decode cX6_withdraw 115 = .ok (.ifCond .eq 16, 3) := by decide +kernel
theorem dX6_withdraw_118 : decode cX6_withdraw 118 = .ok (.aload_n 0, 1) := by decide +kernel
theorem dX6_withdraw_119 : decode cX6_withdraw 119 = .ok (.iload_n 3, 1) := by decide +kernel
theorem dX6_withdraw_120 : decode cX6_withdraw 120 = .ok (.invokevirtual 160, 3) := by decide +kernel
theorem dX6_withdraw_123 : decode cX6_withdraw 123 = .ok (.iconst (-1), 1) := by decide +kernel
theorem dX6_withdraw_124 : decode cX6_withdraw 124 = .ok (.if_icmp .ne 7, 3) := by decide +kernel
theorem dX6_withdraw_127 : decode cX6_withdraw 127 = .ok (.iconst 1, 1) := by decide +kernel
theorem dX6_withdraw_128 : decode cX6_withdraw 128 = .ok (.goto 4, 3) := by decide +kernel
theorem dX6_withdraw_131 : decode cX6_withdraw 131 = .ok (.iconst 0, 1) := by decide +kernel
theorem dX6_withdraw_132 : decode cX6_withdraw 132 = .ok (.iadd, 1) := by decide +kernel
theorem dX6_withdraw_133 : decode cX6_withdraw 133 = .ok (.istore_n 2, 1) := by decide +kernel
theorem dX6_withdraw_134 : decode cX6_withdraw 134 = .ok (.iinc 3 1, 3) := by decide +kernel
theorem dX6_withdraw_137 : decode cX6_withdraw 137 = .ok (.goto (-37), 3) := by decide +kernel
theorem dX6_withdraw_140 : decode cX6_withdraw 140 = .ok (.iload_n 2, 1) := by decide +kernel
theorem dX6_withdraw_141 : decode cX6_withdraw 141 = .ok (.ireturn, 1) := by decide +kernel
theorem dX6_law_0 : decode cX6_law 0 = .ok (.iload_n 1, 1) := by decide +kernel
theorem dX6_law_1 : decode cX6_law 1 = .ok (.iconst 0, 1) := by decide +kernel
theorem dX6_law_2 : decode cX6_law 2 = .ok (.iconst 4, 1) := by decide +kernel
theorem dX6_law_3 : decode cX6_law 3 = .ok (.invokestatic 108, 3) := by decide +kernel
theorem dX6_law_6 : decode cX6_law 6 = .ok (.ifCond .ne 11, 3) := by decide +kernel
theorem dX6_law_9 : decode cX6_law 9 = .ok (.aload_n 0, 1) := by decide +kernel
theorem dX6_law_10 : decode cX6_law 10 = .ok (.iconst 1, 1) := by decide +kernel
theorem dX6_law_11 : decode cX6_law 11 = .ok (.putfield 105, 3) := by decide +kernel
theorem dX6_law_14 : decode cX6_law 14 = .ok (.goto 70, 3) := by decide +kernel
theorem dX6_law_17 : decode cX6_law 17 = .ok (.iload_n 2, 1) := by decide +kernel
theorem dX6_law_18 : decode cX6_law 18 = .ok (.iconst 1, 1) := by decide +kernel
theorem dX6_law_19 : decode cX6_law 19 = .ok (.bipush 100, 2) := by decide +kernel
theorem dX6_law_21 : decode cX6_law 21 = .ok (.invokestatic 108, 3) := by decide +kernel
theorem dX6_law_24 : decode cX6_law 24 = .ok (.ifCond .eq 25, 3) := by decide +kernel
theorem dX6_law_27 : decode cX6_law 27 = .ok (.iload_n 3, 1) := by decide +kernel
theorem dX6_law_28 : decode cX6_law 28 = .ok (.iconst 0, 1) := by decide +kernel
theorem dX6_law_29 : decode cX6_law 29 = .ok (.sipush 1000, 3) := by decide +kernel
theorem dX6_law_32 : decode cX6_law 32 = .ok (.invokestatic 108, 3) := by decide +kernel
theorem dX6_law_35 : decode cX6_law 35 = .ok (.ifCond .eq 14, 3) := by decide +kernel
theorem dX6_law_38 : decode cX6_law 38 = .ok (.iload 4, 2) := by decide +kernel
theorem dX6_law_40 : decode cX6_law 40 = .ok (.iconst 1, 1) := by decide +kernel
theorem dX6_law_41 : decode cX6_law 41 = .ok (.bipush 50, 2) := by decide +kernel
theorem dX6_law_43 : decode cX6_law 43 = .ok (.invokestatic 108, 3) := by decide +kernel
theorem dX6_law_46 : decode cX6_law 46 = .ok (.ifCond .ne 11, 3) := by decide +kernel
theorem dX6_law_49 : decode cX6_law 49 = .ok (.aload_n 0, 1) := by decide +kernel
theorem dX6_law_50 : decode cX6_law 50 = .ok (.iconst 2, 1) := by decide +kernel
theorem dX6_law_51 : decode cX6_law 51 = .ok (.putfield 105, 3) := by decide +kernel
theorem dX6_law_54 : decode cX6_law 54 = .ok (.goto 30, 3) := by decide +kernel
theorem dX6_law_57 : decode cX6_law 57 = .ok (.aload_n 0, 1) := by decide +kernel
theorem dX6_law_58 : decode cX6_law 58 = .ok (.iconst 0, 1) := by decide +kernel
theorem dX6_law_59 : decode cX6_law 59 = .ok (.putfield 105, 3) := by decide +kernel
theorem dX6_law_62 : decode cX6_law 62 = .ok (.aload_n 0, 1) := by decide +kernel
theorem dX6_law_63 : decode cX6_law 63 = .ok (.getfield 29, 3) := by decide +kernel
theorem dX6_law_66 : decode cX6_law 66 = .ok (.iload_n 1, 1) := by decide +kernel
theorem dX6_law_67 : decode cX6_law 67 = .ok (.iload_n 2, 1) := by decide +kernel
theorem dX6_law_68 : decode cX6_law 68 = .ok (.iastore, 1) := by decide +kernel
theorem dX6_law_69 : decode cX6_law 69 = .ok (.aload_n 0, 1) := by decide +kernel
theorem dX6_law_70 : decode cX6_law 70 = .ok (.getfield 32, 3) := by decide +kernel
theorem dX6_law_73 : decode cX6_law 73 = .ok (.iload_n 1, 1) := by decide +kernel
theorem dX6_law_74 : decode cX6_law 74 = .ok (.iload_n 3, 1) := by decide +kernel
theorem dX6_law_75 : decode cX6_law 75 = .ok (.iastore, 1) := by decide +kernel
theorem dX6_law_76 : decode cX6_law 76 = .ok (.aload_n 0, 1) := by decide +kernel
theorem dX6_law_77 : decode cX6_law 77 = .ok (.getfield 35, 3) := by decide +kernel
theorem dX6_law_80 : decode cX6_law 80 = .ok (.iload_n 1, 1) := by decide +kernel
theorem dX6_law_81 : decode cX6_law 81 = .ok (.iload 4, 2) := by decide +kernel
theorem dX6_law_83 : decode cX6_law 83 = .ok (.iastore, 1) := by decide +kernel
theorem dX6_law_84 : decode cX6_law 84 = .ok (.return_, 1) := by decide +kernel
theorem dX6_quality_0 : decode cX6_quality 0 = .ok (.iload_n 1, 1) := by decide +kernel
theorem dX6_quality_1 : decode cX6_quality 1 = .ok (.invokestatic 146, 3) := by decide +kernel
theorem dX6_quality_4 : decode cX6_quality 4 = .ok (.ifCond .ne 10, 3) := by decide +kernel
theorem dX6_quality_7 : decode cX6_quality 7 = .ok (.iload_n 2, 1) := by decide +kernel
theorem dX6_quality_8 : decode cX6_quality 8 = .ok (.invokestatic 146, 3) := by decide +kernel
theorem dX6_quality_11 : decode cX6_quality 11 = .ok (.ifCond .eq 9, 3) := by decide +kernel
theorem dX6_quality_14 : decode cX6_quality 14 = .ok (.aload_n 0, 1) := by decide +kernel
theorem dX6_quality_15 : decode cX6_quality 15 = .ok (.iconst 1, 1) := by decide +kernel
theorem dX6_quality_16 : decode cX6_quality 16 = .ok (.invokevirtual 150, 3) := by decide +kernel
theorem dX6_quality_19 : decode cX6_quality 19 = .ok (.ireturn, 1) := by decide +kernel
theorem dX6_quality_20 : decode cX6_quality 20 = .ok (.aload_n 0, 1) := by decide +kernel
theorem dX6_quality_21 : decode cX6_quality 21 = .ok (.iconst 0, 1) := by decide +kernel
theorem dX6_quality_22 : decode cX6_quality 22 = .ok (.putfield 105, 3) := by decide +kernel
theorem dX6_quality_25 : decode cX6_quality 25 = .ok (.aload_n 0, 1) := by decide +kernel
theorem dX6_quality_26 : decode cX6_quality 26 = .ok (.invokevirtual 157, 3) := by decide +kernel
theorem dX6_quality_29 : decode cX6_quality 29 = .ok (.aload_n 0, 1) := by decide +kernel
theorem dX6_quality_30 : decode cX6_quality 30 = .ok (.getfield 68, 3) := by decide +kernel
theorem dX6_quality_33 : decode cX6_quality 33 = .ok (.bipush 10, 2) := by decide +kernel
theorem dX6_quality_35 : decode cX6_quality 35 = .ok (.iload_n 1, 1) := by decide +kernel
theorem dX6_quality_36 : decode cX6_quality 36 = .ok (.imul, 1) := by decide +kernel
theorem dX6_quality_37 : decode cX6_quality 37 = .ok (.iload_n 2, 1) := by decide +kernel
theorem dX6_quality_38 : decode cX6_quality 38 = .ok (.iadd, 1) := by decide +kernel
theorem dX6_quality_39 : decode cX6_quality 39 = .ok (.iaload, 1) := by decide +kernel
theorem dX6_quality_40 : decode cX6_quality 40 = .ok (.ireturn, 1) := by decide +kernel
theorem dX6_qualityByAll_0 : decode cX6_qualityByAll 0 = .ok (.iload_n 1, 1) := by decide +kernel
theorem dX6_qualityByAll_1 : decode cX6_qualityByAll 1 = .ok (.invokestatic 146, 3) := by decide +kernel
theorem dX6_qualityByAll_4 : decode cX6_qualityByAll 4 = .ok (.ifCond .ne 10, 3) := by decide +kernel
theorem dX6_qualityByAll_7 : decode cX6_qualityByAll 7 = .ok (.iload_n 2, 1) := by decide +kernel
theorem dX6_qualityByAll_8 : decode cX6_qualityByAll 8 = .ok (.invokestatic 146, 3) := by decide +kernel
theorem dX6_qualityByAll_11 : decode cX6_qualityByAll 11 = .ok (.ifCond .eq 9, 3) := by decide +kernel
theorem dX6_qualityByAll_14 : decode cX6_qualityByAll 14 = .ok (.aload_n 0, 1) := by decide +kernel
theorem dX6_qualityByAll_15 : decode cX6_qualityByAll 15 = .ok (.iconst 1, 1) := by decide +kernel
theorem dX6_qualityByAll_16 : decode cX6_qualityByAll 16 = .ok (.invokevirtual 150, 3) := by decide +kernel
theorem dX6_qualityByAll_19 : decode cX6_qualityByAll 19 = .ok (.ireturn, 1) := by decide +kernel
theorem dX6_qualityByAll_20 : decode cX6_qualityByAll 20 = .ok (.aload_n 0, 1) := by decide +kernel
theorem dX6_qualityByAll_21 : decode cX6_qualityByAll 21 = .ok (.iconst 0, 1) := by decide +kernel
theorem dX6_qualityByAll_22 : decode cX6_qualityByAll 22 = .ok (.putfield 105, 3) := by decide +kernel
theorem dX6_qualityByAll_25 : decode cX6_qualityByAll 25 = .ok (.aload_n 0, 1) := by decide +kernel
theorem dX6_qualityByAll_26 : decode cX6_qualityByAll 26 = .ok (.iload_n 1, 1) := by decide +kernel
theorem dX6_qualityByAll_27 : decode cX6_qualityByAll 27 = .ok (.iload_n 2, 1) := by decide +kernel
theorem dX6_qualityByAll_28 : decode cX6_qualityByAll 28 = .ok (.invokevirtual 136, 3) := by decide +kernel
theorem dX6_qualityByAll_31 : decode cX6_qualityByAll 31 = .ok (.ireturn, 1) := by decide +kernel
theorem dX6_cost_0 : decode cX6_cost 0 = .ok (.iload_n 1, 1) := by decide +kernel
theorem dX6_cost_1 : decode cX6_cost 1 = .ok (.invokestatic 146, 3) := by decide +kernel
theorem dX6_cost_4 : decode cX6_cost 4 = .ok (.ifCond .ne 10, 3) := by decide +kernel
theorem dX6_cost_7 : decode cX6_cost 7 = .ok (.iload_n 2, 1) := by decide +kernel
theorem dX6_cost_8 : decode cX6_cost 8 = .ok (.invokestatic 146, 3) := by decide +kernel
theorem dX6_cost_11 : decode cX6_cost 11 = .ok (.ifCond .eq 9, 3) := by decide +kernel
theorem dX6_cost_14 : decode cX6_cost 14 = .ok (.aload_n 0, 1) := by decide +kernel
theorem dX6_cost_15 : decode cX6_cost 15 = .ok (.iconst 1, 1) := by decide +kernel
theorem dX6_cost_16 : decode cX6_cost 16 = .ok (.invokevirtual 150, 3) := by decide +kernel
theorem dX6_cost_19 : decode cX6_cost 19 = .ok (.ireturn, 1) := by decide +kernel
theorem dX6_cost_20 : decode cX6_cost 20 = .ok (.aload_n 0, 1) := by decide +kernel
theorem dX6_cost_21 : decode cX6_cost 21 = .ok (.iconst 0, 1) := by decide +kernel
theorem dX6_cost_22 : decode cX6_cost 22 = .ok (.putfield 105, 3) := by decide +kernel
theorem dX6_cost_25 : decode cX6_cost 25 = .ok (.aload_n 0, 1) := by decide +kernel
theorem dX6_cost_26 : decode cX6_cost 26 = .ok (.invokevirtual 157, 3) := by decide +kernel
theorem dX6_cost_29 : decode cX6_cost 29 = .ok (.aload_n 0, 1) := by decide +kernel
theorem dX6_cost_30 : decode cX6_cost 30 = .ok (.getfield 71, 3) := by decide +kernel
theorem dX6_cost_33 : decode cX6_cost 33 = .ok (.bipush 10, 2) := by decide +kernel
theorem dX6_cost_35 : decode cX6_cost 35 = .ok (.iload_n 1, 1) := by decide +kernel
theorem dX6_cost_36 : decode cX6_cost 36 = .ok (.imul, 1) := by decide +kernel
theorem dX6_cost_37 : decode cX6_cost 37 = .ok (.iload_n 2, 1) := by decide +kernel
theorem dX6_cost_38 : decode cX6_cost 38 = .ok (.iadd, 1) := by decide +kernel
theorem dX6_cost_39 : decode cX6_cost 39 = .ok (.iaload, 1) := by decide +kernel
theorem dX6_cost_40 : decode cX6_cost 40 = .ok (.ireturn, 1) := by decide +kernel
theorem dX6_stepAt_0 : decode cX6_stepAt 0 = .ok (.iload_n 1, 1) := by decide +kernel
theorem dX6_stepAt_1 : decode cX6_stepAt 1 = .ok (.invokestatic 146, 3) := by decide +kernel
theorem dX6_stepAt_4 : decode cX6_stepAt 4 = .ok (.ifCond .ne 14, 3) := by decide +kernel
theorem dX6_stepAt_7 : decode cX6_stepAt 7 = .ok (.iload_n 2, 1) := by decide +kernel
theorem dX6_stepAt_8 : decode cX6_stepAt 8 = .ok (.invokestatic 146, 3) := by decide +kernel
theorem dX6_stepAt_11 : decode cX6_stepAt 11 = .ok (.ifCond .ne 7, 3) := by decide +kernel
theorem dX6_stepAt_14 : decode cX6_stepAt 14 = .ok (.iload_n 3, 1) := by decide +kernel
theorem dX6_stepAt_15 : decode cX6_stepAt 15 = .ok (.ifCond .ge 9, 3) := by decide +kernel
theorem dX6_stepAt_18 : decode cX6_stepAt 18 = .ok (.aload_n 0, 1) := by decide +kernel
theorem dX6_stepAt_19 : decode cX6_stepAt 19 = .ok (.iconst 1, 1) := by decide +kernel
theorem dX6_stepAt_20 : decode cX6_stepAt 20 = .ok (.invokevirtual 150, 3) := by decide +kernel
theorem dX6_stepAt_23 : decode cX6_stepAt 23 = .ok (.ireturn, 1) := by decide +kernel
theorem dX6_stepAt_24 : decode cX6_stepAt 24 = .ok (.aload_n 0, 1) := by decide +kernel
theorem dX6_stepAt_25 : decode cX6_stepAt 25 = .ok (.iconst 0, 1) := by decide +kernel
theorem dX6_stepAt_26 : decode cX6_stepAt 26 = .ok (.putfield 105, 3) := by decide +kernel
theorem dX6_stepAt_29 : decode cX6_stepAt 29 = .ok (.aload_n 0, 1) := by decide +kernel
theorem dX6_stepAt_30 : decode cX6_stepAt 30 = .ok (.invokevirtual 157, 3) := by decide +kernel
theorem dX6_stepAt_33 : decode cX6_stepAt 33 = .ok (.bipush 10, 2) := by decide +kernel
theorem dX6_stepAt_35 : decode cX6_stepAt 35 = .ok (.iload_n 1, 1) := by decide +kernel
theorem dX6_stepAt_36 : decode cX6_stepAt 36 = .ok (.imul, 1) := by decide +kernel
theorem dX6_stepAt_37 : decode cX6_stepAt 37 = .ok (.iload_n 2, 1) := by decide +kernel
theorem dX6_stepAt_38 : decode cX6_stepAt 38 = .ok (.iadd, 1) := by decide +kernel
theorem dX6_stepAt_39 : decode cX6_stepAt 39 = .ok (.istore 4, 2) := by decide +kernel
theorem dX6_stepAt_41 : decode cX6_stepAt 41 = .ok (.aload_n 0, 1) := by decide +kernel
theorem dX6_stepAt_42 : decode cX6_stepAt 42 = .ok (.getfield 68, 3) := by decide +kernel
theorem dX6_stepAt_45 : decode cX6_stepAt 45 = .ok (.iload 4, 2) := by decide +kernel
theorem dX6_stepAt_47 : decode cX6_stepAt 47 = .ok (.iaload, 1) := by decide +kernel
theorem dX6_stepAt_48 : decode cX6_stepAt 48 = .ok (.iconst (-1), 1) := by decide +kernel
theorem dX6_stepAt_49 : decode cX6_stepAt 49 = .ok (.if_icmp .eq 14, 3) := by decide +kernel
theorem dX6_stepAt_52 : decode cX6_stepAt 52 = .ok (.iload_n 3, 1) := by decide +kernel
theorem dX6_stepAt_53 : decode cX6_stepAt 53 = .ok (.aload_n 0, 1) := by decide +kernel
theorem dX6_stepAt_54 : decode cX6_stepAt 54 = .ok (.getfield 74, 3) := by decide +kernel
theorem dX6_stepAt_57 : decode cX6_stepAt 57 = .ok (.iload 4, 2) := by decide +kernel
theorem dX6_stepAt_59 : decode cX6_stepAt 59 = .ok (.iaload, 1) := by decide +kernel
theorem dX6_stepAt_60 : decode cX6_stepAt 60 = .ok (.if_icmp .lt 7, 3) := by decide +kernel
theorem dX6_stepAt_63 : decode cX6_stepAt 63 = .ok (.iconst (-1), 1) := by decide +kernel
theorem dX6_stepAt_64 : decode cX6_stepAt 64 = .ok (.goto 15, 3) := by decide +kernel
theorem dX6_stepAt_67 : decode cX6_stepAt 67 = .ok (.aload_n 0, 1) := by decide +kernel
theorem dX6_stepAt_68 : decode cX6_stepAt 68 = .ok (.getfield 77, 3) := by decide +kernel
theorem dX6_stepAt_71 : decode cX6_stepAt 71 = .ok (.bipush 9, 2) := by decide +kernel
theorem dX6_stepAt_73 : decode cX6_stepAt 73 = .ok (.iload 4, 2) := by decide +kernel
theorem dX6_stepAt_75 : decode cX6_stepAt 75 = .ok (.imul, 1) := by decide +kernel
theorem dX6_stepAt_76 : decode cX6_stepAt 76 = .ok (.iload_n 3, 1) := by decide +kernel
theorem dX6_stepAt_77 : decode cX6_stepAt 77 = .ok (.iadd, 1) := by decide +kernel
theorem dX6_stepAt_78 : decode cX6_stepAt 78 = .ok (.iaload, 1) := by decide +kernel
theorem dX6_stepAt_79 : decode cX6_stepAt 79 = .ok (.ireturn, 1) := by decide +kernel
theorem dX6_file_0 : decode cX6_file 0 = .ok (.iload_n 1, 1) := by decide +kernel
theorem dX6_file_1 : decode cX6_file 1 = .ok (.invokestatic 146, 3) := by decide +kernel
theorem dX6_file_4 : decode cX6_file 4 = .ok (.ifCond .ne 12, 3) := by decide +kernel
theorem dX6_file_7 : decode cX6_file 7 = .ok (.iload_n 3, 1) := by decide +kernel
theorem dX6_file_8 : decode cX6_file 8 = .ok (.iconst 0, 1) := by decide +kernel
theorem dX6_file_9 : decode cX6_file 9 = .ok (.iconst 4, 1) := by decide +kernel
theorem dX6_file_10 : decode cX6_file 10 = .ok (.invokestatic 108, 3) := by decide +kernel
theorem dX6_file_13 : decode cX6_file 13 = .ok (.ifCond .ne 9, 3) := by decide +kernel
theorem dX6_file_16 : decode cX6_file 16 = .ok (.aload_n 0, 1) := by decide +kernel
theorem dX6_file_17 : decode cX6_file 17 = .ok (.iconst 1, 1) := by decide +kernel
theorem dX6_file_18 : decode cX6_file 18 = .ok (.invokevirtual 150, 3) := by decide +kernel
theorem dX6_file_21 : decode cX6_file 21 = .ok (.ireturn, 1) := by decide +kernel
theorem dX6_file_22 : decode cX6_file 22 = .ok (.iload_n 2, 1) := by decide +kernel
theorem dX6_file_23 : decode cX6_file 23 = .ok (.iconst 1, 1) := by decide +kernel
theorem dX6_file_24 : decode cX6_file 24 = .ok (.bipush 100, 2) := by decide +kernel
theorem dX6_file_26 : decode cX6_file 26 = .ok (.invokestatic 108, 3) := by decide +kernel
theorem dX6_file_29 : decode cX6_file 29 = .ok (.ifCond .ne 9, 3) := by decide +kernel
theorem dX6_file_32 : decode cX6_file 32 = .ok (.aload_n 0, 1) := by decide +kernel
theorem dX6_file_33 : decode cX6_file 33 = .ok (.iconst 2, 1) := by decide +kernel
theorem dX6_file_34 : decode cX6_file 34 = .ok (.invokevirtual 150, 3) := by decide +kernel
theorem dX6_file_37 : decode cX6_file 37 = .ok (.ireturn, 1) := by decide +kernel
theorem dX6_file_38 : decode cX6_file 38 = .ok (.aload_n 0, 1) := by decide +kernel
theorem dX6_file_39 : decode cX6_file 39 = .ok (.getfield 112, 3) := by decide +kernel
theorem dX6_file_42 : decode cX6_file 42 = .ok (.bipush 40, 2) := by decide +kernel
theorem dX6_file_44 : decode cX6_file 44 = .ok (.if_icmp .eq 11, 3) := by decide +kernel
theorem dX6_file_47 : decode cX6_file 47 = .ok (.aload_n 0, 1) := by decide +kernel
theorem dX6_file_48 : decode cX6_file 48 = .ok (.iload_n 1, 1) := by decide +kernel
theorem dX6_file_49 : decode cX6_file 49 = .ok (.invokevirtual 154, 3) := by decide +kernel
theorem dX6_file_52 : decode cX6_file 52 = .ok (.ifCond .ne 9, 3) := by decide +kernel
theorem dX6_file_55 : decode cX6_file 55 = .ok (.aload_n 0, 1) := by decide +kernel
theorem dX6_file_56 : decode cX6_file 56 = .ok (.iconst 3, 1) := by decide +kernel
theorem dX6_file_57 : decode cX6_file 57 = .ok (.invokevirtual 150, 3) := by decide +kernel
theorem dX6_file_60 : decode cX6_file 60 = .ok (.ireturn, 1) := by decide +kernel
theorem dX6_file_61 : decode cX6_file 61 = .ok (.aload_n 0, 1) := by decide +kernel
theorem dX6_file_62 : decode cX6_file 62 = .ok (.iconst 0, 1) := by decide +kernel
theorem dX6_file_63 : decode cX6_file 63 = .ok (.putfield 105, 3) := by decide +kernel
theorem dX6_file_66 : decode cX6_file 66 = .ok (.aload_n 0, 1) := by decide +kernel
theorem dX6_file_67 : decode cX6_file 67 = .ok (.getfield 38, 3) := by decide +kernel
theorem dX6_file_70 : decode cX6_file 70 = .ok (.aload_n 0, 1) := by decide +kernel
theorem dX6_file_71 : decode cX6_file 71 = .ok (.getfield 112, 3) := by decide +kernel
theorem dX6_file_74 : decode cX6_file 74 = .ok (.iload_n 1, 1) := by decide +kernel
theorem dX6_file_75 : decode cX6_file 75 = .ok (.iastore, 1) := by decide +kernel
theorem dX6_file_76 : decode cX6_file 76 = .ok (.aload_n 0, 1) := by decide +kernel
theorem dX6_file_77 : decode cX6_file 77 = .ok (.getfield 41, 3) := by decide +kernel
theorem dX6_file_80 : decode cX6_file 80 = .ok (.aload_n 0, 1) := by decide +kernel
theorem dX6_file_81 : decode cX6_file 81 = .ok (.getfield 112, 3) := by decide +kernel
theorem dX6_file_84 : decode cX6_file 84 = .ok (.iload_n 2, 1) := by decide +kernel
theorem dX6_file_85 : decode cX6_file 85 = .ok (.iastore, 1) := by decide +kernel
theorem dX6_file_86 : decode cX6_file 86 = .ok (.aload_n 0, 1) := by decide +kernel
theorem dX6_file_87 : decode cX6_file 87 = .ok (.getfield 44, 3) := by decide +kernel
theorem dX6_file_90 : decode cX6_file 90 = .ok (.aload_n 0, 1) := by decide +kernel
theorem dX6_file_91 : decode cX6_file 91 = .ok (.getfield 112, 3) := by decide +kernel
theorem dX6_file_94 : decode cX6_file 94 = .ok (.iload_n 3, 1) := by decide +kernel
theorem dX6_file_95 : decode cX6_file 95 = .ok (.iastore, 1) := by decide +kernel
theorem dX6_file_96 : decode cX6_file 96 = .ok (.aload_n 0, 1) := by decide +kernel
theorem dX6_file_97 : decode cX6_file 97 = .ok (.getfield 47, 3) := by decide +kernel
theorem dX6_file_100 : decode cX6_file 100 = .ok (.aload_n 0, 1) := by decide +kernel
theorem dX6_file_101 : decode cX6_file 101 = .ok (.getfield 112, 3) := by decide +kernel
theorem dX6_file_104 : decode cX6_file 104 = .ok (.sipush 1000, 3) := by decide +kernel
theorem dX6_file_107 : decode cX6_file 107 = .ok (.iastore, 1) := by decide +kernel
theorem dX6_file_108 : decode cX6_file 108 = .ok (.aload_n 0, 1) := by decide +kernel
theorem dX6_file_109 : decode cX6_file 109 = .ok (.getfield 50, 3) := by decide +kernel
theorem dX6_file_112 : decode cX6_file 112 = .ok (.aload_n 0, 1) := by decide +kernel
theorem dX6_file_113 : decode cX6_file 113 = .ok (.getfield 112, 3) := by decide +kernel
theorem dX6_file_116 : decode cX6_file 116 = .ok (.aload_n 0, 1) := by decide +kernel
theorem dX6_file_117 : decode cX6_file 117 = .ok (.getfield 115, 3) := by decide +kernel
theorem dX6_file_120 : decode cX6_file 120 = .ok (.aload_n 0, 1) := by decide +kernel
theorem dX6_file_121 : decode cX6_file 121 = .ok (.getfield 29, 3) := by decide +kernel
theorem dX6_file_124 : decode cX6_file 124 = .ok (.iload_n 3, 1) := by decide +kernel
theorem dX6_file_125 : decode cX6_file 125 = .ok (.iaload, 1) := by decide +kernel
theorem dX6_file_126 : decode cX6_file 126 = .ok (.iadd, 1) := by decide +kernel
theorem dX6_file_127 : decode cX6_file 127 = .ok (.iastore, 1) := by decide +kernel
theorem dX6_file_128 : decode cX6_file 128 = .ok (.aload_n 0, 1) := by decide +kernel
theorem dX6_file_129 : decode cX6_file 129 = .ok (.getfield 53, 3) := by decide +kernel
theorem dX6_file_132 : decode cX6_file 132 = .ok (.aload_n 0, 1) := by decide +kernel
theorem dX6_file_133 : decode cX6_file 133 = .ok (.getfield 112, 3) := by decide +kernel
theorem dX6_file_136 : decode cX6_file 136 = .ok (.aload_n 0, 1) := by decide +kernel
theorem dX6_file_137 : decode cX6_file 137 = .ok (.getfield 115, 3) := by decide +kernel
theorem dX6_file_140 : decode cX6_file 140 = .ok (.iastore, 1) := by decide +kernel
theorem dX6_file_141 : decode cX6_file 141 = .ok (.aload_n 0, 1) := by decide +kernel
theorem dX6_file_142 : decode cX6_file 142 = .ok (.getfield 56, 3) := by decide +kernel
theorem dX6_file_145 : decode cX6_file 145 = .ok (.aload_n 0, 1) := by decide +kernel
theorem dX6_file_146 : decode cX6_file 146 = .ok (.getfield 112, 3) := by decide +kernel
theorem dX6_file_149 : decode cX6_file 149 = .ok (.iconst 0, 1) := by decide +kernel
theorem dX6_file_150 : decode cX6_file 150 = .ok (.iastore, 1) := by decide +kernel
theorem dX6_file_151 : decode cX6_file 151 = .ok (.aload_n 0, 1) := by decide +kernel
theorem dX6_file_152 : decode cX6_file 152 = .ok (.getfield 59, 3) := by decide +kernel
theorem dX6_file_155 : decode cX6_file 155 = .ok (.aload_n 0, 1) := by decide +kernel
theorem dX6_file_156 : decode cX6_file 156 = .ok (.getfield 112, 3) := by decide +kernel
theorem dX6_file_159 : decode cX6_file 159 = .ok (.iconst 0, 1) := by decide +kernel
theorem dX6_file_160 : decode cX6_file 160 = .ok (.bastore, 1) := by decide +kernel
theorem dX6_file_161 : decode cX6_file 161 = .ok (.aload_n 0, 1) := by decide +kernel
theorem dX6_file_162 : decode cX6_file 162 = .ok (.dup, 1) := by decide +kernel
theorem dX6_file_163 : decode cX6_file 163 = .ok (.getfield 112, 3) := by decide +kernel
theorem dX6_file_166 : decode cX6_file 166 = .ok (.iconst 1, 1) := by decide +kernel
theorem dX6_file_167 : decode cX6_file 167 = .ok (.iadd, 1) := by decide +kernel
theorem dX6_file_168 : decode cX6_file 168 = .ok (.putfield 112, 3) := by decide +kernel
theorem dX6_file_171 : decode cX6_file 171 = .ok (.aload_n 0, 1) := by decide +kernel
theorem dX6_file_172 : decode cX6_file 172 = .ok (.getfield 112, 3) := by decide +kernel
theorem dX6_file_175 : decode cX6_file 175 = .ok (.iconst 1, 1) := by decide +kernel
theorem dX6_file_176 : decode cX6_file 176 = .ok (.isub, 1) := by decide +kernel
theorem dX6_file_177 : decode cX6_file 177 = .ok (.ireturn, 1) := by decide +kernel
theorem dX6_hold_0 : decode cX6_hold 0 = .ok (.aload_n 0, 1) := by decide +kernel
theorem dX6_hold_1 : decode cX6_hold 1 = .ok (.iload_n 1, 1) := by decide +kernel
theorem dX6_hold_2 : decode cX6_hold 2 = .ok (.invokevirtual 163, 3) := by decide +kernel
theorem dX6_hold_5 : decode cX6_hold 5 = .ok (.ifCond .eq 18, 3) := by decide +kernel
theorem dX6_hold_8 : decode cX6_hold 8 = .ok (.aload_n 0, 1) := by decide +kernel
theorem dX6_hold_9 : decode cX6_hold 9 = .ok (.iconst 1, 1) := by decide +kernel
theorem dX6_hold_10 : decode cX6_hold 10 = .ok (.invokevirtual 150, 3) := by decide +kernel
theorem dX6_hold_13 : decode cX6_hold 13 = .ok (.iconst 1, 1) := by decide +kernel
theorem dX6_hold_14 : decode cX6_hold 14 = .ok (.if_icmp .ne 7, 3) := by decide +kernel
theorem dX6_hold_17 : decode cX6_hold 17 = .ok (.iconst 1, 1) := by decide +kernel
theorem dX6_hold_18 : decode cX6_hold 18 = .ok (.goto 4, 3) := by decide +kernel
theorem dX6_hold_21 : decode cX6_hold 21 = .ok (.iconst 0, 1) := by decide +kernel
theorem dX6_hold_22 : decode cX6_hold 22 = .ok (.ireturn, 1) := by decide +kernel
theorem dX6_hold_23 : decode cX6_hold 23 = .ok (.aload_n 0, 1) := by decide +kernel
theorem dX6_hold_24 : decode cX6_hold 24 = .ok (.getfield 56, 3) := by decide +kernel
theorem dX6_hold_27 : decode cX6_hold 27 = .ok (.iload_n 1, 1) := by decide +kernel
theorem dX6_hold_28 : decode cX6_hold 28 = .ok (.iaload, 1) := by decide +kernel
theorem dX6_hold_29 : decode cX6_hold 29 = .ok (.ifCond .eq 18, 3) := by decide +kernel
theorem dX6_hold_32 : decode cX6_hold 32 = .ok (.aload_n 0, 1) := by decide +kernel
theorem dX6_hold_33 : decode cX6_hold 33 = .ok (.iconst 2, 1) := by decide +kernel
theorem dX6_hold_34 : decode cX6_hold 34 = .ok (.invokevirtual 150, 3) := by decide +kernel
theorem dX6_hold_37 : decode cX6_hold 37 = .ok (.iconst 1, 1) := by decide +kernel
theorem dX6_hold_38 : decode cX6_hold 38 = .ok (.if_icmp .ne 7, 3) := by decide +kernel
theorem dX6_hold_41 : decode cX6_hold 41 = .ok (.iconst 1, 1) := by decide +kernel
theorem dX6_hold_42 : decode cX6_hold 42 = .ok (.goto 4, 3) := by decide +kernel
theorem dX6_hold_45 : decode cX6_hold 45 = .ok (.iconst 0, 1) := by decide +kernel
theorem dX6_hold_46 : decode cX6_hold 46 = .ok (.ireturn, 1) := by decide +kernel
theorem dX6_hold_47 : decode cX6_hold 47 = .ok (.aload_n 0, 1) := by decide +kernel
theorem dX6_hold_48 : decode cX6_hold 48 = .ok (.iconst 0, 1) := by decide +kernel
theorem dX6_hold_49 : decode cX6_hold 49 = .ok (.putfield 105, 3) := by decide +kernel
theorem dX6_hold_52 : decode cX6_hold 52 = .ok (.aload_n 0, 1) := by decide +kernel
theorem dX6_hold_53 : decode cX6_hold 53 = .ok (.getfield 59, 3) := by decide +kernel
theorem dX6_hold_56 : decode cX6_hold 56 = .ok (.iload_n 1, 1) := by decide +kernel
theorem dX6_hold_57 : decode cX6_hold 57 = .ok (.baload, 1) := by decide +kernel
theorem dX6_hold_58 : decode cX6_hold 58 = .ok (.iload_n 2, 1) := by decide +kernel
theorem dX6_hold_59 : decode cX6_hold 59 = .ok (.if_icmp .eq 7, 3) := by decide +kernel
theorem dX6_hold_62 : decode cX6_hold 62 = .ok (.iconst 1, 1) := by decide +kernel
theorem dX6_hold_63 : decode cX6_hold 63 = .ok (.goto 4, 3) := by decide +kernel
theorem dX6_hold_66 : decode cX6_hold 66 = .ok (.iconst 0, 1) := by decide +kernel
theorem dX6_hold_67 : decode cX6_hold 67 = .ok (.istore_n 3, 1) := by decide +kernel
theorem dX6_hold_68 : decode cX6_hold 68 = .ok (.aload_n 0, 1) := by decide +kernel
theorem dX6_hold_69 : decode cX6_hold 69 = .ok (.getfield 59, 3) := by decide +kernel
theorem dX6_hold_72 : decode cX6_hold 72 = .ok (.iload_n 1, 1) := by decide +kernel
theorem dX6_hold_73 : decode cX6_hold 73 = .ok (.iload_n 2, 1) := by decide +kernel
theorem dX6_hold_74 : decode cX6_hold 74 = .ok (.bastore, 1) := by decide +kernel
theorem dX6_hold_75 : decode cX6_hold 75 = .ok (.iload_n 3, 1) := by decide +kernel
theorem dX6_hold_76 : decode cX6_hold 76 = .ok (.ireturn, 1) := by decide +kernel
theorem dX6_read_0 : decode cX6_read 0 = .ok (.aload_n 0, 1) := by decide +kernel
theorem dX6_read_1 : decode cX6_read 1 = .ok (.iload_n 1, 1) := by decide +kernel
theorem dX6_read_2 : decode cX6_read 2 = .ok (.invokevirtual 163, 3) := by decide +kernel
theorem dX6_read_5 : decode cX6_read 5 = .ok (.ifCond .eq 9, 3) := by decide +kernel
theorem dX6_read_8 : decode cX6_read 8 = .ok (.aload_n 0, 1) := by decide +kernel
theorem dX6_read_9 : decode cX6_read 9 = .ok (.iconst 1, 1) := by decide +kernel
theorem dX6_read_10 : decode cX6_read 10 = .ok (.invokevirtual 150, 3) := by decide +kernel
theorem dX6_read_13 : decode cX6_read 13 = .ok (.ireturn, 1) := by decide +kernel
theorem dX6_read_14 : decode cX6_read 14 = .ok (.aload_n 0, 1) := by decide +kernel
theorem dX6_read_15 : decode cX6_read 15 = .ok (.getfield 56, 3) := by decide +kernel
theorem dX6_read_18 : decode cX6_read 18 = .ok (.iload_n 1, 1) := by decide +kernel
theorem dX6_read_19 : decode cX6_read 19 = .ok (.iaload, 1) := by decide +kernel
theorem dX6_read_20 : decode cX6_read 20 = .ok (.ifCond .ne 36, 3) := by decide +kernel
theorem dX6_read_23 : decode cX6_read 23 = .ok (.aload_n 0, 1) := by decide +kernel
theorem dX6_read_24 : decode cX6_read 24 = .ok (.aload_n 0, 1) := by decide +kernel
theorem dX6_read_25 : decode cX6_read 25 = .ok (.getfield 38, 3) := by decide +kernel
theorem dX6_read_28 : decode cX6_read 28 = .ok (.iload_n 1, 1) := by decide +kernel
theorem dX6_read_29 : decode cX6_read 29 = .ok (.iaload, 1) := by decide +kernel
theorem dX6_read_30 : decode cX6_read 30 = .ok (.invokevirtual 154, 3) := by decide +kernel
theorem dX6_read_33 : decode cX6_read 33 = .ok (.ifCond .eq 23, 3) := by decide +kernel
theorem dX6_read_36 : decode cX6_read 36 = .ok (.aload_n 0, 1) := by decide +kernel
theorem dX6_read_37 : decode cX6_read 37 = .ok (.getfield 47, 3) := by decide +kernel
theorem dX6_read_40 : decode cX6_read 40 = .ok (.iload_n 1, 1) := by decide +kernel
theorem dX6_read_41 : decode cX6_read 41 = .ok (.iaload, 1) := by decide +kernel
theorem dX6_read_42 : decode cX6_read 42 = .ok (.aload_n 0, 1) := by decide +kernel
theorem dX6_read_43 : decode cX6_read 43 = .ok (.getfield 32, 3) := by decide +kernel
theorem dX6_read_46 : decode cX6_read 46 = .ok (.aload_n 0, 1) := by decide +kernel
theorem dX6_read_47 : decode cX6_read 47 = .ok (.getfield 44, 3) := by decide +kernel
theorem dX6_read_50 : decode cX6_read 50 = .ok (.iload_n 1, 1) := by decide +kernel
theorem dX6_read_51 : decode cX6_read 51 = .ok (.iaload, 1) := by decide +kernel
theorem dX6_read_52 : decode cX6_read 52 = .ok (.iaload, 1) := by decide +kernel
theorem dX6_read_53 : decode cX6_read 53 = .ok (.if_icmp .ge 9, 3) := by decide +kernel
theorem dX6_read_56 : decode cX6_read 56 = .ok (.aload_n 0, 1) := by decide +kernel
theorem dX6_read_57 : decode cX6_read 57 = .ok (.iconst 2, 1) := by decide +kernel
theorem dX6_read_58 : decode cX6_read 58 = .ok (.invokevirtual 150, 3) := by decide +kernel
theorem dX6_read_61 : decode cX6_read 61 = .ok (.ireturn, 1) := by decide +kernel
theorem dX6_read_62 : decode cX6_read 62 = .ok (.aload_n 0, 1) := by decide +kernel
theorem dX6_read_63 : decode cX6_read 63 = .ok (.iconst 0, 1) := by decide +kernel
theorem dX6_read_64 : decode cX6_read 64 = .ok (.putfield 105, 3) := by decide +kernel
theorem dX6_read_67 : decode cX6_read 67 = .ok (.aload_n 0, 1) := by decide +kernel
theorem dX6_read_68 : decode cX6_read 68 = .ok (.getfield 115, 3) := by decide +kernel
theorem dX6_read_71 : decode cX6_read 71 = .ok (.aload_n 0, 1) := by decide +kernel
theorem dX6_read_72 : decode cX6_read 72 = .ok (.getfield 53, 3) := by decide +kernel
theorem dX6_read_75 : decode cX6_read 75 = .ok (.iload_n 1, 1) := by decide +kernel
theorem dX6_read_76 : decode cX6_read 76 = .ok (.iaload, 1) := by decide +kernel
theorem dX6_read_77 : decode cX6_read 77 = .ok (.isub, 1) := by decide +kernel
theorem dX6_read_78 : decode cX6_read 78 = .ok (.istore_n 2, 1) := by decide +kernel
theorem dX6_read_79 : decode cX6_read 79 = .ok (.aload_n 0, 1) := by decide +kernel
theorem dX6_read_80 : decode cX6_read 80 = .ok (.getfield 53, 3) := by decide +kernel
theorem dX6_read_83 : decode cX6_read 83 = .ok (.iload_n 1, 1) := by decide +kernel
theorem dX6_read_84 : decode cX6_read 84 = .ok (.aload_n 0, 1) := by decide +kernel
theorem dX6_read_85 : decode cX6_read 85 = .ok (.getfield 115, 3) := by decide +kernel
theorem dX6_read_88 : decode cX6_read 88 = .ok (.iastore, 1) := by decide +kernel
theorem dX6_read_89 : decode cX6_read 89 = .ok (.iload_n 2, 1) := by decide +kernel
theorem dX6_read_90 : decode cX6_read 90 = .ok (.ireturn, 1) := by decide +kernel
theorem dX6_move_0 : decode cX6_move 0 = .ok (.aload_n 0, 1) := by decide +kernel
theorem dX6_move_1 : decode cX6_move 1 = .ok (.iload_n 1, 1) := by decide +kernel
theorem dX6_move_2 : decode cX6_move 2 = .ok (.invokevirtual 163, 3) := by decide +kernel
theorem dX6_move_5 : decode cX6_move 5 = .ok (.ifCond .ne 10, 3) := by decide +kernel
theorem dX6_move_8 : decode cX6_move 8 = .ok (.iload_n 2, 1) := by decide +kernel
theorem dX6_move_9 : decode cX6_move 9 = .ok (.invokestatic 146, 3) := by decide +kernel
theorem dX6_move_12 : decode cX6_move 12 = .ok (.ifCond .eq 9, 3) := by decide +kernel
theorem dX6_move_15 : decode cX6_move 15 = .ok (.aload_n 0, 1) := by decide +kernel
theorem dX6_move_16 : decode cX6_move 16 = .ok (.iconst 1, 1) := by decide +kernel
theorem dX6_move_17 : decode cX6_move 17 = .ok (.invokevirtual 150, 3) := by decide +kernel
theorem dX6_move_20 : decode cX6_move 20 = .ok (.ireturn, 1) := by decide +kernel
theorem dX6_move_21 : decode cX6_move 21 = .ok (.iload_n 2, 1) := by decide +kernel
theorem dX6_move_22 : decode cX6_move 22 = .ok (.aload_n 0, 1) := by decide +kernel
theorem dX6_move_23 : decode cX6_move 23 = .ok (.getfield 38, 3) := by decide +kernel
theorem dX6_move_26 : decode cX6_move 26 = .ok (.iload_n 1, 1) := by decide +kernel
theorem dX6_move_27 : decode cX6_move 27 = .ok (.iaload, 1) := by decide +kernel
theorem dX6_move_28 : decode cX6_move 28 = .ok (.if_icmp .ne 9, 3) := by decide +kernel
theorem dX6_move_31 : decode cX6_move 31 = .ok (.aload_n 0, 1) := by decide +kernel
theorem dX6_move_32 : decode cX6_move 32 = .ok (.iconst 2, 1) := by decide +kernel
theorem dX6_move_33 : decode cX6_move 33 = .ok (.invokevirtual 150, 3) := by decide +kernel
theorem dX6_move_36 : decode cX6_move 36 = .ok (.ireturn, 1) := by decide +kernel
theorem dX6_move_37 : decode cX6_move 37 = .ok (.aload_n 0, 1) := by decide +kernel
theorem dX6_move_38 : decode cX6_move 38 = .ok (.invokevirtual 157, 3) := by decide +kernel
theorem dX6_move_41 : decode cX6_move 41 = .ok (.aload_n 0, 1) := by decide +kernel
theorem dX6_move_42 : decode cX6_move 42 = .ok (.getfield 56, 3) := by decide +kernel
theorem dX6_move_45 : decode cX6_move 45 = .ok (.iload_n 1, 1) := by decide +kernel
theorem dX6_move_46 : decode cX6_move 46 = .ok (.iaload, 1) := by decide +kernel
theorem dX6_move_47 : decode cX6_move 47 = .ok (.ifCond .ne 40, 3) := by decide +kernel
theorem dX6_move_50 : decode cX6_move 50 = .ok (.aload_n 0, 1) := by decide +kernel
theorem dX6_move_51 : decode cX6_move 51 = .ok (.iload_n 2, 1) := by decide +kernel
theorem dX6_move_52 : decode cX6_move 52 = .ok (.invokevirtual 154, 3) := by decide +kernel
theorem dX6_move_55 : decode cX6_move 55 = .ok (.ifCond .eq 32, 3) := by decide +kernel
theorem dX6_move_58 : decode cX6_move 58 = .ok (.aload_n 0, 1) := by decide +kernel
theorem dX6_move_59 : decode cX6_move 59 = .ok (.getfield 68, 3) := by decide +kernel
theorem dX6_move_62 : decode cX6_move 62 = .ok (.bipush 10, 2) := by decide +kernel
theorem dX6_move_64 : decode cX6_move 64 = .ok (.aload_n 0, 1) := by decide +kernel
theorem dX6_move_65 : decode cX6_move 65 = .ok (.getfield 38, 3) := by decide +kernel
theorem dX6_move_68 : decode cX6_move 68 = .ok (.iload_n 1, 1) := by decide +kernel
theorem dX6_move_69 : decode cX6_move 69 = .ok (.iaload, 1) := by decide +kernel
theorem dX6_move_70 : decode cX6_move 70 = .ok (.imul, 1) := by decide +kernel
theorem dX6_move_71 : decode cX6_move 71 = .ok (.iload_n 2, 1) := by decide +kernel
theorem dX6_move_72 : decode cX6_move 72 = .ok (.iadd, 1) := by decide +kernel
theorem dX6_move_73 : decode cX6_move 73 = .ok (.iaload, 1) := by decide +kernel
theorem dX6_move_74 : decode cX6_move 74 = .ok (.iconst (-1), 1) := by decide +kernel
theorem dX6_move_75 : decode cX6_move 75 = .ok (.if_icmp .eq 12, 3) := by decide +kernel
theorem dX6_move_78 : decode cX6_move 78 = .ok (.aload_n 0, 1) := by decide +kernel
theorem dX6_move_79 : decode cX6_move 79 = .ok (.iload_n 1, 1) := by decide +kernel
theorem dX6_move_80 : decode cX6_move 80 = .ok (.iload_n 2, 1) := by decide +kernel
theorem dX6_move_81 : decode cX6_move 81 = .ok (.invokevirtual 166, 3) := by decide +kernel
theorem dX6_move_84 : decode cX6_move 84 = .ok (.ifCond .ne 9, 3) := by decide +kernel
theorem dX6_move_87 : decode cX6_move 87 = .ok (.aload_n 0, 1) := by decide +kernel
theorem dX6_move_88 : decode cX6_move 88 = .ok (.iconst 3, 1) := by decide +kernel
theorem dX6_move_89 : decode cX6_move 89 = .ok (.invokevirtual 150, 3) := by decide +kernel
theorem dX6_move_92 : decode cX6_move 92 = .ok (.ireturn, 1) := by decide +kernel
theorem dX6_move_93 : decode cX6_move 93 = .ok (.aload_n 0, 1) := by decide +kernel
theorem dX6_move_94 : decode cX6_move 94 = .ok (.iconst 0, 1) := by decide +kernel
theorem dX6_move_95 : decode cX6_move 95 = .ok (.putfield 105, 3) := by decide +kernel
theorem dX6_move_98 : decode cX6_move 98 = .ok (.aload_n 0, 1) := by decide +kernel
theorem dX6_move_99 : decode cX6_move 99 = .ok (.iload_n 1, 1) := by decide +kernel
theorem dX6_move_100 : decode cX6_move 100 = .ok (.iload_n 2, 1) := by decide +kernel
theorem dX6_move_101 : decode cX6_move 101 = .ok (.invokevirtual 169, 3) := by decide +kernel
theorem dX6_move_104 : decode cX6_move 104 = .ok (.aload_n 0, 1) := by decide +kernel
theorem dX6_move_105 : decode cX6_move 105 = .ok (.getfield 47, 3) := by decide +kernel
theorem dX6_move_108 : decode cX6_move 108 = .ok (.iload_n 1, 1) := by decide +kernel
theorem dX6_move_109 : decode cX6_move 109 = .ok (.iaload, 1) := by decide +kernel
theorem dX6_move_110 : decode cX6_move 110 = .ok (.ireturn, 1) := by decide +kernel
theorem dX6_nextDue_0 : decode cX6_nextDue 0 = .ok (.iconst (-1), 1) := by decide +kernel
theorem dX6_nextDue_1 : decode cX6_nextDue 1 = .ok (.istore_n 1, 1) := by decide +kernel
theorem dX6_nextDue_2 : decode cX6_nextDue 2 = .ok (.iconst 0, 1) := by decide +kernel
theorem dX6_nextDue_3 : decode cX6_nextDue 3 = .ok (.istore_n 2, 1) := by decide +kernel
theorem dX6_nextDue_4 : decode cX6_nextDue 4 = .ok (.iload_n 2, 1) := by decide +kernel
theorem dX6_nextDue_5 : decode cX6_nextDue 5 = .ok (.aload_n 0, 1) := by decide +kernel
theorem dX6_nextDue_6 : decode cX6_nextDue 6 = .ok (.getfield 112, 3) := by decide +kernel
theorem dX6_nextDue_9 : decode cX6_nextDue 9 = .ok (.if_icmp .ge 50, 3) := by decide +kernel
theorem dX6_nextDue_12 : decode cX6_nextDue 12 = .ok (.aload_n 0, 1) := by decide +kernel
theorem dX6_nextDue_13 : decode cX6_nextDue 13 = .ok (.getfield 65, 3) := by decide +kernel
theorem dX6_nextDue_16 : decode cX6_nextDue 16 = .ok (.iload_n 2, 1) := by decide +kernel
theorem dX6_nextDue_17 : decode cX6_nextDue 17 = .ok (.baload, 1) := by decide +kernel
theorem dX6_nextDue_18 : decode cX6_nextDue 18 = .ok (.ifCond .eq 35, 3) := by decide +kernel
theorem dX6_nextDue_21 : decode cX6_nextDue 21 = .ok (.iload_n 1, 1) := by decide +kernel
theorem dX6_nextDue_22 : decode cX6_nextDue 22 = .ok (.iconst (-1), 1) := by decide +kernel
theorem dX6_nextDue_23 : decode cX6_nextDue 23 = .ok (.if_icmp .eq 28, 3) := by decide +kernel
theorem dX6_nextDue_26 : decode cX6_nextDue 26 = .ok (.aload_n 0, 1) := by decide +kernel
theorem dX6_nextDue_27 : decode cX6_nextDue 27 = .ok (.getfield 7, 3) := by decide +kernel
theorem dX6_nextDue_30 : decode cX6_nextDue 30 = .ok (.aload_n 0, 1) := by decide +kernel
theorem dX6_nextDue_31 : decode cX6_nextDue 31 = .ok (.getfield 38, 3) := by decide +kernel
theorem dX6_nextDue_34 : decode cX6_nextDue 34 = .ok (.iload_n 2, 1) := by decide +kernel
theorem dX6_nextDue_35 : decode cX6_nextDue 35 = .ok (.iaload, 1) := by decide +kernel
theorem dX6_nextDue_36 : decode cX6_nextDue 36 = .ok (.iaload, 1) := by decide +kernel
theorem dX6_nextDue_37 : decode cX6_nextDue 37 = .ok (.aload_n 0, 1) := by decide +kernel
theorem dX6_nextDue_38 : decode cX6_nextDue 38 = .ok (.getfield 7, 3) := by decide +kernel
theorem dX6_nextDue_41 : decode cX6_nextDue 41 = .ok (.aload_n 0, 1) := by decide +kernel
theorem dX6_nextDue_42 : decode cX6_nextDue 42 = .ok (.getfield 38, 3) := by decide +kernel
theorem dX6_nextDue_45 : decode cX6_nextDue 45 = .ok (.iload_n 1, 1) := by decide +kernel
theorem dX6_nextDue_46 : decode cX6_nextDue 46 = .ok (.iaload, 1) := by decide +kernel
theorem dX6_nextDue_47 : decode cX6_nextDue 47 = .ok (.iaload, 1) := by decide +kernel
theorem dX6_nextDue_48 : decode cX6_nextDue 48 = .ok (.if_icmp .ge 5, 3) := by decide +kernel
theorem dX6_nextDue_51 : decode cX6_nextDue 51 = .ok (.iload_n 2, 1) := by decide +kernel
theorem dX6_nextDue_52 : decode cX6_nextDue 52 = .ok (.istore_n 1, 1) := by decide +kernel
theorem dX6_nextDue_53 : decode cX6_nextDue 53 = .ok (.iinc 2 1, 3) := by decide +kernel
theorem dX6_nextDue_56 : decode cX6_nextDue 56 = .ok (.goto (-52), 3) := by decide +kernel
theorem dX6_nextDue_59 : decode cX6_nextDue 59 = .ok (.iload_n 1, 1) := by decide +kernel
theorem dX6_nextDue_60 : decode cX6_nextDue 60 = .ok (.ireturn, 1) := by decide +kernel
theorem dX6_moveAhead_0 : decode cX6_moveAhead 0 = .ok (.aload_n 0, 1) := by decide +kernel
theorem dX6_moveAhead_1 : decode cX6_moveAhead 1 = .ok (.iconst 0, 1) := by decide +kernel
theorem dX6_moveAhead_2 : decode cX6_moveAhead 2 = .ok (.putfield 105, 3) := by decide +kernel
theorem dX6_moveAhead_5 : decode cX6_moveAhead 5 = .ok (.aload_n 0, 1) := by decide +kernel
theorem dX6_moveAhead_6 : decode cX6_moveAhead 6 = .ok (.invokevirtual 157, 3) := by decide +kernel
theorem dX6_moveAhead_9 : decode cX6_moveAhead 9 = .ok (.iconst 0, 1) := by decide +kernel
theorem dX6_moveAhead_10 : decode cX6_moveAhead 10 = .ok (.istore_n 1, 1) := by decide +kernel
theorem dX6_moveAhead_11 : decode cX6_moveAhead 11 = .ok (.iload_n 1, 1) := by decide +kernel
theorem dX6_moveAhead_12 : decode cX6_moveAhead 12 = .ok (.aload_n 0, 1) := by decide +kernel
theorem dX6_moveAhead_13 : decode cX6_moveAhead 13 = .ok (.getfield 112, 3) := by decide +kernel
theorem dX6_moveAhead_16 : decode cX6_moveAhead 16 = .ok (.if_icmp .ge 52, 3) := by decide +kernel
theorem dX6_moveAhead_19 : decode cX6_moveAhead 19 = .ok (.aload_n 0, 1) := by decide +kernel
theorem dX6_moveAhead_20 : decode cX6_moveAhead 20 = .ok (.getfield 65, 3) := by decide +kernel
theorem dX6_moveAhead_23 : decode cX6_moveAhead 23 = .ok (.iload_n 1, 1) := by decide +kernel
theorem dX6_moveAhead_24 : decode cX6_moveAhead 24 = .ok (.aload_n 0, 1) := by decide +kernel
theorem dX6_moveAhead_25 : decode cX6_moveAhead 25 = .ok (.getfield 56, 3) := by decide +kernel
theorem dX6_moveAhead_28 : decode cX6_moveAhead 28 = .ok (.iload_n 1, 1) := by decide +kernel
theorem dX6_moveAhead_29 : decode cX6_moveAhead 29 = .ok (.iaload, 1) := by decide +kernel
theorem dX6_moveAhead_30 : decode cX6_moveAhead 30 = .ok (.ifCond .ne 30, 3) := by decide +kernel
theorem dX6_moveAhead_33 : decode cX6_moveAhead 33 = .ok (.aload_n 0, 1) := by decide +kernel
theorem dX6_moveAhead_34 : decode cX6_moveAhead 34 = .ok (.iload_n 1, 1) := by decide +kernel
theorem dX6_moveAhead_35 : decode cX6_moveAhead 35 = .ok (.aload_n 0, 1) := by decide +kernel
theorem dX6_moveAhead_36 : decode cX6_moveAhead 36 = .ok (.getfield 38, 3) := by decide +kernel
theorem dX6_moveAhead_39 : decode cX6_moveAhead 39 = .ok (.iload_n 1, 1) := by decide +kernel
theorem dX6_moveAhead_40 : decode cX6_moveAhead 40 = .ok (.iaload, 1) := by decide +kernel
theorem dX6_moveAhead_41 : decode cX6_moveAhead 41 = .ok (.invokevirtual 142, 3) := by decide +kernel
theorem dX6_moveAhead_44 : decode cX6_moveAhead 44 = .ok (.ifCond .ne 16, 3) := by decide +kernel
theorem dX6_moveAhead_47 : decode cX6_moveAhead 47 = .ok (.aload_n 0, 1) := by decide +kernel
theorem dX6_moveAhead_48 : decode cX6_moveAhead 48 = .ok (.iload_n 1, 1) := by decide +kernel
theorem dX6_moveAhead_49 : decode cX6_moveAhead 49 = .ok (.invokevirtual 160, 3) := by decide +kernel
theorem dX6_moveAhead_52 : decode cX6_moveAhead 52 = .ok (.iconst (-1), 1) := by decide +kernel
theorem dX6_moveAhead_53 : decode cX6_moveAhead 53 = .ok (.if_icmp .eq 7, 3) := by decide +kernel
theorem dX6_moveAhead_56 : decode cX6_moveAhead 56 = .ok (.iconst 1, 1) := by decide +kernel
theorem dX6_moveAhead_57 : decode cX6_moveAhead 57 = .ok (.goto 4, 3) := by decide +kernel
theorem dX6_moveAhead_60 : decode cX6_moveAhead 60 = .ok (.iconst 0, 1) := by decide +kernel
theorem dX6_moveAhead_61 : decode cX6_moveAhead 61 = .ok (.bastore, 1) := by decide +kernel
theorem dX6_moveAhead_62 : decode cX6_moveAhead 62 = .ok (.iinc 1 1, 3) := by decide +kernel
theorem dX6_moveAhead_65 : decode cX6_moveAhead 65 = .ok (.goto (-54), 3) := by decide +kernel
theorem dX6_moveAhead_68 : decode cX6_moveAhead 68 = .ok (.iconst 0, 1) := by decide +kernel
theorem dX6_moveAhead_69 : decode cX6_moveAhead 69 = .ok (.istore_n 1, 1) := by decide +kernel
theorem dX6_moveAhead_70 : decode cX6_moveAhead 70 = .ok (.aload_n 0, 1) := by decide +kernel
theorem dX6_moveAhead_71 : decode cX6_moveAhead 71 = .ok (.invokevirtual 173, 3) := by decide +kernel
theorem dX6_moveAhead_74 : decode cX6_moveAhead 74 = .ok (.istore_n 2, 1) := by decide +kernel
theorem dX6_moveAhead_75 : decode cX6_moveAhead 75 = .ok (.iload_n 2, 1) := by decide +kernel
theorem dX6_moveAhead_76 : decode cX6_moveAhead 76 = .ok (.iconst (-1), 1) := by decide +kernel
theorem dX6_moveAhead_77 : decode cX6_moveAhead 77 = .ok (.if_icmp .eq 42, 3) := by decide +kernel
theorem dX6_moveAhead_80 : decode cX6_moveAhead 80 = .ok (.aload_n 0, 1) := by decide +kernel
theorem dX6_moveAhead_81 : decode cX6_moveAhead 81 = .ok (.getfield 65, 3) := by decide +kernel
theorem dX6_moveAhead_84 : decode cX6_moveAhead 84 = .ok (.iload_n 2, 1) := by decide +kernel
theorem dX6_moveAhead_85 : decode cX6_moveAhead 85 = .ok (.iconst 0, 1) := by decide +kernel
theorem dX6_moveAhead_86 : decode cX6_moveAhead 86 = .ok (.bastore, 1) := by decide +kernel
theorem dX6_moveAhead_87 : decode cX6_moveAhead 87 = .ok (.aload_n 0, 1) := by decide +kernel
theorem dX6_moveAhead_88 : decode cX6_moveAhead 88 = .ok (.iload_n 2, 1) := by decide +kernel
theorem dX6_moveAhead_89 : decode cX6_moveAhead 89 = .ok (.invokevirtual 160, 3) := by decide +kernel
theorem dX6_moveAhead_92 : decode cX6_moveAhead 92 = .ok (.istore_n 3, 1) := by decide +kernel
theorem dX6_moveAhead_93 : decode cX6_moveAhead 93 = .ok (.aload_n 0, 1) := by decide +kernel
theorem dX6_moveAhead_94 : decode cX6_moveAhead 94 = .ok (.iload_n 2, 1) := by decide +kernel
theorem dX6_moveAhead_95 : decode cX6_moveAhead 95 = .ok (.iload_n 3, 1) := by decide +kernel
theorem dX6_moveAhead_96 : decode cX6_moveAhead 96 = .ok (.invokevirtual 166, 3) := by decide +kernel
theorem dX6_moveAhead_99 : decode cX6_moveAhead 99 = .ok (.ifCond .eq 12, 3) := by decide +kernel
theorem dX6_moveAhead_102 : decode cX6_moveAhead 102 = .ok (.aload_n 0, 1) := by decide +kernel
theorem dX6_moveAhead_103 : decode cX6_moveAhead 103 = .ok (.iload_n 2, 1) := by decide +kernel
theorem dX6_moveAhead_104 : decode cX6_moveAhead 104 = .ok (.iload_n 3, 1) := by decide +kernel
theorem dX6_moveAhead_105 : decode cX6_moveAhead 105 = .ok (.invokevirtual 169, 3) := by decide +kernel
theorem dX6_moveAhead_108 : decode cX6_moveAhead 108 = .ok (.iinc 1 1, 3) := by decide +kernel
theorem dX6_moveAhead_111 : decode cX6_moveAhead 111 = .ok (.aload_n 0, 1) := by decide +kernel
theorem dX6_moveAhead_112 : decode cX6_moveAhead 112 = .ok (.invokevirtual 173, 3) := by decide +kernel
theorem dX6_moveAhead_115 : decode cX6_moveAhead 115 = .ok (.istore_n 2, 1) := by decide +kernel
theorem dX6_moveAhead_116 : decode cX6_moveAhead 116 = .ok (.goto (-41), 3) := by decide +kernel
theorem dX6_moveAhead_119 : decode cX6_moveAhead 119 = .ok (.iload_n 1, 1) := by decide +kernel
theorem dX6_moveAhead_120 : decode cX6_moveAhead 120 = .ok (.ireturn, 1) := by decide +kernel
theorem dX6_haven_0 : decode cX6_haven 0 = .ok (.aload_n 0, 1) := by decide +kernel
theorem dX6_haven_1 : decode cX6_haven 1 = .ok (.iload_n 1, 1) := by decide +kernel
theorem dX6_haven_2 : decode cX6_haven 2 = .ok (.invokevirtual 163, 3) := by decide +kernel
theorem dX6_haven_5 : decode cX6_haven 5 = .ok (.ifCond .eq 9, 3) := by decide +kernel
theorem dX6_haven_8 : decode cX6_haven 8 = .ok (.aload_n 0, 1) := by decide +kernel
theorem dX6_haven_9 : decode cX6_haven 9 = .ok (.iconst 1, 1) := by decide +kernel
theorem dX6_haven_10 : decode cX6_haven 10 = .ok (.invokevirtual 150, 3) := by decide +kernel
theorem dX6_haven_13 : decode cX6_haven 13 = .ok (.ireturn, 1) := by decide +kernel
theorem dX6_haven_14 : decode cX6_haven 14 = .ok (.aload_n 0, 1) := by decide +kernel
theorem dX6_haven_15 : decode cX6_haven 15 = .ok (.iconst 0, 1) := by decide +kernel
theorem dX6_haven_16 : decode cX6_haven 16 = .ok (.putfield 105, 3) := by decide +kernel
theorem dX6_haven_19 : decode cX6_haven 19 = .ok (.aload_n 0, 1) := by decide +kernel
theorem dX6_haven_20 : decode cX6_haven 20 = .ok (.invokevirtual 157, 3) := by decide +kernel
theorem dX6_haven_23 : decode cX6_haven 23 = .ok (.aload_n 0, 1) := by decide +kernel
theorem dX6_haven_24 : decode cX6_haven 24 = .ok (.iload_n 1, 1) := by decide +kernel
theorem dX6_haven_25 : decode cX6_haven 25 = .ok (.invokevirtual 160, 3) := by decide +kernel
theorem dX6_haven_28 : decode cX6_haven 28 = .ok (.ireturn, 1) := by decide +kernel
theorem dX6_isSafe_0 : decode cX6_isSafe 0 = .ok (.aload_n 0, 1) := by decide +kernel
theorem dX6_isSafe_1 : decode cX6_isSafe 1 = .ok (.iload_n 1, 1) := by decide +kernel
theorem dX6_isSafe_2 : decode cX6_isSafe 2 = .ok (.invokevirtual 163, 3) := by decide +kernel
theorem dX6_isSafe_5 : decode cX6_isSafe 5 = .ok (.ifCond .eq 18, 3) := by decide +kernel
theorem dX6_isSafe_8 : decode cX6_isSafe 8 = .ok (.aload_n 0, 1) := by decide +kernel
theorem dX6_isSafe_9 : decode cX6_isSafe 9 = .ok (.iconst 1, 1) := by decide +kernel
theorem dX6_isSafe_10 : decode cX6_isSafe 10 = .ok (.invokevirtual 150, 3) := by decide +kernel
theorem dX6_isSafe_13 : decode cX6_isSafe 13 = .ok (.iconst 1, 1) := by decide +kernel
theorem dX6_isSafe_14 : decode cX6_isSafe 14 = .ok (.if_icmp .ne 7, 3) := by decide +kernel
theorem dX6_isSafe_17 : decode cX6_isSafe 17 = .ok (.iconst 1, 1) := by decide +kernel
theorem dX6_isSafe_18 : decode cX6_isSafe 18 = .ok (.goto 4, 3) := by decide +kernel
theorem dX6_isSafe_21 : decode cX6_isSafe 21 = .ok (.iconst 0, 1) := by decide +kernel
theorem dX6_isSafe_22 : decode cX6_isSafe 22 = .ok (.ireturn, 1) := by decide +kernel
theorem dX6_isSafe_23 : decode cX6_isSafe 23 = .ok (.aload_n 0, 1) := by decide +kernel
theorem dX6_isSafe_24 : decode cX6_isSafe 24 = .ok (.iconst 0, 1) := by decide +kernel
theorem dX6_isSafe_25 : decode cX6_isSafe 25 = .ok (.putfield 105, 3) := by decide +kernel
theorem dX6_isSafe_28 : decode cX6_isSafe 28 = .ok (.aload_n 0, 1) := by decide +kernel
theorem dX6_isSafe_29 : decode cX6_isSafe 29 = .ok (.getfield 56, 3) := by decide +kernel
theorem dX6_isSafe_32 : decode cX6_isSafe 32 = .ok (.iload_n 1, 1) := by decide +kernel
theorem dX6_isSafe_33 : decode cX6_isSafe 33 = .ok (.iaload, 1) := by decide +kernel
theorem dX6_isSafe_34 : decode cX6_isSafe 34 = .ok (.ifCond .ne 21, 3) := by decide +kernel
theorem dX6_isSafe_37 : decode cX6_isSafe 37 = .ok (.aload_n 0, 1) := by decide +kernel
theorem dX6_isSafe_38 : decode cX6_isSafe 38 = .ok (.iload_n 1, 1) := by decide +kernel
theorem dX6_isSafe_39 : decode cX6_isSafe 39 = .ok (.aload_n 0, 1) := by decide +kernel
theorem dX6_isSafe_40 : decode cX6_isSafe 40 = .ok (.getfield 38, 3) := by decide +kernel
theorem dX6_isSafe_43 : decode cX6_isSafe 43 = .ok (.iload_n 1, 1) := by decide +kernel
theorem dX6_isSafe_44 : decode cX6_isSafe 44 = .ok (.iaload, 1) := by decide +kernel
theorem dX6_isSafe_45 : decode cX6_isSafe 45 = .ok (.invokevirtual 142, 3) := by decide +kernel
theorem dX6_isSafe_48 : decode cX6_isSafe 48 = .ok (.ifCond .eq 7, 3) := by decide +kernel
theorem dX6_isSafe_51 : decode cX6_isSafe 51 = .ok (.iconst 1, 1) := by decide +kernel
theorem dX6_isSafe_52 : decode cX6_isSafe 52 = .ok (.goto 4, 3) := by decide +kernel
theorem dX6_isSafe_55 : decode cX6_isSafe 55 = .ok (.iconst 0, 1) := by decide +kernel
theorem dX6_isSafe_56 : decode cX6_isSafe 56 = .ok (.ireturn, 1) := by decide +kernel
theorem dX6_stateOf_0 : decode cX6_stateOf 0 = .ok (.aload_n 0, 1) := by decide +kernel
theorem dX6_stateOf_1 : decode cX6_stateOf 1 = .ok (.iload_n 1, 1) := by decide +kernel
theorem dX6_stateOf_2 : decode cX6_stateOf 2 = .ok (.invokevirtual 163, 3) := by decide +kernel
theorem dX6_stateOf_5 : decode cX6_stateOf 5 = .ok (.ifCond .eq 9, 3) := by decide +kernel
theorem dX6_stateOf_8 : decode cX6_stateOf 8 = .ok (.aload_n 0, 1) := by decide +kernel
theorem dX6_stateOf_9 : decode cX6_stateOf 9 = .ok (.iconst 1, 1) := by decide +kernel
theorem dX6_stateOf_10 : decode cX6_stateOf 10 = .ok (.invokevirtual 150, 3) := by decide +kernel
theorem dX6_stateOf_13 : decode cX6_stateOf 13 = .ok (.ireturn, 1) := by decide +kernel
theorem dX6_stateOf_14 : decode cX6_stateOf 14 = .ok (.aload_n 0, 1) := by decide +kernel
theorem dX6_stateOf_15 : decode cX6_stateOf 15 = .ok (.iconst 0, 1) := by decide +kernel
theorem dX6_stateOf_16 : decode cX6_stateOf 16 = .ok (.putfield 105, 3) := by decide +kernel
theorem dX6_stateOf_19 : decode cX6_stateOf 19 = .ok (.aload_n 0, 1) := by decide +kernel
theorem dX6_stateOf_20 : decode cX6_stateOf 20 = .ok (.getfield 56, 3) := by decide +kernel
theorem dX6_stateOf_23 : decode cX6_stateOf 23 = .ok (.iload_n 1, 1) := by decide +kernel
theorem dX6_stateOf_24 : decode cX6_stateOf 24 = .ok (.iaload, 1) := by decide +kernel
theorem dX6_stateOf_25 : decode cX6_stateOf 25 = .ok (.ireturn, 1) := by decide +kernel
theorem dX6_formatOf_0 : decode cX6_formatOf 0 = .ok (.aload_n 0, 1) := by decide +kernel
theorem dX6_formatOf_1 : decode cX6_formatOf 1 = .ok (.iload_n 1, 1) := by decide +kernel
theorem dX6_formatOf_2 : decode cX6_formatOf 2 = .ok (.invokevirtual 163, 3) := by decide +kernel
theorem dX6_formatOf_5 : decode cX6_formatOf 5 = .ok (.ifCond .eq 9, 3) := by decide +kernel
theorem dX6_formatOf_8 : decode cX6_formatOf 8 = .ok (.aload_n 0, 1) := by decide +kernel
theorem dX6_formatOf_9 : decode cX6_formatOf 9 = .ok (.iconst 1, 1) := by decide +kernel
theorem dX6_formatOf_10 : decode cX6_formatOf 10 = .ok (.invokevirtual 150, 3) := by decide +kernel
theorem dX6_formatOf_13 : decode cX6_formatOf 13 = .ok (.ireturn, 1) := by decide +kernel
theorem dX6_formatOf_14 : decode cX6_formatOf 14 = .ok (.aload_n 0, 1) := by decide +kernel
theorem dX6_formatOf_15 : decode cX6_formatOf 15 = .ok (.iconst 0, 1) := by decide +kernel
theorem dX6_formatOf_16 : decode cX6_formatOf 16 = .ok (.putfield 105, 3) := by decide +kernel
theorem dX6_formatOf_19 : decode cX6_formatOf 19 = .ok (.aload_n 0, 1) := by decide +kernel
theorem dX6_formatOf_20 : decode cX6_formatOf 20 = .ok (.getfield 38, 3) := by decide +kernel
theorem dX6_formatOf_23 : decode cX6_formatOf 23 = .ok (.iload_n 1, 1) := by decide +kernel
theorem dX6_formatOf_24 : decode cX6_formatOf 24 = .ok (.iaload, 1) := by decide +kernel
theorem dX6_formatOf_25 : decode cX6_formatOf 25 = .ok (.ireturn, 1) := by decide +kernel
theorem dX6_qualityOf_0 : decode cX6_qualityOf 0 = .ok (.aload_n 0, 1) := by decide +kernel
theorem dX6_qualityOf_1 : decode cX6_qualityOf 1 = .ok (.iload_n 1, 1) := by decide +kernel
theorem dX6_qualityOf_2 : decode cX6_qualityOf 2 = .ok (.invokevirtual 163, 3) := by decide +kernel
theorem dX6_qualityOf_5 : decode cX6_qualityOf 5 = .ok (.ifCond .eq 9, 3) := by decide +kernel
theorem dX6_qualityOf_8 : decode cX6_qualityOf 8 = .ok (.aload_n 0, 1) := by decide +kernel
theorem dX6_qualityOf_9 : decode cX6_qualityOf 9 = .ok (.iconst 1, 1) := by decide +kernel
theorem dX6_qualityOf_10 : decode cX6_qualityOf 10 = .ok (.invokevirtual 150, 3) := by decide +kernel
theorem dX6_qualityOf_13 : decode cX6_qualityOf 13 = .ok (.ireturn, 1) := by decide +kernel
theorem dX6_qualityOf_14 : decode cX6_qualityOf 14 = .ok (.aload_n 0, 1) := by decide +kernel
theorem dX6_qualityOf_15 : decode cX6_qualityOf 15 = .ok (.iconst 0, 1) := by decide +kernel
theorem dX6_qualityOf_16 : decode cX6_qualityOf 16 = .ok (.putfield 105, 3) := by decide +kernel
theorem dX6_qualityOf_19 : decode cX6_qualityOf 19 = .ok (.aload_n 0, 1) := by decide +kernel
theorem dX6_qualityOf_20 : decode cX6_qualityOf 20 = .ok (.getfield 47, 3) := by decide +kernel
theorem dX6_qualityOf_23 : decode cX6_qualityOf 23 = .ok (.iload_n 1, 1) := by decide +kernel
theorem dX6_qualityOf_24 : decode cX6_qualityOf 24 = .ok (.iaload, 1) := by decide +kernel
theorem dX6_qualityOf_25 : decode cX6_qualityOf 25 = .ok (.ireturn, 1) := by decide +kernel
theorem dX6_endOf_0 : decode cX6_endOf 0 = .ok (.aload_n 0, 1) := by decide +kernel
theorem dX6_endOf_1 : decode cX6_endOf 1 = .ok (.iload_n 1, 1) := by decide +kernel
theorem dX6_endOf_2 : decode cX6_endOf 2 = .ok (.invokevirtual 163, 3) := by decide +kernel
theorem dX6_endOf_5 : decode cX6_endOf 5 = .ok (.ifCond .eq 9, 3) := by decide +kernel
theorem dX6_endOf_8 : decode cX6_endOf 8 = .ok (.aload_n 0, 1) := by decide +kernel
theorem dX6_endOf_9 : decode cX6_endOf 9 = .ok (.iconst 1, 1) := by decide +kernel
theorem dX6_endOf_10 : decode cX6_endOf 10 = .ok (.invokevirtual 150, 3) := by decide +kernel
theorem dX6_endOf_13 : decode cX6_endOf 13 = .ok (.ireturn, 1) := by decide +kernel
theorem dX6_endOf_14 : decode cX6_endOf 14 = .ok (.aload_n 0, 1) := by decide +kernel
theorem dX6_endOf_15 : decode cX6_endOf 15 = .ok (.iconst 0, 1) := by decide +kernel
theorem dX6_endOf_16 : decode cX6_endOf 16 = .ok (.putfield 105, 3) := by decide +kernel
theorem dX6_endOf_19 : decode cX6_endOf 19 = .ok (.aload_n 0, 1) := by decide +kernel
theorem dX6_endOf_20 : decode cX6_endOf 20 = .ok (.getfield 50, 3) := by decide +kernel
theorem dX6_endOf_23 : decode cX6_endOf 23 = .ok (.iload_n 1, 1) := by decide +kernel
theorem dX6_endOf_24 : decode cX6_endOf 24 = .ok (.iaload, 1) := by decide +kernel
theorem dX6_endOf_25 : decode cX6_endOf 25 = .ok (.ireturn, 1) := by decide +kernel
theorem dX6_setBudget_0 : decode cX6_setBudget 0 = .ok (.iload_n 1, 1) := by decide +kernel
theorem dX6_setBudget_1 : decode cX6_setBudget 1 = .ok (.iconst 0, 1) := by decide +kernel
theorem dX6_setBudget_2 : decode cX6_setBudget 2 = .ok (.ldc 177, 2) := by decide +kernel
theorem dX6_setBudget_4 : decode cX6_setBudget 4 = .ok (.invokestatic 108, 3) := by decide +kernel
theorem dX6_setBudget_7 : decode cX6_setBudget 7 = .ok (.ifCond .ne 9, 3) := by decide +kernel
theorem dX6_setBudget_10 : decode cX6_setBudget 10 = .ok (.aload_n 0, 1) := by decide +kernel
theorem dX6_setBudget_11 : decode cX6_setBudget 11 = .ok (.iconst 1, 1) := by decide +kernel
theorem dX6_setBudget_12 : decode cX6_setBudget 12 = .ok (.invokevirtual 150, 3) := by decide +kernel
theorem dX6_setBudget_15 : decode cX6_setBudget 15 = .ok (.ireturn, 1) := by decide +kernel
theorem dX6_setBudget_16 : decode cX6_setBudget 16 = .ok (.aload_n 0, 1) := by decide +kernel
theorem dX6_setBudget_17 : decode cX6_setBudget 17 = .ok (.iconst 0, 1) := by decide +kernel
theorem dX6_setBudget_18 : decode cX6_setBudget 18 = .ok (.putfield 105, 3) := by decide +kernel
theorem dX6_setBudget_21 : decode cX6_setBudget 21 = .ok (.aload_n 0, 1) := by decide +kernel
theorem dX6_setBudget_22 : decode cX6_setBudget 22 = .ok (.getfield 98, 3) := by decide +kernel
theorem dX6_setBudget_25 : decode cX6_setBudget 25 = .ok (.istore_n 2, 1) := by decide +kernel
theorem dX6_setBudget_26 : decode cX6_setBudget 26 = .ok (.aload_n 0, 1) := by decide +kernel
theorem dX6_setBudget_27 : decode cX6_setBudget 27 = .ok (.iload_n 1, 1) := by decide +kernel
theorem dX6_setBudget_28 : decode cX6_setBudget 28 = .ok (.putfield 98, 3) := by decide +kernel
theorem dX6_setBudget_31 : decode cX6_setBudget 31 = .ok (.iload_n 2, 1) := by decide +kernel
theorem dX6_setBudget_32 : decode cX6_setBudget 32 = .ok (.ireturn, 1) := by decide +kernel
theorem dX6_left_0 : decode cX6_left 0 = .ok (.aload_n 0, 1) := by decide +kernel
theorem dX6_left_1 : decode cX6_left 1 = .ok (.iconst 0, 1) := by decide +kernel
theorem dX6_left_2 : decode cX6_left 2 = .ok (.putfield 105, 3) := by decide +kernel
theorem dX6_left_5 : decode cX6_left 5 = .ok (.aload_n 0, 1) := by decide +kernel
theorem dX6_left_6 : decode cX6_left 6 = .ok (.getfield 102, 3) := by decide +kernel
theorem dX6_left_9 : decode cX6_left 9 = .ok (.ireturn, 1) := by decide +kernel
theorem dX6_begin_0 : decode cX6_begin 0 = .ok (.aload_n 0, 1) := by decide +kernel
theorem dX6_begin_1 : decode cX6_begin 1 = .ok (.getfield 115, 3) := by decide +kernel
theorem dX6_begin_4 : decode cX6_begin 4 = .ok (.sipush 900, 3) := by decide +kernel
theorem dX6_begin_7 : decode cX6_begin 7 = .ok (.if_icmp .ne 9, 3) := by decide +kernel
theorem dX6_begin_10 : decode cX6_begin 10 = .ok (.aload_n 0, 1) := by decide +kernel
theorem dX6_begin_11 : decode cX6_begin 11 = .ok (.iconst 1, 1) := by decide +kernel
theorem dX6_begin_12 : decode cX6_begin 12 = .ok (.invokevirtual 150, 3) := by decide +kernel
theorem dX6_begin_15 : decode cX6_begin 15 = .ok (.ireturn, 1) := by decide +kernel
theorem dX6_begin_16 : decode cX6_begin 16 = .ok (.aload_n 0, 1) := by decide +kernel
theorem dX6_begin_17 : decode cX6_begin 17 = .ok (.iconst 0, 1) := by decide +kernel
theorem dX6_begin_18 : decode cX6_begin 18 = .ok (.putfield 105, 3) := by decide +kernel
theorem dX6_begin_21 : decode cX6_begin 21 = .ok (.aload_n 0, 1) := by decide +kernel
theorem dX6_begin_22 : decode cX6_begin 22 = .ok (.dup, 1) := by decide +kernel
theorem dX6_begin_23 : decode cX6_begin 23 = .ok (.getfield 115, 3) := by decide +kernel
theorem dX6_begin_26 : decode cX6_begin 26 = .ok (.iconst 1, 1) := by decide +kernel
theorem dX6_begin_27 : decode cX6_begin 27 = .ok (.iadd, 1) := by decide +kernel
theorem dX6_begin_28 : decode cX6_begin 28 = .ok (.putfield 115, 3) := by decide +kernel
theorem dX6_begin_31 : decode cX6_begin 31 = .ok (.aload_n 0, 1) := by decide +kernel
theorem dX6_begin_32 : decode cX6_begin 32 = .ok (.aload_n 0, 1) := by decide +kernel
theorem dX6_begin_33 : decode cX6_begin 33 = .ok (.getfield 98, 3) := by decide +kernel
theorem dX6_begin_36 : decode cX6_begin 36 = .ok (.putfield 102, 3) := by decide +kernel
theorem dX6_begin_39 : decode cX6_begin 39 = .ok (.iconst 0, 1) := by decide +kernel
theorem dX6_begin_40 : decode cX6_begin 40 = .ok (.istore_n 1, 1) := by decide +kernel
theorem dX6_begin_41 : decode cX6_begin 41 = .ok (.iconst 0, 1) := by decide +kernel
theorem dX6_begin_42 : decode cX6_begin 42 = .ok (.istore_n 2, 1) := by decide +kernel
theorem dX6_begin_43 : decode cX6_begin 43 = .ok (.iload_n 2, 1) := by decide +kernel
theorem dX6_begin_44 : decode cX6_begin 44 = .ok (.aload_n 0, 1) := by decide +kernel
theorem dX6_begin_45 : decode cX6_begin 45 = .ok (.getfield 112, 3) := by decide +kernel
theorem dX6_begin_48 : decode cX6_begin 48 = .ok (.if_icmp .ge 82, 3) := by decide +kernel
theorem dX6_begin_51 : decode cX6_begin 51 = .ok (.aload_n 0, 1) := by decide +kernel
theorem dX6_begin_52 : decode cX6_begin 52 = .ok (.getfield 56, 3) := by decide +kernel
theorem dX6_begin_55 : decode cX6_begin 55 = .ok (.iload_n 2, 1) := by decide +kernel
theorem dX6_begin_56 : decode cX6_begin 56 = .ok (.iaload, 1) := by decide +kernel
theorem dX6_begin_57 : decode cX6_begin 57 = .ok (.ifCond .ne 35, 3) := by decide +kernel
theorem dX6_begin_60 : decode cX6_begin 60 = .ok (.aload_n 0, 1) := by decide +kernel
theorem dX6_begin_61 : decode cX6_begin 61 = .ok (.getfield 115, 3) := by decide +kernel
theorem dX6_begin_64 : decode cX6_begin 64 = .ok (.aload_n 0, 1) := by decide +kernel
theorem dX6_begin_65 : decode cX6_begin 65 = .ok (.getfield 50, 3) := by decide +kernel
theorem dX6_begin_68 : decode cX6_begin 68 = .ok (.iload_n 2, 1) := by decide +kernel
theorem dX6_begin_69 : decode cX6_begin 69 = .ok (.iaload, 1) := by decide +kernel
theorem dX6_begin_70 : decode cX6_begin 70 = .ok (.if_icmp .le 22, 3) := by decide +kernel
theorem dX6_begin_73 : decode cX6_begin 73 = .ok (.aload_n 0, 1) := by decide +kernel
theorem dX6_begin_74 : decode cX6_begin 74 = .ok (.getfield 59, 3) := by decide +kernel
theorem dX6_begin_77 : decode cX6_begin 77 = .ok (.iload_n 2, 1) := by decide +kernel
theorem dX6_begin_78 : decode cX6_begin 78 = .ok (.baload, 1) := by decide +kernel
theorem dX6_begin_79 : decode cX6_begin 79 = .ok (.ifCond .ne 13, 3) := by decide +kernel
theorem dX6_begin_82 : decode cX6_begin 82 = .ok (.aload_n 0, 1) := by decide +kernel
theorem dX6_begin_83 : decode cX6_begin 83 = .ok (.getfield 56, 3) := by decide +kernel
theorem dX6_begin_86 : decode cX6_begin 86 = .ok (.iload_n 2, 1) := by decide +kernel
theorem dX6_begin_87 : decode cX6_begin 87 = .ok (.iconst 1, 1) := by decide +kernel
theorem dX6_begin_88 : decode cX6_begin 88 = .ok (.iastore, 1) := by decide +kernel
theorem dX6_begin_89 : decode cX6_begin 89 = .ok (.goto 35, 3) := by decide +kernel
theorem dX6_begin_92 : decode cX6_begin 92 = .ok (.aload_n 0, 1) := by decide +kernel
theorem dX6_begin_93 : decode cX6_begin 93 = .ok (.getfield 56, 3) := by decide +kernel
theorem dX6_begin_96 : decode cX6_begin 96 = .ok (.iload_n 2, 1) := by decide +kernel
theorem dX6_begin_97 : decode cX6_begin 97 = .ok (.iaload, 1) := by decide +kernel
theorem dX6_begin_98 : decode cX6_begin 98 = .ok (.ifCond .ne 26, 3) := by decide +kernel
theorem dX6_begin_101 : decode cX6_begin 101 = .ok (.aload_n 0, 1) := by decide +kernel
theorem dX6_begin_102 : decode cX6_begin 102 = .ok (.aload_n 0, 1) := by decide +kernel
theorem dX6_begin_103 : decode cX6_begin 103 = .ok (.getfield 38, 3) := by decide +kernel
theorem dX6_begin_106 : decode cX6_begin 106 = .ok (.iload_n 2, 1) := by decide +kernel
theorem dX6_begin_107 : decode cX6_begin 107 = .ok (.iaload, 1) := by decide +kernel
theorem dX6_begin_108 : decode cX6_begin 108 = .ok (.invokevirtual 154, 3) := by decide +kernel
theorem dX6_begin_111 : decode cX6_begin 111 = .ok (.ifCond .ne 13, 3) := by decide +kernel
theorem dX6_begin_114 : decode cX6_begin 114 = .ok (.aload_n 0, 1) := by decide +kernel
theorem dX6_begin_115 : decode cX6_begin 115 = .ok (.getfield 56, 3) := by decide +kernel
theorem dX6_begin_118 : decode cX6_begin 118 = .ok (.iload_n 2, 1) := by decide +kernel
theorem dX6_begin_119 : decode cX6_begin 119 = .ok (.iconst 2, 1) := by decide +kernel
theorem dX6_begin_120 : decode cX6_begin 120 = .ok (.iastore, 1) := by decide +kernel
theorem dX6_begin_121 : decode cX6_begin 121 = .ok (.iinc 1 1, 3) := by decide +kernel
theorem dX6_begin_124 : decode cX6_begin 124 = .ok (.iinc 2 1, 3) := by decide +kernel
theorem dX6_begin_127 : decode cX6_begin 127 = .ok (.goto (-84), 3) := by decide +kernel
theorem dX6_begin_130 : decode cX6_begin 130 = .ok (.iload_n 1, 1) := by decide +kernel
theorem dX6_begin_131 : decode cX6_begin 131 = .ok (.ireturn, 1) := by decide +kernel
theorem dX6_year_0 : decode cX6_year 0 = .ok (.aload_n 0, 1) := by decide +kernel
theorem dX6_year_1 : decode cX6_year 1 = .ok (.iconst 0, 1) := by decide +kernel
theorem dX6_year_2 : decode cX6_year 2 = .ok (.putfield 105, 3) := by decide +kernel
theorem dX6_year_5 : decode cX6_year 5 = .ok (.aload_n 0, 1) := by decide +kernel
theorem dX6_year_6 : decode cX6_year 6 = .ok (.getfield 115, 3) := by decide +kernel
theorem dX6_year_9 : decode cX6_year 9 = .ok (.ireturn, 1) := by decide +kernel
theorem dX6_overdue_0 : decode cX6_overdue 0 = .ok (.aload_n 0, 1) := by decide +kernel
theorem dX6_overdue_1 : decode cX6_overdue 1 = .ok (.iconst 0, 1) := by decide +kernel
theorem dX6_overdue_2 : decode cX6_overdue 2 = .ok (.putfield 105, 3) := by decide +kernel
theorem dX6_overdue_5 : decode cX6_overdue 5 = .ok (.iconst 0, 1) := by decide +kernel
theorem dX6_overdue_6 : decode cX6_overdue 6 = .ok (.istore_n 1, 1) := by decide +kernel
theorem dX6_overdue_7 : decode cX6_overdue 7 = .ok (.iconst 0, 1) := by decide +kernel
theorem dX6_overdue_8 : decode cX6_overdue 8 = .ok (.istore_n 2, 1) := by decide +kernel
theorem dX6_overdue_9 : decode cX6_overdue 9 = .ok (.iload_n 2, 1) := by decide +kernel
theorem dX6_overdue_10 : decode cX6_overdue 10 = .ok (.aload_n 0, 1) := by decide +kernel
theorem dX6_overdue_11 : decode cX6_overdue 11 = .ok (.getfield 112, 3) := by decide +kernel
theorem dX6_overdue_14 : decode cX6_overdue 14 = .ok (.if_icmp .ge 51, 3) := by decide +kernel
theorem dX6_overdue_17 : decode cX6_overdue 17 = .ok (.iload_n 1, 1) := by decide +kernel
theorem dX6_overdue_18 : decode cX6_overdue 18 = .ok (.aload_n 0, 1) := by decide +kernel
theorem dX6_overdue_19 : decode cX6_overdue 19 = .ok (.getfield 56, 3) := by decide +kernel
theorem dX6_overdue_22 : decode cX6_overdue 22 = .ok (.iload_n 2, 1) := by decide +kernel
theorem dX6_overdue_23 : decode cX6_overdue 23 = .ok (.iaload, 1) := by decide +kernel
theorem dX6_overdue_24 : decode cX6_overdue 24 = .ok (.ifCond .ne 32, 3) := by decide +kernel
theorem dX6_overdue_27 : decode cX6_overdue 27 = .ok (.aload_n 0, 1) := by decide +kernel
theorem dX6_overdue_28 : decode cX6_overdue 28 = .ok (.getfield 115, 3) := by decide +kernel
theorem dX6_overdue_31 : decode cX6_overdue 31 = .ok (.aload_n 0, 1) := by decide +kernel
theorem dX6_overdue_32 : decode cX6_overdue 32 = .ok (.getfield 53, 3) := by decide +kernel
theorem dX6_overdue_35 : decode cX6_overdue 35 = .ok (.iload_n 2, 1) := by decide +kernel
theorem dX6_overdue_36 : decode cX6_overdue 36 = .ok (.iaload, 1) := by decide +kernel
theorem dX6_overdue_37 : decode cX6_overdue 37 = .ok (.aload_n 0, 1) := by decide +kernel
theorem dX6_overdue_38 : decode cX6_overdue 38 = .ok (.getfield 35, 3) := by decide +kernel
theorem dX6_overdue_41 : decode cX6_overdue 41 = .ok (.aload_n 0, 1) := by decide +kernel
theorem dX6_overdue_42 : decode cX6_overdue 42 = .ok (.getfield 44, 3) := by decide +kernel
theorem dX6_overdue_45 : decode cX6_overdue 45 = .ok (.iload_n 2, 1) := by decide +kernel
theorem dX6_overdue_46 : decode cX6_overdue 46 = .ok (.iaload, 1) := by decide +kernel
theorem dX6_overdue_47 : decode cX6_overdue 47 = .ok (.iaload, 1) := by decide +kernel
theorem dX6_overdue_48 : decode cX6_overdue 48 = .ok (.iadd, 1) := by decide +kernel
theorem dX6_overdue_49 : decode cX6_overdue 49 = .ok (.if_icmp .le 7, 3) := by decide +kernel
theorem dX6_overdue_52 : decode cX6_overdue 52 = .ok (.iconst 1, 1) := by decide +kernel
theorem dX6_overdue_53 : decode cX6_overdue 53 = .ok (.goto 4, 3) := by decide +kernel
theorem dX6_overdue_56 : decode cX6_overdue 56 = .ok (.iconst 0, 1) := by decide +kernel
theorem dX6_overdue_57 : decode cX6_overdue 57 = .ok (.iadd, 1) := by decide +kernel
theorem dX6_overdue_58 : decode cX6_overdue 58 = .ok (.istore_n 1, 1) := by decide +kernel
theorem dX6_overdue_59 : decode cX6_overdue 59 = .ok (.iinc 2 1, 3) := by decide +kernel
theorem dX6_overdue_62 : decode cX6_overdue 62 = .ok (.goto (-53), 3) := by decide +kernel
theorem dX6_overdue_65 : decode cX6_overdue 65 = .ok (.iload_n 1, 1) := by decide +kernel
theorem dX6_overdue_66 : decode cX6_overdue 66 = .ok (.ireturn, 1) := by decide +kernel
theorem dX6_promise_0 : decode cX6_promise 0 = .ok (.iload_n 1, 1) := by decide +kernel
theorem dX6_promise_1 : decode cX6_promise 1 = .ok (.invokestatic 146, 3) := by decide +kernel
theorem dX6_promise_4 : decode cX6_promise 4 = .ok (.ifCond .ne 12, 3) := by decide +kernel
theorem dX6_promise_7 : decode cX6_promise 7 = .ok (.iload_n 2, 1) := by decide +kernel
theorem dX6_promise_8 : decode cX6_promise 8 = .ok (.iconst 0, 1) := by decide +kernel
theorem dX6_promise_9 : decode cX6_promise 9 = .ok (.iconst 4, 1) := by decide +kernel
theorem dX6_promise_10 : decode cX6_promise 10 = .ok (.invokestatic 108, 3) := by decide +kernel
theorem dX6_promise_13 : decode cX6_promise 13 = .ok (.ifCond .ne 9, 3) := by decide +kernel
theorem dX6_promise_16 : decode cX6_promise 16 = .ok (.aload_n 0, 1) := by decide +kernel
theorem dX6_promise_17 : decode cX6_promise 17 = .ok (.iconst 1, 1) := by decide +kernel
theorem dX6_promise_18 : decode cX6_promise 18 = .ok (.invokevirtual 150, 3) := by decide +kernel
theorem dX6_promise_21 : decode cX6_promise 21 = .ok (.ireturn, 1) := by decide +kernel
theorem dX6_promise_22 : decode cX6_promise 22 = .ok (.aload_n 0, 1) := by decide +kernel
theorem dX6_promise_23 : decode cX6_promise 23 = .ok (.iconst 0, 1) := by decide +kernel
theorem dX6_promise_24 : decode cX6_promise 24 = .ok (.putfield 105, 3) := by decide +kernel
theorem dX6_promise_27 : decode cX6_promise 27 = .ok (.aload_n 0, 1) := by decide +kernel
theorem dX6_promise_28 : decode cX6_promise 28 = .ok (.invokevirtual 157, 3) := by decide +kernel
theorem dX6_promise_31 : decode cX6_promise 31 = .ok (.iconst 0, 1) := by decide +kernel
theorem dX6_promise_32 : decode cX6_promise 32 = .ok (.istore_n 3, 1) := by decide +kernel
theorem dX6_promise_33 : decode cX6_promise 33 = .ok (.iconst 0, 1) := by decide +kernel
theorem dX6_promise_34 : decode cX6_promise 34 = .ok (.istore 4, 2) := by decide +kernel
theorem dX6_promise_36 : decode cX6_promise 36 = .ok (.iload 4, 2) := by decide +kernel
theorem dX6_promise_38 : decode cX6_promise 38 = .ok (.bipush 10, 2) := by decide +kernel
theorem dX6_promise_40 : decode cX6_promise 40 = .ok (.if_icmp .ge 100, 3) := by decide +kernel
theorem dX6_promise_43 : decode cX6_promise 43 = .ok (.aload_n 0, 1) := by decide +kernel
theorem dX6_promise_44 : decode cX6_promise 44 = .ok (.getfield 68, 3) := by decide +kernel
theorem dX6_promise_47 : decode cX6_promise 47 = .ok (.bipush 10, 2) := by decide +kernel
theorem dX6_promise_49 : decode cX6_promise 49 = .ok (.iload_n 1, 1) := by decide +kernel
theorem dX6_promise_50 : decode cX6_promise 50 = .ok (.imul, 1) := by decide +kernel
theorem dX6_promise_51 : decode cX6_promise 51 = .ok (.iload 4, 2) := by decide +kernel
theorem dX6_promise_53 : decode cX6_promise 53 = .ok (.iadd, 1) := by decide +kernel
theorem dX6_promise_54 : decode cX6_promise 54 = .ok (.iaload, 1) := by decide +kernel
theorem dX6_promise_55 : decode cX6_promise 55 = .ok (.istore 5, 2) := by decide +kernel
theorem dX6_promise_57 : decode cX6_promise 57 = .ok (.aload_n 0, 1) := by decide +kernel
theorem dX6_promise_58 : decode cX6_promise 58 = .ok (.getfield 7, 3) := by decide +kernel
theorem dX6_promise_61 : decode cX6_promise 61 = .ok (.iload 4, 2) := by decide +kernel
theorem dX6_promise_63 : decode cX6_promise 63 = .ok (.iaload, 1) := by decide +kernel
theorem dX6_promise_64 : decode cX6_promise 64 = .ok (.iconst (-1), 1) := by decide +kernel
theorem dX6_promise_65 : decode cX6_promise 65 = .ok (.if_icmp .eq 20, 3) := by decide +kernel
theorem dX6_promise_68 : decode cX6_promise 68 = .ok (.aload_n 0, 1) := by decide +kernel
theorem dX6_promise_69 : decode cX6_promise 69 = .ok (.getfield 7, 3) := by decide +kernel
theorem dX6_promise_72 : decode cX6_promise 72 = .ok (.iload 4, 2) := by decide +kernel
theorem dX6_promise_74 : decode cX6_promise 74 = .ok (.iaload, 1) := by decide +kernel
theorem dX6_promise_75 : decode cX6_promise 75 = .ok (.aload_n 0, 1) := by decide +kernel
theorem dX6_promise_76 : decode cX6_promise 76 = .ok (.getfield 115, 3) := by decide +kernel
theorem dX6_promise_79 : decode cX6_promise 79 = .ok (.isub, 1) := by decide +kernel
theorem dX6_promise_80 : decode cX6_promise 80 = .ok (.bipush 100, 2) := by decide +kernel
theorem dX6_promise_82 : decode cX6_promise 82 = .ok (.if_icmp .le 8, 3) := by decide +kernel
theorem dX6_promise_85 : decode cX6_promise 85 = .ok (.bipush 100, 2) := by decide +kernel
theorem dX6_promise_87 : decode cX6_promise 87 = .ok (.goto 15, 3) := by decide +kernel
theorem dX6_promise_90 : decode cX6_promise 90 = .ok (.aload_n 0, 1) := by decide +kernel
theorem dX6_promise_91 : decode cX6_promise 91 = .ok (.getfield 7, 3) := by decide +kernel
theorem dX6_promise_94 : decode cX6_promise 94 = .ok (.iload 4, 2) := by decide +kernel
theorem dX6_promise_96 : decode cX6_promise 96 = .ok (.iaload, 1) := by decide +kernel
theorem dX6_promise_97 : decode cX6_promise 97 = .ok (.aload_n 0, 1) := by decide +kernel
theorem dX6_promise_98 : decode cX6_promise 98 = .ok (.getfield 115, 3) := by decide +kernel
theorem dX6_promise_101 : decode cX6_promise 101 = .ok (.isub, 1) := by decide +kernel
theorem dX6_promise_102 : decode cX6_promise 102 = .ok (.istore 6, 2) := by decide +kernel
theorem dX6_promise_104 : decode cX6_promise 104 = .ok (.iload 5, 2) := by decide +kernel
theorem dX6_promise_106 : decode cX6_promise 106 = .ok (.iconst (-1), 1) := by decide +kernel
theorem dX6_promise_107 : decode cX6_promise 107 = .ok (.if_icmp .eq 25, 3) := by decide +kernel
theorem dX6_promise_110 : decode cX6_promise 110 = .ok (.iload 5, 2) := by decide +kernel
theorem dX6_promise_112 : decode cX6_promise 112 = .ok (.aload_n 0, 1) := by decide +kernel
theorem dX6_promise_113 : decode cX6_promise 113 = .ok (.getfield 32, 3) := by decide +kernel
theorem dX6_promise_116 : decode cX6_promise 116 = .ok (.iload_n 2, 1) := by decide +kernel
theorem dX6_promise_117 : decode cX6_promise 117 = .ok (.iaload, 1) := by decide +kernel
theorem dX6_promise_118 : decode cX6_promise 118 = .ok (.if_icmp .lt 14, 3) := by decide +kernel
theorem dX6_promise_121 : decode cX6_promise 121 = .ok (.iload 6, 2) := by decide +kernel
theorem dX6_promise_123 : decode cX6_promise 123 = .ok (.iload_n 3, 1) := by decide +kernel
theorem dX6_promise_124 : decode cX6_promise 124 = .ok (.if_icmp .le 8, 3) := by decide +kernel
theorem dX6_promise_127 : decode cX6_promise 127 = .ok (.iload 6, 2) := by decide +kernel
theorem dX6_promise_129 : decode cX6_promise 129 = .ok (.goto 4, 3) := by decide +kernel
theorem dX6_promise_132 : decode cX6_promise 132 = .ok (.iload_n 3, 1) := by decide +kernel
theorem dX6_promise_133 : decode cX6_promise 133 = .ok (.istore_n 3, 1) := by decide +kernel
theorem dX6_promise_134 : decode cX6_promise 134 = .ok (.iinc 4 1, 3) := by decide +kernel
theorem dX6_promise_137 : decode cX6_promise 137 = .ok (.goto (-101), 3) := by decide +kernel
theorem dX6_promise_140 : decode cX6_promise 140 = .ok (.aload_n 0, 1) := by decide +kernel
theorem dX6_promise_141 : decode cX6_promise 141 = .ok (.iload_n 1, 1) := by decide +kernel
theorem dX6_promise_142 : decode cX6_promise 142 = .ok (.invokevirtual 154, 3) := by decide +kernel
theorem dX6_promise_145 : decode cX6_promise 145 = .ok (.ifCond .eq 7, 3) := by decide +kernel
theorem dX6_promise_148 : decode cX6_promise 148 = .ok (.iload_n 3, 1) := by decide +kernel
theorem dX6_promise_149 : decode cX6_promise 149 = .ok (.goto 4, 3) := by decide +kernel
theorem dX6_promise_152 : decode cX6_promise 152 = .ok (.iconst 0, 1) := by decide +kernel
theorem dX6_promise_153 : decode cX6_promise 153 = .ok (.ireturn, 1) := by decide +kernel
theorem dJ13_bitCount_95d88_0 : decode cJ13_bitCount_95d88 0 = .ok (.lload_n 0, 1) := by decide +kernel
theorem dJ13_bitCount_95d88_1 : decode cJ13_bitCount_95d88 1 = .ok (.lload_n 0, 1) := by decide +kernel
theorem dJ13_bitCount_95d88_2 : decode cJ13_bitCount_95d88 2 = .ok (.iconst 1, 1) := by decide +kernel
theorem dJ13_bitCount_95d88_3 : decode cJ13_bitCount_95d88 3 = .ok (.lushr, 1) := by decide +kernel
theorem dJ13_bitCount_95d88_4 : decode cJ13_bitCount_95d88 4 = .ok (.ldc2_w 314, 3) := by decide +kernel
theorem dJ13_bitCount_95d88_7 : decode cJ13_bitCount_95d88 7 = .ok (.land, 1) := by decide +kernel
theorem dJ13_bitCount_95d88_8 : decode cJ13_bitCount_95d88 8 = .ok (.lsub, 1) := by decide +kernel
theorem dJ13_bitCount_95d88_9 : decode cJ13_bitCount_95d88 9 = .ok (.lstore_n 0, 1) := by decide +kernel
theorem dJ13_bitCount_95d88_10 : decode cJ13_bitCount_95d88 10 = .ok (.lload_n 0, 1) := by decide +kernel
theorem dJ13_bitCount_95d88_11 : decode cJ13_bitCount_95d88 11 = .ok (.ldc2_w 316, 3) := by decide +kernel
theorem dJ13_bitCount_95d88_14 : decode cJ13_bitCount_95d88 14 = .ok (.land, 1) := by decide +kernel
theorem dJ13_bitCount_95d88_15 : decode cJ13_bitCount_95d88 15 = .ok (.lload_n 0, 1) := by decide +kernel
theorem dJ13_bitCount_95d88_16 : decode cJ13_bitCount_95d88 16 = .ok (.iconst 2, 1) := by decide +kernel
theorem dJ13_bitCount_95d88_17 : decode cJ13_bitCount_95d88 17 = .ok (.lushr, 1) := by decide +kernel
theorem dJ13_bitCount_95d88_18 : decode cJ13_bitCount_95d88 18 = .ok (.ldc2_w 316, 3) := by decide +kernel
theorem dJ13_bitCount_95d88_21 : decode cJ13_bitCount_95d88 21 = .ok (.land, 1) := by decide +kernel
theorem dJ13_bitCount_95d88_22 : decode cJ13_bitCount_95d88 22 = .ok (.ladd, 1) := by decide +kernel
theorem dJ13_bitCount_95d88_23 : decode cJ13_bitCount_95d88 23 = .ok (.lstore_n 0, 1) := by decide +kernel
theorem dJ13_bitCount_95d88_24 : decode cJ13_bitCount_95d88 24 = .ok (.lload_n 0, 1) := by decide +kernel
theorem dJ13_bitCount_95d88_25 : decode cJ13_bitCount_95d88 25 = .ok (.lload_n 0, 1) := by decide +kernel
theorem dJ13_bitCount_95d88_26 : decode cJ13_bitCount_95d88 26 = .ok (.iconst 4, 1) := by decide +kernel
theorem dJ13_bitCount_95d88_27 : decode cJ13_bitCount_95d88 27 = .ok (.lushr, 1) := by decide +kernel
theorem dJ13_bitCount_95d88_28 : decode cJ13_bitCount_95d88 28 = .ok (.ladd, 1) := by decide +kernel
theorem dJ13_bitCount_95d88_29 : decode cJ13_bitCount_95d88 29 = .ok (.ldc2_w 318, 3) := by decide +kernel
theorem dJ13_bitCount_95d88_32 : decode cJ13_bitCount_95d88 32 = .ok (.land, 1) := by decide +kernel
theorem dJ13_bitCount_95d88_33 : decode cJ13_bitCount_95d88 33 = .ok (.lstore_n 0, 1) := by decide +kernel
theorem dJ13_bitCount_95d88_34 : decode cJ13_bitCount_95d88 34 = .ok (.lload_n 0, 1) := by decide +kernel
theorem dJ13_bitCount_95d88_35 : decode cJ13_bitCount_95d88 35 = .ok (.lload_n 0, 1) := by decide +kernel
theorem dJ13_bitCount_95d88_36 : decode cJ13_bitCount_95d88 36 = .ok (.bipush 8, 2) := by decide +kernel
theorem dJ13_bitCount_95d88_38 : decode cJ13_bitCount_95d88 38 = .ok (.lushr, 1) := by decide +kernel
theorem dJ13_bitCount_95d88_39 : decode cJ13_bitCount_95d88 39 = .ok (.ladd, 1) := by decide +kernel
theorem dJ13_bitCount_95d88_40 : decode cJ13_bitCount_95d88 40 = .ok (.lstore_n 0, 1) := by decide +kernel
theorem dJ13_bitCount_95d88_41 : decode cJ13_bitCount_95d88 41 = .ok (.lload_n 0, 1) := by decide +kernel
theorem dJ13_bitCount_95d88_42 : decode cJ13_bitCount_95d88 42 = .ok (.lload_n 0, 1) := by decide +kernel
theorem dJ13_bitCount_95d88_43 : decode cJ13_bitCount_95d88 43 = .ok (.bipush 16, 2) := by decide +kernel
theorem dJ13_bitCount_95d88_45 : decode cJ13_bitCount_95d88 45 = .ok (.lushr, 1) := by decide +kernel
theorem dJ13_bitCount_95d88_46 : decode cJ13_bitCount_95d88 46 = .ok (.ladd, 1) := by decide +kernel
theorem dJ13_bitCount_95d88_47 : decode cJ13_bitCount_95d88 47 = .ok (.lstore_n 0, 1) := by decide +kernel
theorem dJ13_bitCount_95d88_48 : decode cJ13_bitCount_95d88 48 = .ok (.lload_n 0, 1) := by decide +kernel
theorem dJ13_bitCount_95d88_49 : decode cJ13_bitCount_95d88 49 = .ok (.lload_n 0, 1) := by decide +kernel
theorem dJ13_bitCount_95d88_50 : decode cJ13_bitCount_95d88 50 = .ok (.bipush 32, 2) := by decide +kernel
theorem dJ13_bitCount_95d88_52 : decode cJ13_bitCount_95d88 52 = .ok (.lushr, 1) := by decide +kernel
theorem dJ13_bitCount_95d88_53 : decode cJ13_bitCount_95d88 53 = .ok (.ladd, 1) := by decide +kernel
theorem dJ13_bitCount_95d88_54 : decode cJ13_bitCount_95d88 54 = .ok (.lstore_n 0, 1) := by decide +kernel
theorem dJ13_bitCount_95d88_55 : decode cJ13_bitCount_95d88 55 = .ok (.lload_n 0, 1) := by decide +kernel
theorem dJ13_bitCount_95d88_56 : decode cJ13_bitCount_95d88 56 = .ok (.l2i, 1) := by decide +kernel
theorem dJ13_bitCount_95d88_57 : decode cJ13_bitCount_95d88 57 = .ok (.bipush 127, 2) := by decide +kernel
theorem dJ13_bitCount_95d88_59 : decode cJ13_bitCount_95d88 59 = .ok (.iand, 1) := by decide +kernel
theorem dJ13_bitCount_95d88_60 : decode cJ13_bitCount_95d88 60 = .ok (.ireturn, 1) := by decide +kernel
theorem dJ9_max_7cf53_0 : decode cJ9_max_7cf53 0 = .ok (.iload_n 0, 1) := by decide +kernel
theorem dJ9_max_7cf53_1 : decode cJ9_max_7cf53 1 = .ok (.iload_n 1, 1) := by decide +kernel
theorem dJ9_max_7cf53_2 : decode cJ9_max_7cf53 2 = .ok (.if_icmp .lt 7, 3) := by decide +kernel
theorem dJ9_max_7cf53_5 : decode cJ9_max_7cf53 5 = .ok (.iload_n 0, 1) := by decide +kernel
theorem dJ9_max_7cf53_6 : decode cJ9_max_7cf53 6 = .ok (.goto 4, 3) := by decide +kernel
theorem dJ9_max_7cf53_9 : decode cJ9_max_7cf53 9 = .ok (.iload_n 1, 1) := by decide +kernel
theorem dJ9_max_7cf53_10 : decode cJ9_max_7cf53 10 = .ok (.ireturn, 1) := by decide +kernel
theorem dJ9_min_7cf53_0 : decode cJ9_min_7cf53 0 = .ok (.iload_n 0, 1) := by decide +kernel
end
section
theorem dJ9_min_7cf53_1 : decode cJ9_min_7cf53 1 = .ok (.iload_n 1, 1) := by decide +kernel
theorem dJ9_min_7cf53_2 : decode cJ9_min_7cf53 2 = .ok (.if_icmp .gt 7, 3) := by decide +kernel
theorem dJ9_min_7cf53_5 : decode cJ9_min_7cf53 5 = .ok (.iload_n 0, 1) := by decide +kernel
theorem dJ9_min_7cf53_6 : decode cJ9_min_7cf53 6 = .ok (.goto 4, 3) := by decide +kernel
theorem dJ9_min_7cf53_9 : decode cJ9_min_7cf53 9 = .ok (.iload_n 1, 1) := by decide +kernel
theorem dJ9_min_7cf53_10 : decode cJ9_min_7cf53 10 = .ok (.ireturn, 1) := by decide +kernel
theorem dL_setLast_0 : decode cL_setLast 0 = .ok (.aload_n 3, 1) := by decide +kernel
theorem dL_setLast_1 : decode cL_setLast 1 = .ok (.iconst 0, 1) := by decide +kernel
theorem dL_setLast_2 : decode cL_setLast 2 = .ok (.aload_n 0, 1) := by decide +kernel
theorem dL_setLast_3 : decode cL_setLast 3 = .ok (.iload_n 1, 1) := by decide +kernel
theorem dL_setLast_4 : decode cL_setLast 4 = .ok (.iload_n 2, 1) := by decide +kernel
theorem dL_setLast_5 : decode cL_setLast 5 = .ok (.invokevirtual 7, 3) := by decide +kernel
theorem dL_setLast_8 : decode cL_setLast 8 = .ok (.i2l, 1) := by decide +kernel
theorem dL_setLast_9 : decode cL_setLast 9 = .ok (.lastore, 1) := by decide +kernel
theorem dL_setLast_10 : decode cL_setLast 10 = .ok (.goto 15, 3) := by decide +kernel
theorem dL_setLast_13 : decode cL_setLast 13 = .ok (.astore 4, 2) := by decide +kernel
theorem dL_setLast_15 : decode cL_setLast 15 = .ok (.iconst 1, 1) := by decide +kernel
theorem dL_setLast_16 : decode cL_setLast 16 = .ok (.ireturn, 1) := by decide +kernel
theorem dL_setLast_17 : decode cL_setLast 17 = .ok (.astore 4, 2) := by decide +kernel
theorem dL_setLast_19 : decode cL_setLast 19 = .ok (.iconst 2, 1) := by decide +kernel
theorem dL_setLast_20 : decode cL_setLast 20 = .ok (.ireturn, 1) := by decide +kernel
theorem dL_setLast_21 : decode cL_setLast 21 = .ok (.astore 4, 2) := by decide +kernel
theorem dL_setLast_23 : decode cL_setLast 23 = .ok (.iconst 3, 1) := by decide +kernel
theorem dL_setLast_24 : decode cL_setLast 24 = .ok (.ireturn, 1) := by decide +kernel
theorem dL_setLast_25 : decode cL_setLast 25 = .ok (.iconst 0, 1) := by decide +kernel
theorem dL_setLast_26 : decode cL_setLast 26 = .ok (.ireturn, 1) := by decide +kernel
theorem dL_converter_0 : decode cL_converter 0 = .ok (.aload 5, 2) := by decide +kernel
theorem dL_converter_2 : decode cL_converter 2 = .ok (.iconst 0, 1) := by decide +kernel
theorem dL_converter_3 : decode cL_converter 3 = .ok (.aload_n 0, 1) := by decide +kernel
theorem dL_converter_4 : decode cL_converter 4 = .ok (.iload_n 1, 1) := by decide +kernel
theorem dL_converter_5 : decode cL_converter 5 = .ok (.iload_n 2, 1) := by decide +kernel
theorem dL_converter_6 : decode cL_converter 6 = .ok (.iload_n 3, 1) := by decide +kernel
theorem dL_converter_7 : decode cL_converter 7 = .ok (.iload 4, 2) := by decide +kernel
theorem dL_converter_9 : decode cL_converter 9 = .ok (.invokevirtual 19, 3) := by decide +kernel
theorem dL_converter_12 : decode cL_converter 12 = .ok (.i2l, 1) := by decide +kernel
theorem dL_converter_13 : decode cL_converter 13 = .ok (.lastore, 1) := by decide +kernel
theorem dL_converter_14 : decode cL_converter 14 = .ok (.goto 15, 3) := by decide +kernel
theorem dL_converter_17 : decode cL_converter 17 = .ok (.astore 6, 2) := by decide +kernel
theorem dL_converter_19 : decode cL_converter 19 = .ok (.iconst 1, 1) := by decide +kernel
theorem dL_converter_20 : decode cL_converter 20 = .ok (.ireturn, 1) := by decide +kernel
theorem dL_converter_21 : decode cL_converter 21 = .ok (.astore 6, 2) := by decide +kernel
theorem dL_converter_23 : decode cL_converter 23 = .ok (.iconst 2, 1) := by decide +kernel
theorem dL_converter_24 : decode cL_converter 24 = .ok (.ireturn, 1) := by decide +kernel
theorem dL_converter_25 : decode cL_converter 25 = .ok (.astore 6, 2) := by decide +kernel
theorem dL_converter_27 : decode cL_converter 27 = .ok (.iconst 3, 1) := by decide +kernel
theorem dL_converter_28 : decode cL_converter 28 = .ok (.ireturn, 1) := by decide +kernel
theorem dL_converter_29 : decode cL_converter 29 = .ok (.iconst 0, 1) := by decide +kernel
theorem dL_converter_30 : decode cL_converter 30 = .ok (.ireturn, 1) := by decide +kernel
theorem dL_withdraw_0 : decode cL_withdraw 0 = .ok (.aload_n 2, 1) := by decide +kernel
theorem dL_withdraw_1 : decode cL_withdraw 1 = .ok (.iconst 0, 1) := by decide +kernel
theorem dL_withdraw_2 : decode cL_withdraw 2 = .ok (.aload_n 0, 1) := by decide +kernel
theorem dL_withdraw_3 : decode cL_withdraw 3 = .ok (.iload_n 1, 1) := by decide +kernel
theorem dL_withdraw_4 : decode cL_withdraw 4 = .ok (.invokevirtual 23, 3) := by decide +kernel
theorem dL_withdraw_7 : decode cL_withdraw 7 = .ok (.i2l, 1) := by decide +kernel
theorem dL_withdraw_8 : decode cL_withdraw 8 = .ok (.lastore, 1) := by decide +kernel
theorem dL_withdraw_9 : decode cL_withdraw 9 = .ok (.goto 9, 3) := by decide +kernel
theorem dL_withdraw_12 : decode cL_withdraw 12 = .ok (.astore_n 3, 1) := by decide +kernel
theorem dL_withdraw_13 : decode cL_withdraw 13 = .ok (.iconst 1, 1) := by decide +kernel
theorem dL_withdraw_14 : decode cL_withdraw 14 = .ok (.ireturn, 1) := by decide +kernel
theorem dL_withdraw_15 : decode cL_withdraw 15 = .ok (.astore_n 3, 1) := by decide +kernel
theorem dL_withdraw_16 : decode cL_withdraw 16 = .ok (.iconst 2, 1) := by decide +kernel
theorem dL_withdraw_17 : decode cL_withdraw 17 = .ok (.ireturn, 1) := by decide +kernel
theorem dL_withdraw_18 : decode cL_withdraw 18 = .ok (.iconst 0, 1) := by decide +kernel
theorem dL_withdraw_19 : decode cL_withdraw 19 = .ok (.ireturn, 1) := by decide +kernel
theorem dL_law_0 : decode cL_law 0 = .ok (.aload_n 0, 1) := by decide +kernel
theorem dL_law_1 : decode cL_law 1 = .ok (.iload_n 1, 1) := by decide +kernel
theorem dL_law_2 : decode cL_law 2 = .ok (.iload_n 2, 1) := by decide +kernel
theorem dL_law_3 : decode cL_law 3 = .ok (.iload_n 3, 1) := by decide +kernel
theorem dL_law_4 : decode cL_law 4 = .ok (.iload 4, 2) := by decide +kernel
theorem dL_law_6 : decode cL_law 6 = .ok (.invokevirtual 27, 3) := by decide +kernel
theorem dL_law_9 : decode cL_law 9 = .ok (.goto 11, 3) := by decide +kernel
theorem dL_law_12 : decode cL_law 12 = .ok (.astore 5, 2) := by decide +kernel
theorem dL_law_14 : decode cL_law 14 = .ok (.iconst 1, 1) := by decide +kernel
theorem dL_law_15 : decode cL_law 15 = .ok (.ireturn, 1) := by decide +kernel
theorem dL_law_16 : decode cL_law 16 = .ok (.astore 5, 2) := by decide +kernel
theorem dL_law_18 : decode cL_law 18 = .ok (.iconst 2, 1) := by decide +kernel
theorem dL_law_19 : decode cL_law 19 = .ok (.ireturn, 1) := by decide +kernel
theorem dL_law_20 : decode cL_law 20 = .ok (.iconst 0, 1) := by decide +kernel
theorem dL_law_21 : decode cL_law 21 = .ok (.ireturn, 1) := by decide +kernel
theorem dL_quality_0 : decode cL_quality 0 = .ok (.aload_n 3, 1) := by decide +kernel
theorem dL_quality_1 : decode cL_quality 1 = .ok (.iconst 0, 1) := by decide +kernel
theorem dL_quality_2 : decode cL_quality 2 = .ok (.aload_n 0, 1) := by decide +kernel
theorem dL_quality_3 : decode cL_quality 3 = .ok (.iload_n 1, 1) := by decide +kernel
theorem dL_quality_4 : decode cL_quality 4 = .ok (.iload_n 2, 1) := by decide +kernel
theorem dL_quality_5 : decode cL_quality 5 = .ok (.invokevirtual 31, 3) := by decide +kernel
theorem dL_quality_8 : decode cL_quality 8 = .ok (.i2l, 1) := by decide +kernel
theorem dL_quality_9 : decode cL_quality 9 = .ok (.lastore, 1) := by decide +kernel
theorem dL_quality_10 : decode cL_quality 10 = .ok (.goto 7, 3) := by decide +kernel
theorem dL_quality_13 : decode cL_quality 13 = .ok (.astore 4, 2) := by decide +kernel
theorem dL_quality_15 : decode cL_quality 15 = .ok (.iconst 1, 1) := by decide +kernel
theorem dL_quality_16 : decode cL_quality 16 = .ok (.ireturn, 1) := by decide +kernel
theorem dL_quality_17 : decode cL_quality 17 = .ok (.iconst 0, 1) := by decide +kernel
theorem dL_quality_18 : decode cL_quality 18 = .ok (.ireturn, 1) := by decide +kernel
theorem dL_qualityByAll_0 : decode cL_qualityByAll 0 = .ok (.aload_n 3, 1) := by decide +kernel
theorem dL_qualityByAll_1 : decode cL_qualityByAll 1 = .ok (.iconst 0, 1) := by decide +kernel
theorem dL_qualityByAll_2 : decode cL_qualityByAll 2 = .ok (.aload_n 0, 1) := by decide +kernel
theorem dL_qualityByAll_3 : decode cL_qualityByAll 3 = .ok (.iload_n 1, 1) := by decide +kernel
theorem dL_qualityByAll_4 : decode cL_qualityByAll 4 = .ok (.iload_n 2, 1) := by decide +kernel
theorem dL_qualityByAll_5 : decode cL_qualityByAll 5 = .ok (.invokevirtual 34, 3) := by decide +kernel
theorem dL_qualityByAll_8 : decode cL_qualityByAll 8 = .ok (.i2l, 1) := by decide +kernel
theorem dL_qualityByAll_9 : decode cL_qualityByAll 9 = .ok (.lastore, 1) := by decide +kernel
theorem dL_qualityByAll_10 : decode cL_qualityByAll 10 = .ok (.goto 7, 3) := by decide +kernel
theorem dL_qualityByAll_13 : decode cL_qualityByAll 13 = .ok (.astore 4, 2) := by decide +kernel
theorem dL_qualityByAll_15 : decode cL_qualityByAll 15 = .ok (.iconst 1, 1) := by decide +kernel
theorem dL_qualityByAll_16 : decode cL_qualityByAll 16 = .ok (.ireturn, 1) := by decide +kernel
theorem dL_qualityByAll_17 : decode cL_qualityByAll 17 = .ok (.iconst 0, 1) := by decide +kernel
theorem dL_qualityByAll_18 : decode cL_qualityByAll 18 = .ok (.ireturn, 1) := by decide +kernel
theorem dL_cost_0 : decode cL_cost 0 = .ok (.aload_n 3, 1) := by decide +kernel
theorem dL_cost_1 : decode cL_cost 1 = .ok (.iconst 0, 1) := by decide +kernel
theorem dL_cost_2 : decode cL_cost 2 = .ok (.aload_n 0, 1) := by decide +kernel
theorem dL_cost_3 : decode cL_cost 3 = .ok (.iload_n 1, 1) := by decide +kernel
theorem dL_cost_4 : decode cL_cost 4 = .ok (.iload_n 2, 1) := by decide +kernel
theorem dL_cost_5 : decode cL_cost 5 = .ok (.invokevirtual 37, 3) := by decide +kernel
theorem dL_cost_8 : decode cL_cost 8 = .ok (.i2l, 1) := by decide +kernel
theorem dL_cost_9 : decode cL_cost 9 = .ok (.lastore, 1) := by decide +kernel
theorem dL_cost_10 : decode cL_cost 10 = .ok (.goto 7, 3) := by decide +kernel
theorem dL_cost_13 : decode cL_cost 13 = .ok (.astore 4, 2) := by decide +kernel
theorem dL_cost_15 : decode cL_cost 15 = .ok (.iconst 1, 1) := by decide +kernel
theorem dL_cost_16 : decode cL_cost 16 = .ok (.ireturn, 1) := by decide +kernel
theorem dL_cost_17 : decode cL_cost 17 = .ok (.iconst 0, 1) := by decide +kernel
theorem dL_cost_18 : decode cL_cost 18 = .ok (.ireturn, 1) := by decide +kernel
theorem dL_stepAt_0 : decode cL_stepAt 0 = .ok (.aload 4, 2) := by decide +kernel
theorem dL_stepAt_2 : decode cL_stepAt 2 = .ok (.iconst 0, 1) := by decide +kernel
theorem dL_stepAt_3 : decode cL_stepAt 3 = .ok (.aload_n 0, 1) := by decide +kernel
theorem dL_stepAt_4 : decode cL_stepAt 4 = .ok (.iload_n 1, 1) := by decide +kernel
theorem dL_stepAt_5 : decode cL_stepAt 5 = .ok (.iload_n 2, 1) := by decide +kernel
theorem dL_stepAt_6 : decode cL_stepAt 6 = .ok (.iload_n 3, 1) := by decide +kernel
theorem dL_stepAt_7 : decode cL_stepAt 7 = .ok (.invokevirtual 40, 3) := by decide +kernel
theorem dL_stepAt_10 : decode cL_stepAt 10 = .ok (.i2l, 1) := by decide +kernel
theorem dL_stepAt_11 : decode cL_stepAt 11 = .ok (.lastore, 1) := by decide +kernel
theorem dL_stepAt_12 : decode cL_stepAt 12 = .ok (.goto 7, 3) := by decide +kernel
theorem dL_stepAt_15 : decode cL_stepAt 15 = .ok (.astore 5, 2) := by decide +kernel
theorem dL_stepAt_17 : decode cL_stepAt 17 = .ok (.iconst 1, 1) := by decide +kernel
theorem dL_stepAt_18 : decode cL_stepAt 18 = .ok (.ireturn, 1) := by decide +kernel
theorem dL_stepAt_19 : decode cL_stepAt 19 = .ok (.iconst 0, 1) := by decide +kernel
theorem dL_stepAt_20 : decode cL_stepAt 20 = .ok (.ireturn, 1) := by decide +kernel
theorem dL_file_0 : decode cL_file 0 = .ok (.aload 4, 2) := by decide +kernel
theorem dL_file_2 : decode cL_file 2 = .ok (.iconst 0, 1) := by decide +kernel
theorem dL_file_3 : decode cL_file 3 = .ok (.aload_n 0, 1) := by decide +kernel
theorem dL_file_4 : decode cL_file 4 = .ok (.iload_n 1, 1) := by decide +kernel
theorem dL_file_5 : decode cL_file 5 = .ok (.iload_n 2, 1) := by decide +kernel
theorem dL_file_6 : decode cL_file 6 = .ok (.iload_n 3, 1) := by decide +kernel
theorem dL_file_7 : decode cL_file 7 = .ok (.invokevirtual 44, 3) := by decide +kernel
theorem dL_file_10 : decode cL_file 10 = .ok (.i2l, 1) := by decide +kernel
theorem dL_file_11 : decode cL_file 11 = .ok (.lastore, 1) := by decide +kernel
theorem dL_file_12 : decode cL_file 12 = .ok (.goto 15, 3) := by decide +kernel
theorem dL_file_15 : decode cL_file 15 = .ok (.astore 5, 2) := by decide +kernel
theorem dL_file_17 : decode cL_file 17 = .ok (.iconst 1, 1) := by decide +kernel
theorem dL_file_18 : decode cL_file 18 = .ok (.ireturn, 1) := by decide +kernel
theorem dL_file_19 : decode cL_file 19 = .ok (.astore 5, 2) := by decide +kernel
theorem dL_file_21 : decode cL_file 21 = .ok (.iconst 2, 1) := by decide +kernel
theorem dL_file_22 : decode cL_file 22 = .ok (.ireturn, 1) := by decide +kernel
theorem dL_file_23 : decode cL_file 23 = .ok (.astore 5, 2) := by decide +kernel
theorem dL_file_25 : decode cL_file 25 = .ok (.iconst 3, 1) := by decide +kernel
theorem dL_file_26 : decode cL_file 26 = .ok (.ireturn, 1) := by decide +kernel
theorem dL_file_27 : decode cL_file 27 = .ok (.iconst 0, 1) := by decide +kernel
theorem dL_file_28 : decode cL_file 28 = .ok (.ireturn, 1) := by decide +kernel
theorem dL_hold_0 : decode cL_hold 0 = .ok (.aload_n 3, 1) := by decide +kernel
theorem dL_hold_1 : decode cL_hold 1 = .ok (.iconst 0, 1) := by decide +kernel
theorem dL_hold_2 : decode cL_hold 2 = .ok (.aload_n 0, 1) := by decide +kernel
theorem dL_hold_3 : decode cL_hold 3 = .ok (.iload_n 1, 1) := by decide +kernel
theorem dL_hold_4 : decode cL_hold 4 = .ok (.iload_n 2, 1) := by decide +kernel
theorem dL_hold_5 : decode cL_hold 5 = .ok (.invokevirtual 47, 3) := by decide +kernel
theorem dL_hold_8 : decode cL_hold 8 = .ok (.ifCond .eq 7, 3) := by decide +kernel
theorem dL_hold_11 : decode cL_hold 11 = .ok (.lconst 1, 1) := by decide +kernel
theorem dL_hold_12 : decode cL_hold 12 = .ok (.goto 4, 3) := by decide +kernel
theorem dL_hold_15 : decode cL_hold 15 = .ok (.lconst 0, 1) := by decide +kernel
theorem dL_hold_16 : decode cL_hold 16 = .ok (.lastore, 1) := by decide +kernel
theorem dL_hold_17 : decode cL_hold 17 = .ok (.goto 11, 3) := by decide +kernel
theorem dL_hold_20 : decode cL_hold 20 = .ok (.astore 4, 2) := by decide +kernel
theorem dL_hold_22 : decode cL_hold 22 = .ok (.iconst 1, 1) := by decide +kernel
theorem dL_hold_23 : decode cL_hold 23 = .ok (.ireturn, 1) := by decide +kernel
theorem dL_hold_24 : decode cL_hold 24 = .ok (.astore 4, 2) := by decide +kernel
theorem dL_hold_26 : decode cL_hold 26 = .ok (.iconst 2, 1) := by decide +kernel
theorem dL_hold_27 : decode cL_hold 27 = .ok (.ireturn, 1) := by decide +kernel
theorem dL_hold_28 : decode cL_hold 28 = .ok (.iconst 0, 1) := by decide +kernel
theorem dL_hold_29 : decode cL_hold 29 = .ok (.ireturn, 1) := by decide +kernel
theorem dL_read_0 : decode cL_read 0 = .ok (.aload_n 2, 1) := by decide +kernel
theorem dL_read_1 : decode cL_read 1 = .ok (.iconst 0, 1) := by decide +kernel
theorem dL_read_2 : decode cL_read 2 = .ok (.aload_n 0, 1) := by decide +kernel
theorem dL_read_3 : decode cL_read 3 = .ok (.iload_n 1, 1) := by decide +kernel
theorem dL_read_4 : decode cL_read 4 = .ok (.invokevirtual 51, 3) := by decide +kernel
theorem dL_read_7 : decode cL_read 7 = .ok (.i2l, 1) := by decide +kernel
theorem dL_read_8 : decode cL_read 8 = .ok (.lastore, 1) := by decide +kernel
theorem dL_read_9 : decode cL_read 9 = .ok (.goto 9, 3) := by decide +kernel
theorem dL_read_12 : decode cL_read 12 = .ok (.astore_n 3, 1) := by decide +kernel
theorem dL_read_13 : decode cL_read 13 = .ok (.iconst 1, 1) := by decide +kernel
theorem dL_read_14 : decode cL_read 14 = .ok (.ireturn, 1) := by decide +kernel
theorem dL_read_15 : decode cL_read 15 = .ok (.astore_n 3, 1) := by decide +kernel
theorem dL_read_16 : decode cL_read 16 = .ok (.iconst 2, 1) := by decide +kernel
theorem dL_read_17 : decode cL_read 17 = .ok (.ireturn, 1) := by decide +kernel
theorem dL_read_18 : decode cL_read 18 = .ok (.iconst 0, 1) := by decide +kernel
theorem dL_read_19 : decode cL_read 19 = .ok (.ireturn, 1) := by decide +kernel
theorem dL_move_0 : decode cL_move 0 = .ok (.aload_n 3, 1) := by decide +kernel
theorem dL_move_1 : decode cL_move 1 = .ok (.iconst 0, 1) := by decide +kernel
theorem dL_move_2 : decode cL_move 2 = .ok (.aload_n 0, 1) := by decide +kernel
theorem dL_move_3 : decode cL_move 3 = .ok (.iload_n 1, 1) := by decide +kernel
theorem dL_move_4 : decode cL_move 4 = .ok (.iload_n 2, 1) := by decide +kernel
theorem dL_move_5 : decode cL_move 5 = .ok (.invokevirtual 54, 3) := by decide +kernel
theorem dL_move_8 : decode cL_move 8 = .ok (.i2l, 1) := by decide +kernel
theorem dL_move_9 : decode cL_move 9 = .ok (.lastore, 1) := by decide +kernel
theorem dL_move_10 : decode cL_move 10 = .ok (.goto 15, 3) := by decide +kernel
theorem dL_move_13 : decode cL_move 13 = .ok (.astore 4, 2) := by decide +kernel
theorem dL_move_15 : decode cL_move 15 = .ok (.iconst 1, 1) := by decide +kernel
theorem dL_move_16 : decode cL_move 16 = .ok (.ireturn, 1) := by decide +kernel
theorem dL_move_17 : decode cL_move 17 = .ok (.astore 4, 2) := by decide +kernel
theorem dL_move_19 : decode cL_move 19 = .ok (.iconst 2, 1) := by decide +kernel
theorem dL_move_20 : decode cL_move 20 = .ok (.ireturn, 1) := by decide +kernel
theorem dL_move_21 : decode cL_move 21 = .ok (.astore 4, 2) := by decide +kernel
theorem dL_move_23 : decode cL_move 23 = .ok (.iconst 3, 1) := by decide +kernel
theorem dL_move_24 : decode cL_move 24 = .ok (.ireturn, 1) := by decide +kernel
theorem dL_move_25 : decode cL_move 25 = .ok (.iconst 0, 1) := by decide +kernel
theorem dL_move_26 : decode cL_move 26 = .ok (.ireturn, 1) := by decide +kernel
theorem dL_haven_0 : decode cL_haven 0 = .ok (.aload_n 2, 1) := by decide +kernel
theorem dL_haven_1 : decode cL_haven 1 = .ok (.iconst 0, 1) := by decide +kernel
theorem dL_haven_2 : decode cL_haven 2 = .ok (.aload_n 0, 1) := by decide +kernel
theorem dL_haven_3 : decode cL_haven 3 = .ok (.iload_n 1, 1) := by decide +kernel
theorem dL_haven_4 : decode cL_haven 4 = .ok (.invokevirtual 57, 3) := by decide +kernel
theorem dL_haven_7 : decode cL_haven 7 = .ok (.i2l, 1) := by decide +kernel
theorem dL_haven_8 : decode cL_haven 8 = .ok (.lastore, 1) := by decide +kernel
theorem dL_haven_9 : decode cL_haven 9 = .ok (.goto 6, 3) := by decide +kernel
theorem dL_haven_12 : decode cL_haven 12 = .ok (.astore_n 3, 1) := by decide +kernel
theorem dL_haven_13 : decode cL_haven 13 = .ok (.iconst 1, 1) := by decide +kernel
theorem dL_haven_14 : decode cL_haven 14 = .ok (.ireturn, 1) := by decide +kernel
theorem dL_haven_15 : decode cL_haven 15 = .ok (.iconst 0, 1) := by decide +kernel
theorem dL_haven_16 : decode cL_haven 16 = .ok (.ireturn, 1) := by decide +kernel
theorem dL_isSafe_0 : decode cL_isSafe 0 = .ok (.aload_n 2, 1) := by decide +kernel
theorem dL_isSafe_1 : decode cL_isSafe 1 = .ok (.iconst 0, 1) := by decide +kernel
theorem dL_isSafe_2 : decode cL_isSafe 2 = .ok (.aload_n 0, 1) := by decide +kernel
theorem dL_isSafe_3 : decode cL_isSafe 3 = .ok (.iload_n 1, 1) := by decide +kernel
theorem dL_isSafe_4 : decode cL_isSafe 4 = .ok (.invokevirtual 60, 3) := by decide +kernel
theorem dL_isSafe_7 : decode cL_isSafe 7 = .ok (.ifCond .eq 7, 3) := by decide +kernel
theorem dL_isSafe_10 : decode cL_isSafe 10 = .ok (.lconst 1, 1) := by decide +kernel
theorem dL_isSafe_11 : decode cL_isSafe 11 = .ok (.goto 4, 3) := by decide +kernel
theorem dL_isSafe_14 : decode cL_isSafe 14 = .ok (.lconst 0, 1) := by decide +kernel
theorem dL_isSafe_15 : decode cL_isSafe 15 = .ok (.lastore, 1) := by decide +kernel
theorem dL_isSafe_16 : decode cL_isSafe 16 = .ok (.goto 6, 3) := by decide +kernel
theorem dL_isSafe_19 : decode cL_isSafe 19 = .ok (.astore_n 3, 1) := by decide +kernel
theorem dL_isSafe_20 : decode cL_isSafe 20 = .ok (.iconst 1, 1) := by decide +kernel
theorem dL_isSafe_21 : decode cL_isSafe 21 = .ok (.ireturn, 1) := by decide +kernel
theorem dL_isSafe_22 : decode cL_isSafe 22 = .ok (.iconst 0, 1) := by decide +kernel
theorem dL_isSafe_23 : decode cL_isSafe 23 = .ok (.ireturn, 1) := by decide +kernel
theorem dL_stateOf_0 : decode cL_stateOf 0 = .ok (.aload_n 2, 1) := by decide +kernel
theorem dL_stateOf_1 : decode cL_stateOf 1 = .ok (.iconst 0, 1) := by decide +kernel
theorem dL_stateOf_2 : decode cL_stateOf 2 = .ok (.aload_n 0, 1) := by decide +kernel
theorem dL_stateOf_3 : decode cL_stateOf 3 = .ok (.iload_n 1, 1) := by decide +kernel
theorem dL_stateOf_4 : decode cL_stateOf 4 = .ok (.invokevirtual 64, 3) := by decide +kernel
theorem dL_stateOf_7 : decode cL_stateOf 7 = .ok (.i2l, 1) := by decide +kernel
theorem dL_stateOf_8 : decode cL_stateOf 8 = .ok (.lastore, 1) := by decide +kernel
theorem dL_stateOf_9 : decode cL_stateOf 9 = .ok (.goto 6, 3) := by decide +kernel
theorem dL_stateOf_12 : decode cL_stateOf 12 = .ok (.astore_n 3, 1) := by decide +kernel
theorem dL_stateOf_13 : decode cL_stateOf 13 = .ok (.iconst 1, 1) := by decide +kernel
theorem dL_stateOf_14 : decode cL_stateOf 14 = .ok (.ireturn, 1) := by decide +kernel
theorem dL_stateOf_15 : decode cL_stateOf 15 = .ok (.iconst 0, 1) := by decide +kernel
theorem dL_stateOf_16 : decode cL_stateOf 16 = .ok (.ireturn, 1) := by decide +kernel
theorem dL_formatOf_0 : decode cL_formatOf 0 = .ok (.aload_n 2, 1) := by decide +kernel
theorem dL_formatOf_1 : decode cL_formatOf 1 = .ok (.iconst 0, 1) := by decide +kernel
theorem dL_formatOf_2 : decode cL_formatOf 2 = .ok (.aload_n 0, 1) := by decide +kernel
theorem dL_formatOf_3 : decode cL_formatOf 3 = .ok (.iload_n 1, 1) := by decide +kernel
theorem dL_formatOf_4 : decode cL_formatOf 4 = .ok (.invokevirtual 67, 3) := by decide +kernel
theorem dL_formatOf_7 : decode cL_formatOf 7 = .ok (.i2l, 1) := by decide +kernel
theorem dL_formatOf_8 : decode cL_formatOf 8 = .ok (.lastore, 1) := by decide +kernel
theorem dL_formatOf_9 : decode cL_formatOf 9 = .ok (.goto 6, 3) := by decide +kernel
theorem dL_formatOf_12 : decode cL_formatOf 12 = .ok (.astore_n 3, 1) := by decide +kernel
theorem dL_formatOf_13 : decode cL_formatOf 13 = .ok (.iconst 1, 1) := by decide +kernel
theorem dL_formatOf_14 : decode cL_formatOf 14 = .ok (.ireturn, 1) := by decide +kernel
theorem dL_formatOf_15 : decode cL_formatOf 15 = .ok (.iconst 0, 1) := by decide +kernel
theorem dL_formatOf_16 : decode cL_formatOf 16 = .ok (.ireturn, 1) := by decide +kernel
theorem dL_qualityOf_0 : decode cL_qualityOf 0 = .ok (.aload_n 2, 1) := by decide +kernel
theorem dL_qualityOf_1 : decode cL_qualityOf 1 = .ok (.iconst 0, 1) := by decide +kernel
theorem dL_qualityOf_2 : decode cL_qualityOf 2 = .ok (.aload_n 0, 1) := by decide +kernel
theorem dL_qualityOf_3 : decode cL_qualityOf 3 = .ok (.iload_n 1, 1) := by decide +kernel
theorem dL_qualityOf_4 : decode cL_qualityOf 4 = .ok (.invokevirtual 70, 3) := by decide +kernel
theorem dL_qualityOf_7 : decode cL_qualityOf 7 = .ok (.i2l, 1) := by decide +kernel
theorem dL_qualityOf_8 : decode cL_qualityOf 8 = .ok (.lastore, 1) := by decide +kernel
theorem dL_qualityOf_9 : decode cL_qualityOf 9 = .ok (.goto 6, 3) := by decide +kernel
theorem dL_qualityOf_12 : decode cL_qualityOf 12 = .ok (.astore_n 3, 1) := by decide +kernel
theorem dL_qualityOf_13 : decode cL_qualityOf 13 = .ok (.iconst 1, 1) := by decide +kernel
theorem dL_qualityOf_14 : decode cL_qualityOf 14 = .ok (.ireturn, 1) := by decide +kernel
theorem dL_qualityOf_15 : decode cL_qualityOf 15 = .ok (.iconst 0, 1) := by decide +kernel
theorem dL_qualityOf_16 : decode cL_qualityOf 16 = .ok (.ireturn, 1) := by decide +kernel
theorem dL_endOf_0 : decode cL_endOf 0 = .ok (.aload_n 2, 1) := by decide +kernel
theorem dL_endOf_1 : decode cL_endOf 1 = .ok (.iconst 0, 1) := by decide +kernel
theorem dL_endOf_2 : decode cL_endOf 2 = .ok (.aload_n 0, 1) := by decide +kernel
theorem dL_endOf_3 : decode cL_endOf 3 = .ok (.iload_n 1, 1) := by decide +kernel
theorem dL_endOf_4 : decode cL_endOf 4 = .ok (.invokevirtual 73, 3) := by decide +kernel
theorem dL_endOf_7 : decode cL_endOf 7 = .ok (.i2l, 1) := by decide +kernel
theorem dL_endOf_8 : decode cL_endOf 8 = .ok (.lastore, 1) := by decide +kernel
theorem dL_endOf_9 : decode cL_endOf 9 = .ok (.goto 6, 3) := by decide +kernel
theorem dL_endOf_12 : decode cL_endOf 12 = .ok (.astore_n 3, 1) := by decide +kernel
theorem dL_endOf_13 : decode cL_endOf 13 = .ok (.iconst 1, 1) := by decide +kernel
theorem dL_endOf_14 : decode cL_endOf 14 = .ok (.ireturn, 1) := by decide +kernel
theorem dL_endOf_15 : decode cL_endOf 15 = .ok (.iconst 0, 1) := by decide +kernel
theorem dL_endOf_16 : decode cL_endOf 16 = .ok (.ireturn, 1) := by decide +kernel
theorem dL_setBudget_0 : decode cL_setBudget 0 = .ok (.aload_n 2, 1) := by decide +kernel
theorem dL_setBudget_1 : decode cL_setBudget 1 = .ok (.iconst 0, 1) := by decide +kernel
theorem dL_setBudget_2 : decode cL_setBudget 2 = .ok (.aload_n 0, 1) := by decide +kernel
theorem dL_setBudget_3 : decode cL_setBudget 3 = .ok (.iload_n 1, 1) := by decide +kernel
theorem dL_setBudget_4 : decode cL_setBudget 4 = .ok (.invokevirtual 76, 3) := by decide +kernel
theorem dL_setBudget_7 : decode cL_setBudget 7 = .ok (.i2l, 1) := by decide +kernel
theorem dL_setBudget_8 : decode cL_setBudget 8 = .ok (.lastore, 1) := by decide +kernel
theorem dL_setBudget_9 : decode cL_setBudget 9 = .ok (.goto 6, 3) := by decide +kernel
theorem dL_setBudget_12 : decode cL_setBudget 12 = .ok (.astore_n 3, 1) := by decide +kernel
theorem dL_setBudget_13 : decode cL_setBudget 13 = .ok (.iconst 1, 1) := by decide +kernel
theorem dL_setBudget_14 : decode cL_setBudget 14 = .ok (.ireturn, 1) := by decide +kernel
theorem dL_setBudget_15 : decode cL_setBudget 15 = .ok (.iconst 0, 1) := by decide +kernel
theorem dL_setBudget_16 : decode cL_setBudget 16 = .ok (.ireturn, 1) := by decide +kernel
theorem dL_begin_0 : decode cL_begin 0 = .ok (.aload_n 1, 1) := by decide +kernel
theorem dL_begin_1 : decode cL_begin 1 = .ok (.iconst 0, 1) := by decide +kernel
theorem dL_begin_2 : decode cL_begin 2 = .ok (.aload_n 0, 1) := by decide +kernel
theorem dL_begin_3 : decode cL_begin 3 = .ok (.invokevirtual 79, 3) := by decide +kernel
theorem dL_begin_6 : decode cL_begin 6 = .ok (.i2l, 1) := by decide +kernel
theorem dL_begin_7 : decode cL_begin 7 = .ok (.lastore, 1) := by decide +kernel
theorem dL_begin_8 : decode cL_begin 8 = .ok (.goto 6, 3) := by decide +kernel
theorem dL_begin_11 : decode cL_begin 11 = .ok (.astore_n 2, 1) := by decide +kernel
theorem dL_begin_12 : decode cL_begin 12 = .ok (.iconst 1, 1) := by decide +kernel
theorem dL_begin_13 : decode cL_begin 13 = .ok (.ireturn, 1) := by decide +kernel
theorem dL_begin_14 : decode cL_begin 14 = .ok (.iconst 0, 1) := by decide +kernel
theorem dL_begin_15 : decode cL_begin 15 = .ok (.ireturn, 1) := by decide +kernel
theorem dL_promise_0 : decode cL_promise 0 = .ok (.aload_n 3, 1) := by decide +kernel
theorem dL_promise_1 : decode cL_promise 1 = .ok (.iconst 0, 1) := by decide +kernel
theorem dL_promise_2 : decode cL_promise 2 = .ok (.aload_n 0, 1) := by decide +kernel
theorem dL_promise_3 : decode cL_promise 3 = .ok (.iload_n 1, 1) := by decide +kernel
theorem dL_promise_4 : decode cL_promise 4 = .ok (.iload_n 2, 1) := by decide +kernel
theorem dL_promise_5 : decode cL_promise 5 = .ok (.invokevirtual 83, 3) := by decide +kernel
theorem dL_promise_8 : decode cL_promise 8 = .ok (.i2l, 1) := by decide +kernel
theorem dL_promise_9 : decode cL_promise 9 = .ok (.lastore, 1) := by decide +kernel
theorem dL_promise_10 : decode cL_promise 10 = .ok (.goto 7, 3) := by decide +kernel
theorem dL_promise_13 : decode cL_promise 13 = .ok (.astore 4, 2) := by decide +kernel
theorem dL_promise_15 : decode cL_promise 15 = .ok (.iconst 1, 1) := by decide +kernel
theorem dL_promise_16 : decode cL_promise 16 = .ok (.ireturn, 1) := by decide +kernel
theorem dL_promise_17 : decode cL_promise 17 = .ok (.iconst 0, 1) := by decide +kernel
theorem dL_promise_18 : decode cL_promise 18 = .ok (.ireturn, 1) := by decide +kernel
theorem dL_law__0 : decode cL_law_ 0 = .ok (.new 8, 3) := by decide +kernel
theorem dL_law__3 : decode cL_law_ 3 = .ok (.dup, 1) := by decide +kernel
theorem dL_law__4 : decode cL_law_ 4 = .ok (.invokespecial 86, 3) := by decide +kernel
theorem dL_law__7 : decode cL_law_ 7 = .ok (.astore_n 1, 1) := by decide +kernel
theorem dL_law__8 : decode cL_law_ 8 = .ok (.new 87, 3) := by decide +kernel
theorem dL_law__11 : decode cL_law_ 11 = .ok (.dup, 1) := by decide +kernel
theorem dL_law__12 : decode cL_law_ 12 = .ok (.invokespecial 89, 3) := by decide +kernel
theorem dL_law__15 : decode cL_law_ 15 = .ok (.astore_n 2, 1) := by decide +kernel
theorem dL_law__16 : decode cL_law_ 16 = .ok (.iconst 1, 1) := by decide +kernel
theorem dL_law__17 : decode cL_law_ 17 = .ok (.newarray .long, 2) := by decide +kernel
theorem dL_law__19 : decode cL_law_ 19 = .ok (.astore_n 3, 1) := by decide +kernel
theorem dL_law__20 : decode cL_law_ 20 = .ok (.iconst 0, 1) := by decide +kernel
theorem dL_law__21 : decode cL_law_ 21 = .ok (.istore 4, 2) := by decide +kernel
theorem dL_law__23 : decode cL_law_ 23 = .ok (.iload 4, 2) := by decide +kernel
theorem dL_law__25 : decode cL_law_ 25 = .ok (.aload_n 0, 1) := by decide +kernel
theorem dL_law__26 : decode cL_law_ 26 = .ok (.arraylength, 1) := by decide +kernel
theorem dL_law__27 : decode cL_law_ 27 = .ok (.iconst 5, 1) := by decide +kernel
theorem dL_law__28 : decode cL_law_ 28 = .ok (.isub, 1) := by decide +kernel
theorem dL_law__29 : decode cL_law_ 29 = .ok (.if_icmp .gt 1559, 3) := by decide +kernel
theorem dL_law__32 : decode cL_law_ 32 = .ok (.aload_n 0, 1) := by decide +kernel
theorem dL_law__33 : decode cL_law_ 33 = .ok (.iload 4, 2) := by decide +kernel
theorem dL_law__35 : decode cL_law_ 35 = .ok (.iaload, 1) := by decide +kernel
theorem dL_law__36 : decode cL_law_ 36 = .ok (.bipush 31, 2) := by decide +kernel
theorem dL_law__38 : decode cL_law_ 38 = .ok (.iand, 1) := by decide +kernel
theorem dL_law__39 : decode cL_law_ 39 = .ok (.tableswitch 1543 0 24 #[113, 181, 273, 329, 401, 469, 537, 605, 685, 765, 856, 912, 980, 993, 1049, 1112, 1168, 1224, 1280, 1336, 1392, 1405, 1449, 1462, 1475], 113) := by decide +kernel
theorem dL_law__152 : decode cL_law_ 152 = .ok (.aload_n 1, 1) := by decide +kernel
theorem dL_law__153 : decode cL_law_ 153 = .ok (.aload_n 0, 1) := by decide +kernel
theorem dL_law__154 : decode cL_law_ 154 = .ok (.iload 4, 2) := by decide +kernel
theorem dL_law__156 : decode cL_law_ 156 = .ok (.iconst 1, 1) := by decide +kernel
theorem dL_law__157 : decode cL_law_ 157 = .ok (.iadd, 1) := by decide +kernel
theorem dL_law__158 : decode cL_law_ 158 = .ok (.iaload, 1) := by decide +kernel
theorem dL_law__159 : decode cL_law_ 159 = .ok (.aload_n 0, 1) := by decide +kernel
theorem dL_law__160 : decode cL_law_ 160 = .ok (.iload 4, 2) := by decide +kernel
theorem dL_law__162 : decode cL_law_ 162 = .ok (.iconst 2, 1) := by decide +kernel
theorem dL_law__163 : decode cL_law_ 163 = .ok (.iadd, 1) := by decide +kernel
theorem dL_law__164 : decode cL_law_ 164 = .ok (.iaload, 1) := by decide +kernel
theorem dL_law__165 : decode cL_law_ 165 = .ok (.aload_n 3, 1) := by decide +kernel
theorem dL_law__166 : decode cL_law_ 166 = .ok (.invokestatic 90, 3) := by decide +kernel
theorem dL_law__169 : decode cL_law_ 169 = .ok (.istore 5, 2) := by decide +kernel
theorem dL_law__171 : decode cL_law_ 171 = .ok (.aload_n 2, 1) := by decide +kernel
theorem dL_law__172 : decode cL_law_ 172 = .ok (.aload_n 0, 1) := by decide +kernel
theorem dL_law__173 : decode cL_law_ 173 = .ok (.iload 4, 2) := by decide +kernel
theorem dL_law__175 : decode cL_law_ 175 = .ok (.iconst 1, 1) := by decide +kernel
theorem dL_law__176 : decode cL_law_ 176 = .ok (.iadd, 1) := by decide +kernel
theorem dL_law__177 : decode cL_law_ 177 = .ok (.iaload, 1) := by decide +kernel
theorem dL_law__178 : decode cL_law_ 178 = .ok (.aload_n 0, 1) := by decide +kernel
theorem dL_law__179 : decode cL_law_ 179 = .ok (.iload 4, 2) := by decide +kernel
theorem dL_law__181 : decode cL_law_ 181 = .ok (.iconst 2, 1) := by decide +kernel
theorem dL_law__182 : decode cL_law_ 182 = .ok (.iadd, 1) := by decide +kernel
theorem dL_law__183 : decode cL_law_ 183 = .ok (.iaload, 1) := by decide +kernel
theorem dL_law__184 : decode cL_law_ 184 = .ok (.invokevirtual 95, 3) := by decide +kernel
theorem dL_law__187 : decode cL_law_ 187 = .ok (.istore 6, 2) := by decide +kernel
theorem dL_law__189 : decode cL_law_ 189 = .ok (.aload_n 2, 1) := by decide +kernel
theorem dL_law__190 : decode cL_law_ 190 = .ok (.invokevirtual 96, 3) := by decide +kernel
theorem dL_law__193 : decode cL_law_ 193 = .ok (.iload 5, 2) := by decide +kernel
theorem dL_law__195 : decode cL_law_ 195 = .ok (.if_icmp .eq 5, 3) := by decide +kernel
theorem dL_law__198 : decode cL_law_ 198 = .ok (.iconst 0, 1) := by decide +kernel
theorem dL_law__199 : decode cL_law_ 199 = .ok (.ireturn, 1) := by decide +kernel
theorem dL_law__200 : decode cL_law_ 200 = .ok (.iload 5, 2) := by decide +kernel
theorem dL_law__202 : decode cL_law_ 202 = .ok (.ifCond .ne 15, 3) := by decide +kernel
theorem dL_law__205 : decode cL_law_ 205 = .ok (.aload_n 3, 1) := by decide +kernel
theorem dL_law__206 : decode cL_law_ 206 = .ok (.iconst 0, 1) := by decide +kernel
theorem dL_law__207 : decode cL_law_ 207 = .ok (.laload, 1) := by decide +kernel
theorem dL_law__208 : decode cL_law_ 208 = .ok (.iload 6, 2) := by decide +kernel
theorem dL_law__210 : decode cL_law_ 210 = .ok (.i2l, 1) := by decide +kernel
theorem dL_law__211 : decode cL_law_ 211 = .ok (.lcmp, 1) := by decide +kernel
theorem dL_law__212 : decode cL_law_ 212 = .ok (.ifCond .eq 5, 3) := by decide +kernel
theorem dL_law__215 : decode cL_law_ 215 = .ok (.iconst 0, 1) := by decide +kernel
theorem dL_law__216 : decode cL_law_ 216 = .ok (.ireturn, 1) := by decide +kernel
theorem dL_law__217 : decode cL_law_ 217 = .ok (.goto 1365, 3) := by decide +kernel
theorem dL_law__220 : decode cL_law_ 220 = .ok (.aload_n 1, 1) := by decide +kernel
theorem dL_law__221 : decode cL_law_ 221 = .ok (.aload_n 0, 1) := by decide +kernel
theorem dL_law__222 : decode cL_law_ 222 = .ok (.iload 4, 2) := by decide +kernel
theorem dL_law__224 : decode cL_law_ 224 = .ok (.iconst 1, 1) := by decide +kernel
theorem dL_law__225 : decode cL_law_ 225 = .ok (.iadd, 1) := by decide +kernel
theorem dL_law__226 : decode cL_law_ 226 = .ok (.iaload, 1) := by decide +kernel
theorem dL_law__227 : decode cL_law_ 227 = .ok (.aload_n 0, 1) := by decide +kernel
theorem dL_law__228 : decode cL_law_ 228 = .ok (.iload 4, 2) := by decide +kernel
theorem dL_law__230 : decode cL_law_ 230 = .ok (.iconst 2, 1) := by decide +kernel
theorem dL_law__231 : decode cL_law_ 231 = .ok (.iadd, 1) := by decide +kernel
theorem dL_law__232 : decode cL_law_ 232 = .ok (.iaload, 1) := by decide +kernel
theorem dL_law__233 : decode cL_law_ 233 = .ok (.aload_n 0, 1) := by decide +kernel
theorem dL_law__234 : decode cL_law_ 234 = .ok (.iload 4, 2) := by decide +kernel
theorem dL_law__236 : decode cL_law_ 236 = .ok (.iconst 3, 1) := by decide +kernel
theorem dL_law__237 : decode cL_law_ 237 = .ok (.iadd, 1) := by decide +kernel
theorem dL_law__238 : decode cL_law_ 238 = .ok (.iaload, 1) := by decide +kernel
theorem dL_law__239 : decode cL_law_ 239 = .ok (.aload_n 0, 1) := by decide +kernel
theorem dL_law__240 : decode cL_law_ 240 = .ok (.iload 4, 2) := by decide +kernel
theorem dL_law__242 : decode cL_law_ 242 = .ok (.iconst 4, 1) := by decide +kernel
theorem dL_law__243 : decode cL_law_ 243 = .ok (.iadd, 1) := by decide +kernel
theorem dL_law__244 : decode cL_law_ 244 = .ok (.iaload, 1) := by decide +kernel
theorem dL_law__245 : decode cL_law_ 245 = .ok (.aload_n 3, 1) := by decide +kernel
theorem dL_law__246 : decode cL_law_ 246 = .ok (.invokestatic 99, 3) := by decide +kernel
theorem dL_law__249 : decode cL_law_ 249 = .ok (.istore 5, 2) := by decide +kernel
theorem dL_law__251 : decode cL_law_ 251 = .ok (.aload_n 2, 1) := by decide +kernel
theorem dL_law__252 : decode cL_law_ 252 = .ok (.aload_n 0, 1) := by decide +kernel
theorem dL_law__253 : decode cL_law_ 253 = .ok (.iload 4, 2) := by decide +kernel
theorem dL_law__255 : decode cL_law_ 255 = .ok (.iconst 1, 1) := by decide +kernel
theorem dL_law__256 : decode cL_law_ 256 = .ok (.iadd, 1) := by decide +kernel
theorem dL_law__257 : decode cL_law_ 257 = .ok (.iaload, 1) := by decide +kernel
theorem dL_law__258 : decode cL_law_ 258 = .ok (.aload_n 0, 1) := by decide +kernel
theorem dL_law__259 : decode cL_law_ 259 = .ok (.iload 4, 2) := by decide +kernel
theorem dL_law__261 : decode cL_law_ 261 = .ok (.iconst 2, 1) := by decide +kernel
theorem dL_law__262 : decode cL_law_ 262 = .ok (.iadd, 1) := by decide +kernel
theorem dL_law__263 : decode cL_law_ 263 = .ok (.iaload, 1) := by decide +kernel
theorem dL_law__264 : decode cL_law_ 264 = .ok (.aload_n 0, 1) := by decide +kernel
theorem dL_law__265 : decode cL_law_ 265 = .ok (.iload 4, 2) := by decide +kernel
theorem dL_law__267 : decode cL_law_ 267 = .ok (.iconst 3, 1) := by decide +kernel
theorem dL_law__268 : decode cL_law_ 268 = .ok (.iadd, 1) := by decide +kernel
theorem dL_law__269 : decode cL_law_ 269 = .ok (.iaload, 1) := by decide +kernel
theorem dL_law__270 : decode cL_law_ 270 = .ok (.aload_n 0, 1) := by decide +kernel
theorem dL_law__271 : decode cL_law_ 271 = .ok (.iload 4, 2) := by decide +kernel
theorem dL_law__273 : decode cL_law_ 273 = .ok (.iconst 4, 1) := by decide +kernel
theorem dL_law__274 : decode cL_law_ 274 = .ok (.iadd, 1) := by decide +kernel
theorem dL_law__275 : decode cL_law_ 275 = .ok (.iaload, 1) := by decide +kernel
theorem dL_law__276 : decode cL_law_ 276 = .ok (.invokevirtual 102, 3) := by decide +kernel
theorem dL_law__279 : decode cL_law_ 279 = .ok (.istore 6, 2) := by decide +kernel
theorem dL_law__281 : decode cL_law_ 281 = .ok (.aload_n 2, 1) := by decide +kernel
theorem dL_law__282 : decode cL_law_ 282 = .ok (.invokevirtual 96, 3) := by decide +kernel
theorem dL_law__285 : decode cL_law_ 285 = .ok (.iload 5, 2) := by decide +kernel
theorem dL_law__287 : decode cL_law_ 287 = .ok (.if_icmp .eq 5, 3) := by decide +kernel
theorem dL_law__290 : decode cL_law_ 290 = .ok (.iconst 0, 1) := by decide +kernel
theorem dL_law__291 : decode cL_law_ 291 = .ok (.ireturn, 1) := by decide +kernel
theorem dL_law__292 : decode cL_law_ 292 = .ok (.iload 5, 2) := by decide +kernel
theorem dL_law__294 : decode cL_law_ 294 = .ok (.ifCond .ne 15, 3) := by decide +kernel
theorem dL_law__297 : decode cL_law_ 297 = .ok (.aload_n 3, 1) := by decide +kernel
theorem dL_law__298 : decode cL_law_ 298 = .ok (.iconst 0, 1) := by decide +kernel
theorem dL_law__299 : decode cL_law_ 299 = .ok (.laload, 1) := by decide +kernel
theorem dL_law__300 : decode cL_law_ 300 = .ok (.iload 6, 2) := by decide +kernel
theorem dL_law__302 : decode cL_law_ 302 = .ok (.i2l, 1) := by decide +kernel
theorem dL_law__303 : decode cL_law_ 303 = .ok (.lcmp, 1) := by decide +kernel
theorem dL_law__304 : decode cL_law_ 304 = .ok (.ifCond .eq 5, 3) := by decide +kernel
theorem dL_law__307 : decode cL_law_ 307 = .ok (.iconst 0, 1) := by decide +kernel
theorem dL_law__308 : decode cL_law_ 308 = .ok (.ireturn, 1) := by decide +kernel
theorem dL_law__309 : decode cL_law_ 309 = .ok (.goto 1273, 3) := by decide +kernel
theorem dL_law__312 : decode cL_law_ 312 = .ok (.aload_n 1, 1) := by decide +kernel
theorem dL_law__313 : decode cL_law_ 313 = .ok (.aload_n 0, 1) := by decide +kernel
theorem dL_law__314 : decode cL_law_ 314 = .ok (.iload 4, 2) := by decide +kernel
theorem dL_law__316 : decode cL_law_ 316 = .ok (.iconst 1, 1) := by decide +kernel
theorem dL_law__317 : decode cL_law_ 317 = .ok (.iadd, 1) := by decide +kernel
theorem dL_law__318 : decode cL_law_ 318 = .ok (.iaload, 1) := by decide +kernel
theorem dL_law__319 : decode cL_law_ 319 = .ok (.aload_n 3, 1) := by decide +kernel
theorem dL_law__320 : decode cL_law_ 320 = .ok (.invokestatic 103, 3) := by decide +kernel
theorem dL_law__323 : decode cL_law_ 323 = .ok (.istore 5, 2) := by decide +kernel
theorem dL_law__325 : decode cL_law_ 325 = .ok (.aload_n 2, 1) := by decide +kernel
theorem dL_law__326 : decode cL_law_ 326 = .ok (.aload_n 0, 1) := by decide +kernel
theorem dL_law__327 : decode cL_law_ 327 = .ok (.iload 4, 2) := by decide +kernel
theorem dL_law__329 : decode cL_law_ 329 = .ok (.iconst 1, 1) := by decide +kernel
theorem dL_law__330 : decode cL_law_ 330 = .ok (.iadd, 1) := by decide +kernel
theorem dL_law__331 : decode cL_law_ 331 = .ok (.iaload, 1) := by decide +kernel
theorem dL_law__332 : decode cL_law_ 332 = .ok (.invokevirtual 106, 3) := by decide +kernel
theorem dL_law__335 : decode cL_law_ 335 = .ok (.istore 6, 2) := by decide +kernel
theorem dL_law__337 : decode cL_law_ 337 = .ok (.aload_n 2, 1) := by decide +kernel
theorem dL_law__338 : decode cL_law_ 338 = .ok (.invokevirtual 96, 3) := by decide +kernel
theorem dL_law__341 : decode cL_law_ 341 = .ok (.iload 5, 2) := by decide +kernel
theorem dL_law__343 : decode cL_law_ 343 = .ok (.if_icmp .eq 5, 3) := by decide +kernel
theorem dL_law__346 : decode cL_law_ 346 = .ok (.iconst 0, 1) := by decide +kernel
theorem dL_law__347 : decode cL_law_ 347 = .ok (.ireturn, 1) := by decide +kernel
theorem dL_law__348 : decode cL_law_ 348 = .ok (.iload 5, 2) := by decide +kernel
theorem dL_law__350 : decode cL_law_ 350 = .ok (.ifCond .ne 15, 3) := by decide +kernel
theorem dL_law__353 : decode cL_law_ 353 = .ok (.aload_n 3, 1) := by decide +kernel
theorem dL_law__354 : decode cL_law_ 354 = .ok (.iconst 0, 1) := by decide +kernel
theorem dL_law__355 : decode cL_law_ 355 = .ok (.laload, 1) := by decide +kernel
theorem dL_law__356 : decode cL_law_ 356 = .ok (.iload 6, 2) := by decide +kernel
theorem dL_law__358 : decode cL_law_ 358 = .ok (.i2l, 1) := by decide +kernel
theorem dL_law__359 : decode cL_law_ 359 = .ok (.lcmp, 1) := by decide +kernel
theorem dL_law__360 : decode cL_law_ 360 = .ok (.ifCond .eq 5, 3) := by decide +kernel
theorem dL_law__363 : decode cL_law_ 363 = .ok (.iconst 0, 1) := by decide +kernel
theorem dL_law__364 : decode cL_law_ 364 = .ok (.ireturn, 1) := by decide +kernel
theorem dL_law__365 : decode cL_law_ 365 = .ok (.goto 1217, 3) := by decide +kernel
theorem dL_law__368 : decode cL_law_ 368 = .ok (.aload_n 1, 1) := by decide +kernel
theorem dL_law__369 : decode cL_law_ 369 = .ok (.aload_n 0, 1) := by decide +kernel
theorem dL_law__370 : decode cL_law_ 370 = .ok (.iload 4, 2) := by decide +kernel
theorem dL_law__372 : decode cL_law_ 372 = .ok (.iconst 1, 1) := by decide +kernel
theorem dL_law__373 : decode cL_law_ 373 = .ok (.iadd, 1) := by decide +kernel
theorem dL_law__374 : decode cL_law_ 374 = .ok (.iaload, 1) := by decide +kernel
theorem dL_law__375 : decode cL_law_ 375 = .ok (.aload_n 0, 1) := by decide +kernel
theorem dL_law__376 : decode cL_law_ 376 = .ok (.iload 4, 2) := by decide +kernel
theorem dL_law__378 : decode cL_law_ 378 = .ok (.iconst 2, 1) := by decide +kernel
theorem dL_law__379 : decode cL_law_ 379 = .ok (.iadd, 1) := by decide +kernel
theorem dL_law__380 : decode cL_law_ 380 = .ok (.iaload, 1) := by decide +kernel
theorem dL_law__381 : decode cL_law_ 381 = .ok (.aload_n 0, 1) := by decide +kernel
theorem dL_law__382 : decode cL_law_ 382 = .ok (.iload 4, 2) := by decide +kernel
theorem dL_law__384 : decode cL_law_ 384 = .ok (.iconst 3, 1) := by decide +kernel
theorem dL_law__385 : decode cL_law_ 385 = .ok (.iadd, 1) := by decide +kernel
theorem dL_law__386 : decode cL_law_ 386 = .ok (.iaload, 1) := by decide +kernel
theorem dL_law__387 : decode cL_law_ 387 = .ok (.aload_n 0, 1) := by decide +kernel
theorem dL_law__388 : decode cL_law_ 388 = .ok (.iload 4, 2) := by decide +kernel
theorem dL_law__390 : decode cL_law_ 390 = .ok (.iconst 4, 1) := by decide +kernel
theorem dL_law__391 : decode cL_law_ 391 = .ok (.iadd, 1) := by decide +kernel
theorem dL_law__392 : decode cL_law_ 392 = .ok (.iaload, 1) := by decide +kernel
theorem dL_law__393 : decode cL_law_ 393 = .ok (.invokestatic 107, 3) := by decide +kernel
theorem dL_law__396 : decode cL_law_ 396 = .ok (.istore 5, 2) := by decide +kernel
theorem dL_law__398 : decode cL_law_ 398 = .ok (.aload_n 2, 1) := by decide +kernel
theorem dL_law__399 : decode cL_law_ 399 = .ok (.aload_n 0, 1) := by decide +kernel
theorem dL_law__400 : decode cL_law_ 400 = .ok (.iload 4, 2) := by decide +kernel
theorem dL_law__402 : decode cL_law_ 402 = .ok (.iconst 1, 1) := by decide +kernel
theorem dL_law__403 : decode cL_law_ 403 = .ok (.iadd, 1) := by decide +kernel
theorem dL_law__404 : decode cL_law_ 404 = .ok (.iaload, 1) := by decide +kernel
theorem dL_law__405 : decode cL_law_ 405 = .ok (.aload_n 0, 1) := by decide +kernel
theorem dL_law__406 : decode cL_law_ 406 = .ok (.iload 4, 2) := by decide +kernel
theorem dL_law__408 : decode cL_law_ 408 = .ok (.iconst 2, 1) := by decide +kernel
theorem dL_law__409 : decode cL_law_ 409 = .ok (.iadd, 1) := by decide +kernel
theorem dL_law__410 : decode cL_law_ 410 = .ok (.iaload, 1) := by decide +kernel
theorem dL_law__411 : decode cL_law_ 411 = .ok (.aload_n 0, 1) := by decide +kernel
theorem dL_law__412 : decode cL_law_ 412 = .ok (.iload 4, 2) := by decide +kernel
theorem dL_law__414 : decode cL_law_ 414 = .ok (.iconst 3, 1) := by decide +kernel
theorem dL_law__415 : decode cL_law_ 415 = .ok (.iadd, 1) := by decide +kernel
theorem dL_law__416 : decode cL_law_ 416 = .ok (.iaload, 1) := by decide +kernel
theorem dL_law__417 : decode cL_law_ 417 = .ok (.aload_n 0, 1) := by decide +kernel
theorem dL_law__418 : decode cL_law_ 418 = .ok (.iload 4, 2) := by decide +kernel
theorem dL_law__420 : decode cL_law_ 420 = .ok (.iconst 4, 1) := by decide +kernel
theorem dL_law__421 : decode cL_law_ 421 = .ok (.iadd, 1) := by decide +kernel
theorem dL_law__422 : decode cL_law_ 422 = .ok (.iaload, 1) := by decide +kernel
theorem dL_law__423 : decode cL_law_ 423 = .ok (.invokevirtual 110, 3) := by decide +kernel
theorem dL_law__426 : decode cL_law_ 426 = .ok (.aload_n 2, 1) := by decide +kernel
theorem dL_law__427 : decode cL_law_ 427 = .ok (.invokevirtual 96, 3) := by decide +kernel
theorem dL_law__430 : decode cL_law_ 430 = .ok (.iload 5, 2) := by decide +kernel
theorem dL_law__432 : decode cL_law_ 432 = .ok (.if_icmp .eq 5, 3) := by decide +kernel
theorem dL_law__435 : decode cL_law_ 435 = .ok (.iconst 0, 1) := by decide +kernel
theorem dL_law__436 : decode cL_law_ 436 = .ok (.ireturn, 1) := by decide +kernel
theorem dL_law__437 : decode cL_law_ 437 = .ok (.goto 1145, 3) := by decide +kernel
theorem dL_law__440 : decode cL_law_ 440 = .ok (.aload_n 1, 1) := by decide +kernel
theorem dL_law__441 : decode cL_law_ 441 = .ok (.aload_n 0, 1) := by decide +kernel
theorem dL_law__442 : decode cL_law_ 442 = .ok (.iload 4, 2) := by decide +kernel
theorem dL_law__444 : decode cL_law_ 444 = .ok (.iconst 1, 1) := by decide +kernel
theorem dL_law__445 : decode cL_law_ 445 = .ok (.iadd, 1) := by decide +kernel
theorem dL_law__446 : decode cL_law_ 446 = .ok (.iaload, 1) := by decide +kernel
theorem dL_law__447 : decode cL_law_ 447 = .ok (.aload_n 0, 1) := by decide +kernel
theorem dL_law__448 : decode cL_law_ 448 = .ok (.iload 4, 2) := by decide +kernel
theorem dL_law__450 : decode cL_law_ 450 = .ok (.iconst 2, 1) := by decide +kernel
theorem dL_law__451 : decode cL_law_ 451 = .ok (.iadd, 1) := by decide +kernel
theorem dL_law__452 : decode cL_law_ 452 = .ok (.iaload, 1) := by decide +kernel
theorem dL_law__453 : decode cL_law_ 453 = .ok (.aload_n 3, 1) := by decide +kernel
theorem dL_law__454 : decode cL_law_ 454 = .ok (.invokestatic 111, 3) := by decide +kernel
theorem dL_law__457 : decode cL_law_ 457 = .ok (.istore 5, 2) := by decide +kernel
theorem dL_law__459 : decode cL_law_ 459 = .ok (.aload_n 2, 1) := by decide +kernel
theorem dL_law__460 : decode cL_law_ 460 = .ok (.aload_n 0, 1) := by decide +kernel
theorem dL_law__461 : decode cL_law_ 461 = .ok (.iload 4, 2) := by decide +kernel
theorem dL_law__463 : decode cL_law_ 463 = .ok (.iconst 1, 1) := by decide +kernel
theorem dL_law__464 : decode cL_law_ 464 = .ok (.iadd, 1) := by decide +kernel
theorem dL_law__465 : decode cL_law_ 465 = .ok (.iaload, 1) := by decide +kernel
theorem dL_law__466 : decode cL_law_ 466 = .ok (.aload_n 0, 1) := by decide +kernel
theorem dL_law__467 : decode cL_law_ 467 = .ok (.iload 4, 2) := by decide +kernel
theorem dL_law__469 : decode cL_law_ 469 = .ok (.iconst 2, 1) := by decide +kernel
theorem dL_law__470 : decode cL_law_ 470 = .ok (.iadd, 1) := by decide +kernel
theorem dL_law__471 : decode cL_law_ 471 = .ok (.iaload, 1) := by decide +kernel
theorem dL_law__472 : decode cL_law_ 472 = .ok (.invokevirtual 113, 3) := by decide +kernel
theorem dL_law__475 : decode cL_law_ 475 = .ok (.istore 6, 2) := by decide +kernel
theorem dL_law__477 : decode cL_law_ 477 = .ok (.aload_n 2, 1) := by decide +kernel
theorem dL_law__478 : decode cL_law_ 478 = .ok (.invokevirtual 96, 3) := by decide +kernel
theorem dL_law__481 : decode cL_law_ 481 = .ok (.iload 5, 2) := by decide +kernel
theorem dL_law__483 : decode cL_law_ 483 = .ok (.if_icmp .eq 5, 3) := by decide +kernel
theorem dL_law__486 : decode cL_law_ 486 = .ok (.iconst 0, 1) := by decide +kernel
theorem dL_law__487 : decode cL_law_ 487 = .ok (.ireturn, 1) := by decide +kernel
theorem dL_law__488 : decode cL_law_ 488 = .ok (.iload 5, 2) := by decide +kernel
theorem dL_law__490 : decode cL_law_ 490 = .ok (.ifCond .ne 15, 3) := by decide +kernel
theorem dL_law__493 : decode cL_law_ 493 = .ok (.aload_n 3, 1) := by decide +kernel
theorem dL_law__494 : decode cL_law_ 494 = .ok (.iconst 0, 1) := by decide +kernel
theorem dL_law__495 : decode cL_law_ 495 = .ok (.laload, 1) := by decide +kernel
theorem dL_law__496 : decode cL_law_ 496 = .ok (.iload 6, 2) := by decide +kernel
theorem dL_law__498 : decode cL_law_ 498 = .ok (.i2l, 1) := by decide +kernel
theorem dL_law__499 : decode cL_law_ 499 = .ok (.lcmp, 1) := by decide +kernel
theorem dL_law__500 : decode cL_law_ 500 = .ok (.ifCond .eq 5, 3) := by decide +kernel
theorem dL_law__503 : decode cL_law_ 503 = .ok (.iconst 0, 1) := by decide +kernel
theorem dL_law__504 : decode cL_law_ 504 = .ok (.ireturn, 1) := by decide +kernel
theorem dL_law__505 : decode cL_law_ 505 = .ok (.goto 1077, 3) := by decide +kernel
theorem dL_law__508 : decode cL_law_ 508 = .ok (.aload_n 1, 1) := by decide +kernel
theorem dL_law__509 : decode cL_law_ 509 = .ok (.aload_n 0, 1) := by decide +kernel
theorem dL_law__510 : decode cL_law_ 510 = .ok (.iload 4, 2) := by decide +kernel
theorem dL_law__512 : decode cL_law_ 512 = .ok (.iconst 1, 1) := by decide +kernel
theorem dL_law__513 : decode cL_law_ 513 = .ok (.iadd, 1) := by decide +kernel
theorem dL_law__514 : decode cL_law_ 514 = .ok (.iaload, 1) := by decide +kernel
theorem dL_law__515 : decode cL_law_ 515 = .ok (.aload_n 0, 1) := by decide +kernel
theorem dL_law__516 : decode cL_law_ 516 = .ok (.iload 4, 2) := by decide +kernel
theorem dL_law__518 : decode cL_law_ 518 = .ok (.iconst 2, 1) := by decide +kernel
theorem dL_law__519 : decode cL_law_ 519 = .ok (.iadd, 1) := by decide +kernel
theorem dL_law__520 : decode cL_law_ 520 = .ok (.iaload, 1) := by decide +kernel
theorem dL_law__521 : decode cL_law_ 521 = .ok (.aload_n 3, 1) := by decide +kernel
theorem dL_law__522 : decode cL_law_ 522 = .ok (.invokestatic 114, 3) := by decide +kernel
theorem dL_law__525 : decode cL_law_ 525 = .ok (.istore 5, 2) := by decide +kernel
theorem dL_law__527 : decode cL_law_ 527 = .ok (.aload_n 2, 1) := by decide +kernel
theorem dL_law__528 : decode cL_law_ 528 = .ok (.aload_n 0, 1) := by decide +kernel
theorem dL_law__529 : decode cL_law_ 529 = .ok (.iload 4, 2) := by decide +kernel
theorem dL_law__531 : decode cL_law_ 531 = .ok (.iconst 1, 1) := by decide +kernel
theorem dL_law__532 : decode cL_law_ 532 = .ok (.iadd, 1) := by decide +kernel
theorem dL_law__533 : decode cL_law_ 533 = .ok (.iaload, 1) := by decide +kernel
theorem dL_law__534 : decode cL_law_ 534 = .ok (.aload_n 0, 1) := by decide +kernel
theorem dL_law__535 : decode cL_law_ 535 = .ok (.iload 4, 2) := by decide +kernel
theorem dL_law__537 : decode cL_law_ 537 = .ok (.iconst 2, 1) := by decide +kernel
theorem dL_law__538 : decode cL_law_ 538 = .ok (.iadd, 1) := by decide +kernel
theorem dL_law__539 : decode cL_law_ 539 = .ok (.iaload, 1) := by decide +kernel
theorem dL_law__540 : decode cL_law_ 540 = .ok (.invokevirtual 116, 3) := by decide +kernel
theorem dL_law__543 : decode cL_law_ 543 = .ok (.istore 6, 2) := by decide +kernel
theorem dL_law__545 : decode cL_law_ 545 = .ok (.aload_n 2, 1) := by decide +kernel
theorem dL_law__546 : decode cL_law_ 546 = .ok (.invokevirtual 96, 3) := by decide +kernel
theorem dL_law__549 : decode cL_law_ 549 = .ok (.iload 5, 2) := by decide +kernel
theorem dL_law__551 : decode cL_law_ 551 = .ok (.if_icmp .eq 5, 3) := by decide +kernel
theorem dL_law__554 : decode cL_law_ 554 = .ok (.iconst 0, 1) := by decide +kernel
theorem dL_law__555 : decode cL_law_ 555 = .ok (.ireturn, 1) := by decide +kernel
theorem dL_law__556 : decode cL_law_ 556 = .ok (.iload 5, 2) := by decide +kernel
theorem dL_law__558 : decode cL_law_ 558 = .ok (.ifCond .ne 15, 3) := by decide +kernel
theorem dL_law__561 : decode cL_law_ 561 = .ok (.aload_n 3, 1) := by decide +kernel
theorem dL_law__562 : decode cL_law_ 562 = .ok (.iconst 0, 1) := by decide +kernel
theorem dL_law__563 : decode cL_law_ 563 = .ok (.laload, 1) := by decide +kernel
theorem dL_law__564 : decode cL_law_ 564 = .ok (.iload 6, 2) := by decide +kernel
theorem dL_law__566 : decode cL_law_ 566 = .ok (.i2l, 1) := by decide +kernel
theorem dL_law__567 : decode cL_law_ 567 = .ok (.lcmp, 1) := by decide +kernel
theorem dL_law__568 : decode cL_law_ 568 = .ok (.ifCond .eq 5, 3) := by decide +kernel
theorem dL_law__571 : decode cL_law_ 571 = .ok (.iconst 0, 1) := by decide +kernel
theorem dL_law__572 : decode cL_law_ 572 = .ok (.ireturn, 1) := by decide +kernel
theorem dL_law__573 : decode cL_law_ 573 = .ok (.goto 1009, 3) := by decide +kernel
theorem dL_law__576 : decode cL_law_ 576 = .ok (.aload_n 1, 1) := by decide +kernel
theorem dL_law__577 : decode cL_law_ 577 = .ok (.aload_n 0, 1) := by decide +kernel
theorem dL_law__578 : decode cL_law_ 578 = .ok (.iload 4, 2) := by decide +kernel
theorem dL_law__580 : decode cL_law_ 580 = .ok (.iconst 1, 1) := by decide +kernel
theorem dL_law__581 : decode cL_law_ 581 = .ok (.iadd, 1) := by decide +kernel
theorem dL_law__582 : decode cL_law_ 582 = .ok (.iaload, 1) := by decide +kernel
theorem dL_law__583 : decode cL_law_ 583 = .ok (.aload_n 0, 1) := by decide +kernel
theorem dL_law__584 : decode cL_law_ 584 = .ok (.iload 4, 2) := by decide +kernel
theorem dL_law__586 : decode cL_law_ 586 = .ok (.iconst 2, 1) := by decide +kernel
theorem dL_law__587 : decode cL_law_ 587 = .ok (.iadd, 1) := by decide +kernel
theorem dL_law__588 : decode cL_law_ 588 = .ok (.iaload, 1) := by decide +kernel
theorem dL_law__589 : decode cL_law_ 589 = .ok (.aload_n 3, 1) := by decide +kernel
theorem dL_law__590 : decode cL_law_ 590 = .ok (.invokestatic 117, 3) := by decide +kernel
theorem dL_law__593 : decode cL_law_ 593 = .ok (.istore 5, 2) := by decide +kernel
theorem dL_law__595 : decode cL_law_ 595 = .ok (.aload_n 2, 1) := by decide +kernel
theorem dL_law__596 : decode cL_law_ 596 = .ok (.aload_n 0, 1) := by decide +kernel
theorem dL_law__597 : decode cL_law_ 597 = .ok (.iload 4, 2) := by decide +kernel
theorem dL_law__599 : decode cL_law_ 599 = .ok (.iconst 1, 1) := by decide +kernel
theorem dL_law__600 : decode cL_law_ 600 = .ok (.iadd, 1) := by decide +kernel
theorem dL_law__601 : decode cL_law_ 601 = .ok (.iaload, 1) := by decide +kernel
theorem dL_law__602 : decode cL_law_ 602 = .ok (.aload_n 0, 1) := by decide +kernel
theorem dL_law__603 : decode cL_law_ 603 = .ok (.iload 4, 2) := by decide +kernel
theorem dL_law__605 : decode cL_law_ 605 = .ok (.iconst 2, 1) := by decide +kernel
theorem dL_law__606 : decode cL_law_ 606 = .ok (.iadd, 1) := by decide +kernel
theorem dL_law__607 : decode cL_law_ 607 = .ok (.iaload, 1) := by decide +kernel
theorem dL_law__608 : decode cL_law_ 608 = .ok (.invokevirtual 119, 3) := by decide +kernel
theorem dL_law__611 : decode cL_law_ 611 = .ok (.istore 6, 2) := by decide +kernel
theorem dL_law__613 : decode cL_law_ 613 = .ok (.aload_n 2, 1) := by decide +kernel
theorem dL_law__614 : decode cL_law_ 614 = .ok (.invokevirtual 96, 3) := by decide +kernel
theorem dL_law__617 : decode cL_law_ 617 = .ok (.iload 5, 2) := by decide +kernel
theorem dL_law__619 : decode cL_law_ 619 = .ok (.if_icmp .eq 5, 3) := by decide +kernel
theorem dL_law__622 : decode cL_law_ 622 = .ok (.iconst 0, 1) := by decide +kernel
theorem dL_law__623 : decode cL_law_ 623 = .ok (.ireturn, 1) := by decide +kernel
theorem dL_law__624 : decode cL_law_ 624 = .ok (.iload 5, 2) := by decide +kernel
theorem dL_law__626 : decode cL_law_ 626 = .ok (.ifCond .ne 15, 3) := by decide +kernel
theorem dL_law__629 : decode cL_law_ 629 = .ok (.aload_n 3, 1) := by decide +kernel
theorem dL_law__630 : decode cL_law_ 630 = .ok (.iconst 0, 1) := by decide +kernel
theorem dL_law__631 : decode cL_law_ 631 = .ok (.laload, 1) := by decide +kernel
theorem dL_law__632 : decode cL_law_ 632 = .ok (.iload 6, 2) := by decide +kernel
theorem dL_law__634 : decode cL_law_ 634 = .ok (.i2l, 1) := by decide +kernel
theorem dL_law__635 : decode cL_law_ 635 = .ok (.lcmp, 1) := by decide +kernel
theorem dL_law__636 : decode cL_law_ 636 = .ok (.ifCond .eq 5, 3) := by decide +kernel
theorem dL_law__639 : decode cL_law_ 639 = .ok (.iconst 0, 1) := by decide +kernel
theorem dL_law__640 : decode cL_law_ 640 = .ok (.ireturn, 1) := by decide +kernel
theorem dL_law__641 : decode cL_law_ 641 = .ok (.goto 941, 3) := by decide +kernel
theorem dL_law__644 : decode cL_law_ 644 = .ok (.aload_n 1, 1) := by decide +kernel
theorem dL_law__645 : decode cL_law_ 645 = .ok (.aload_n 0, 1) := by decide +kernel
theorem dL_law__646 : decode cL_law_ 646 = .ok (.iload 4, 2) := by decide +kernel
theorem dL_law__648 : decode cL_law_ 648 = .ok (.iconst 1, 1) := by decide +kernel
theorem dL_law__649 : decode cL_law_ 649 = .ok (.iadd, 1) := by decide +kernel
theorem dL_law__650 : decode cL_law_ 650 = .ok (.iaload, 1) := by decide +kernel
theorem dL_law__651 : decode cL_law_ 651 = .ok (.aload_n 0, 1) := by decide +kernel
theorem dL_law__652 : decode cL_law_ 652 = .ok (.iload 4, 2) := by decide +kernel
theorem dL_law__654 : decode cL_law_ 654 = .ok (.iconst 2, 1) := by decide +kernel
theorem dL_law__655 : decode cL_law_ 655 = .ok (.iadd, 1) := by decide +kernel
theorem dL_law__656 : decode cL_law_ 656 = .ok (.iaload, 1) := by decide +kernel
theorem dL_law__657 : decode cL_law_ 657 = .ok (.aload_n 0, 1) := by decide +kernel
theorem dL_law__658 : decode cL_law_ 658 = .ok (.iload 4, 2) := by decide +kernel
theorem dL_law__660 : decode cL_law_ 660 = .ok (.iconst 3, 1) := by decide +kernel
theorem dL_law__661 : decode cL_law_ 661 = .ok (.iadd, 1) := by decide +kernel
theorem dL_law__662 : decode cL_law_ 662 = .ok (.iaload, 1) := by decide +kernel
theorem dL_law__663 : decode cL_law_ 663 = .ok (.aload_n 3, 1) := by decide +kernel
theorem dL_law__664 : decode cL_law_ 664 = .ok (.invokestatic 120, 3) := by decide +kernel
theorem dL_law__667 : decode cL_law_ 667 = .ok (.istore 5, 2) := by decide +kernel
theorem dL_law__669 : decode cL_law_ 669 = .ok (.aload_n 2, 1) := by decide +kernel
theorem dL_law__670 : decode cL_law_ 670 = .ok (.aload_n 0, 1) := by decide +kernel
theorem dL_law__671 : decode cL_law_ 671 = .ok (.iload 4, 2) := by decide +kernel
theorem dL_law__673 : decode cL_law_ 673 = .ok (.iconst 1, 1) := by decide +kernel
theorem dL_law__674 : decode cL_law_ 674 = .ok (.iadd, 1) := by decide +kernel
theorem dL_law__675 : decode cL_law_ 675 = .ok (.iaload, 1) := by decide +kernel
theorem dL_law__676 : decode cL_law_ 676 = .ok (.aload_n 0, 1) := by decide +kernel
theorem dL_law__677 : decode cL_law_ 677 = .ok (.iload 4, 2) := by decide +kernel
theorem dL_law__679 : decode cL_law_ 679 = .ok (.iconst 2, 1) := by decide +kernel
theorem dL_law__680 : decode cL_law_ 680 = .ok (.iadd, 1) := by decide +kernel
theorem dL_law__681 : decode cL_law_ 681 = .ok (.iaload, 1) := by decide +kernel
theorem dL_law__682 : decode cL_law_ 682 = .ok (.aload_n 0, 1) := by decide +kernel
theorem dL_law__683 : decode cL_law_ 683 = .ok (.iload 4, 2) := by decide +kernel
theorem dL_law__685 : decode cL_law_ 685 = .ok (.iconst 3, 1) := by decide +kernel
theorem dL_law__686 : decode cL_law_ 686 = .ok (.iadd, 1) := by decide +kernel
theorem dL_law__687 : decode cL_law_ 687 = .ok (.iaload, 1) := by decide +kernel
theorem dL_law__688 : decode cL_law_ 688 = .ok (.invokevirtual 123, 3) := by decide +kernel
theorem dL_law__691 : decode cL_law_ 691 = .ok (.istore 6, 2) := by decide +kernel
theorem dL_law__693 : decode cL_law_ 693 = .ok (.aload_n 2, 1) := by decide +kernel
theorem dL_law__694 : decode cL_law_ 694 = .ok (.invokevirtual 96, 3) := by decide +kernel
theorem dL_law__697 : decode cL_law_ 697 = .ok (.iload 5, 2) := by decide +kernel
theorem dL_law__699 : decode cL_law_ 699 = .ok (.if_icmp .eq 5, 3) := by decide +kernel
theorem dL_law__702 : decode cL_law_ 702 = .ok (.iconst 0, 1) := by decide +kernel
theorem dL_law__703 : decode cL_law_ 703 = .ok (.ireturn, 1) := by decide +kernel
theorem dL_law__704 : decode cL_law_ 704 = .ok (.iload 5, 2) := by decide +kernel
theorem dL_law__706 : decode cL_law_ 706 = .ok (.ifCond .ne 15, 3) := by decide +kernel
theorem dL_law__709 : decode cL_law_ 709 = .ok (.aload_n 3, 1) := by decide +kernel
theorem dL_law__710 : decode cL_law_ 710 = .ok (.iconst 0, 1) := by decide +kernel
theorem dL_law__711 : decode cL_law_ 711 = .ok (.laload, 1) := by decide +kernel
theorem dL_law__712 : decode cL_law_ 712 = .ok (.iload 6, 2) := by decide +kernel
theorem dL_law__714 : decode cL_law_ 714 = .ok (.i2l, 1) := by decide +kernel
theorem dL_law__715 : decode cL_law_ 715 = .ok (.lcmp, 1) := by decide +kernel
theorem dL_law__716 : decode cL_law_ 716 = .ok (.ifCond .eq 5, 3) := by decide +kernel
theorem dL_law__719 : decode cL_law_ 719 = .ok (.iconst 0, 1) := by decide +kernel
theorem dL_law__720 : decode cL_law_ 720 = .ok (.ireturn, 1) := by decide +kernel
theorem dL_law__721 : decode cL_law_ 721 = .ok (.goto 861, 3) := by decide +kernel
theorem dL_law__724 : decode cL_law_ 724 = .ok (.aload_n 1, 1) := by decide +kernel
theorem dL_law__725 : decode cL_law_ 725 = .ok (.aload_n 0, 1) := by decide +kernel
theorem dL_law__726 : decode cL_law_ 726 = .ok (.iload 4, 2) := by decide +kernel
theorem dL_law__728 : decode cL_law_ 728 = .ok (.iconst 1, 1) := by decide +kernel
theorem dL_law__729 : decode cL_law_ 729 = .ok (.iadd, 1) := by decide +kernel
theorem dL_law__730 : decode cL_law_ 730 = .ok (.iaload, 1) := by decide +kernel
theorem dL_law__731 : decode cL_law_ 731 = .ok (.aload_n 0, 1) := by decide +kernel
theorem dL_law__732 : decode cL_law_ 732 = .ok (.iload 4, 2) := by decide +kernel
theorem dL_law__734 : decode cL_law_ 734 = .ok (.iconst 2, 1) := by decide +kernel
theorem dL_law__735 : decode cL_law_ 735 = .ok (.iadd, 1) := by decide +kernel
theorem dL_law__736 : decode cL_law_ 736 = .ok (.iaload, 1) := by decide +kernel
theorem dL_law__737 : decode cL_law_ 737 = .ok (.aload_n 0, 1) := by decide +kernel
theorem dL_law__738 : decode cL_law_ 738 = .ok (.iload 4, 2) := by decide +kernel
theorem dL_law__740 : decode cL_law_ 740 = .ok (.iconst 3, 1) := by decide +kernel
theorem dL_law__741 : decode cL_law_ 741 = .ok (.iadd, 1) := by decide +kernel
theorem dL_law__742 : decode cL_law_ 742 = .ok (.iaload, 1) := by decide +kernel
theorem dL_law__743 : decode cL_law_ 743 = .ok (.aload_n 3, 1) := by decide +kernel
theorem dL_law__744 : decode cL_law_ 744 = .ok (.invokestatic 124, 3) := by decide +kernel
theorem dL_law__747 : decode cL_law_ 747 = .ok (.istore 5, 2) := by decide +kernel
theorem dL_law__749 : decode cL_law_ 749 = .ok (.aload_n 2, 1) := by decide +kernel
theorem dL_law__750 : decode cL_law_ 750 = .ok (.aload_n 0, 1) := by decide +kernel
theorem dL_law__751 : decode cL_law_ 751 = .ok (.iload 4, 2) := by decide +kernel
theorem dL_law__753 : decode cL_law_ 753 = .ok (.iconst 1, 1) := by decide +kernel
theorem dL_law__754 : decode cL_law_ 754 = .ok (.iadd, 1) := by decide +kernel
theorem dL_law__755 : decode cL_law_ 755 = .ok (.iaload, 1) := by decide +kernel
theorem dL_law__756 : decode cL_law_ 756 = .ok (.aload_n 0, 1) := by decide +kernel
theorem dL_law__757 : decode cL_law_ 757 = .ok (.iload 4, 2) := by decide +kernel
theorem dL_law__759 : decode cL_law_ 759 = .ok (.iconst 2, 1) := by decide +kernel
theorem dL_law__760 : decode cL_law_ 760 = .ok (.iadd, 1) := by decide +kernel
theorem dL_law__761 : decode cL_law_ 761 = .ok (.iaload, 1) := by decide +kernel
theorem dL_law__762 : decode cL_law_ 762 = .ok (.aload_n 0, 1) := by decide +kernel
theorem dL_law__763 : decode cL_law_ 763 = .ok (.iload 4, 2) := by decide +kernel
theorem dL_law__765 : decode cL_law_ 765 = .ok (.iconst 3, 1) := by decide +kernel
theorem dL_law__766 : decode cL_law_ 766 = .ok (.iadd, 1) := by decide +kernel
theorem dL_law__767 : decode cL_law_ 767 = .ok (.iaload, 1) := by decide +kernel
theorem dL_law__768 : decode cL_law_ 768 = .ok (.invokevirtual 126, 3) := by decide +kernel
theorem dL_law__771 : decode cL_law_ 771 = .ok (.istore 6, 2) := by decide +kernel
theorem dL_law__773 : decode cL_law_ 773 = .ok (.aload_n 2, 1) := by decide +kernel
theorem dL_law__774 : decode cL_law_ 774 = .ok (.invokevirtual 96, 3) := by decide +kernel
theorem dL_law__777 : decode cL_law_ 777 = .ok (.iload 5, 2) := by decide +kernel
theorem dL_law__779 : decode cL_law_ 779 = .ok (.if_icmp .eq 5, 3) := by decide +kernel
theorem dL_law__782 : decode cL_law_ 782 = .ok (.iconst 0, 1) := by decide +kernel
theorem dL_law__783 : decode cL_law_ 783 = .ok (.ireturn, 1) := by decide +kernel
theorem dL_law__784 : decode cL_law_ 784 = .ok (.iload 5, 2) := by decide +kernel
theorem dL_law__786 : decode cL_law_ 786 = .ok (.ifCond .ne 15, 3) := by decide +kernel
theorem dL_law__789 : decode cL_law_ 789 = .ok (.aload_n 3, 1) := by decide +kernel
theorem dL_law__790 : decode cL_law_ 790 = .ok (.iconst 0, 1) := by decide +kernel
theorem dL_law__791 : decode cL_law_ 791 = .ok (.laload, 1) := by decide +kernel
theorem dL_law__792 : decode cL_law_ 792 = .ok (.iload 6, 2) := by decide +kernel
theorem dL_law__794 : decode cL_law_ 794 = .ok (.i2l, 1) := by decide +kernel
theorem dL_law__795 : decode cL_law_ 795 = .ok (.lcmp, 1) := by decide +kernel
theorem dL_law__796 : decode cL_law_ 796 = .ok (.ifCond .eq 5, 3) := by decide +kernel
theorem dL_law__799 : decode cL_law_ 799 = .ok (.iconst 0, 1) := by decide +kernel
theorem dL_law__800 : decode cL_law_ 800 = .ok (.ireturn, 1) := by decide +kernel
theorem dL_law__801 : decode cL_law_ 801 = .ok (.goto 781, 3) := by decide +kernel
theorem dL_law__804 : decode cL_law_ 804 = .ok (.aload_n 1, 1) := by decide +kernel
theorem dL_law__805 : decode cL_law_ 805 = .ok (.aload_n 0, 1) := by decide +kernel
theorem dL_law__806 : decode cL_law_ 806 = .ok (.iload 4, 2) := by decide +kernel
theorem dL_law__808 : decode cL_law_ 808 = .ok (.iconst 1, 1) := by decide +kernel
theorem dL_law__809 : decode cL_law_ 809 = .ok (.iadd, 1) := by decide +kernel
theorem dL_law__810 : decode cL_law_ 810 = .ok (.iaload, 1) := by decide +kernel
theorem dL_law__811 : decode cL_law_ 811 = .ok (.aload_n 0, 1) := by decide +kernel
theorem dL_law__812 : decode cL_law_ 812 = .ok (.iload 4, 2) := by decide +kernel
theorem dL_law__814 : decode cL_law_ 814 = .ok (.iconst 2, 1) := by decide +kernel
theorem dL_law__815 : decode cL_law_ 815 = .ok (.iadd, 1) := by decide +kernel
theorem dL_law__816 : decode cL_law_ 816 = .ok (.iaload, 1) := by decide +kernel
theorem dL_law__817 : decode cL_law_ 817 = .ok (.ifCond .eq 7, 3) := by decide +kernel
theorem dL_law__820 : decode cL_law_ 820 = .ok (.iconst 1, 1) := by decide +kernel
theorem dL_law__821 : decode cL_law_ 821 = .ok (.goto 4, 3) := by decide +kernel
theorem dL_law__824 : decode cL_law_ 824 = .ok (.iconst 0, 1) := by decide +kernel
theorem dL_law__825 : decode cL_law_ 825 = .ok (.aload_n 3, 1) := by decide +kernel
theorem dL_law__826 : decode cL_law_ 826 = .ok (.invokestatic 127, 3) := by decide +kernel
theorem dL_law__829 : decode cL_law_ 829 = .ok (.istore 5, 2) := by decide +kernel
theorem dL_law__831 : decode cL_law_ 831 = .ok (.aload_n 2, 1) := by decide +kernel
theorem dL_law__832 : decode cL_law_ 832 = .ok (.aload_n 0, 1) := by decide +kernel
theorem dL_law__833 : decode cL_law_ 833 = .ok (.iload 4, 2) := by decide +kernel
theorem dL_law__835 : decode cL_law_ 835 = .ok (.iconst 1, 1) := by decide +kernel
theorem dL_law__836 : decode cL_law_ 836 = .ok (.iadd, 1) := by decide +kernel
theorem dL_law__837 : decode cL_law_ 837 = .ok (.iaload, 1) := by decide +kernel
theorem dL_law__838 : decode cL_law_ 838 = .ok (.aload_n 0, 1) := by decide +kernel
theorem dL_law__839 : decode cL_law_ 839 = .ok (.iload 4, 2) := by decide +kernel
theorem dL_law__841 : decode cL_law_ 841 = .ok (.iconst 2, 1) := by decide +kernel
theorem dL_law__842 : decode cL_law_ 842 = .ok (.iadd, 1) := by decide +kernel
theorem dL_law__843 : decode cL_law_ 843 = .ok (.iaload, 1) := by decide +kernel
theorem dL_law__844 : decode cL_law_ 844 = .ok (.ifCond .eq 7, 3) := by decide +kernel
theorem dL_law__847 : decode cL_law_ 847 = .ok (.iconst 1, 1) := by decide +kernel
theorem dL_law__848 : decode cL_law_ 848 = .ok (.goto 4, 3) := by decide +kernel
theorem dL_law__851 : decode cL_law_ 851 = .ok (.iconst 0, 1) := by decide +kernel
theorem dL_law__852 : decode cL_law_ 852 = .ok (.invokevirtual 130, 3) := by decide +kernel
theorem dL_law__855 : decode cL_law_ 855 = .ok (.istore 6, 2) := by decide +kernel
theorem dL_law__857 : decode cL_law_ 857 = .ok (.aload_n 2, 1) := by decide +kernel
theorem dL_law__858 : decode cL_law_ 858 = .ok (.invokevirtual 96, 3) := by decide +kernel
theorem dL_law__861 : decode cL_law_ 861 = .ok (.iload 5, 2) := by decide +kernel
theorem dL_law__863 : decode cL_law_ 863 = .ok (.if_icmp .eq 5, 3) := by decide +kernel
theorem dL_law__866 : decode cL_law_ 866 = .ok (.iconst 0, 1) := by decide +kernel
theorem dL_law__867 : decode cL_law_ 867 = .ok (.ireturn, 1) := by decide +kernel
theorem dL_law__868 : decode cL_law_ 868 = .ok (.iload 5, 2) := by decide +kernel
theorem dL_law__870 : decode cL_law_ 870 = .ok (.ifCond .ne 22, 3) := by decide +kernel
theorem dL_law__873 : decode cL_law_ 873 = .ok (.aload_n 3, 1) := by decide +kernel
theorem dL_law__874 : decode cL_law_ 874 = .ok (.iconst 0, 1) := by decide +kernel
theorem dL_law__875 : decode cL_law_ 875 = .ok (.laload, 1) := by decide +kernel
theorem dL_law__876 : decode cL_law_ 876 = .ok (.iload 6, 2) := by decide +kernel
theorem dL_law__878 : decode cL_law_ 878 = .ok (.ifCond .eq 7, 3) := by decide +kernel
theorem dL_law__881 : decode cL_law_ 881 = .ok (.lconst 1, 1) := by decide +kernel
theorem dL_law__882 : decode cL_law_ 882 = .ok (.goto 4, 3) := by decide +kernel
theorem dL_law__885 : decode cL_law_ 885 = .ok (.lconst 0, 1) := by decide +kernel
theorem dL_law__886 : decode cL_law_ 886 = .ok (.lcmp, 1) := by decide +kernel
theorem dL_law__887 : decode cL_law_ 887 = .ok (.ifCond .eq 5, 3) := by decide +kernel
theorem dL_law__890 : decode cL_law_ 890 = .ok (.iconst 0, 1) := by decide +kernel
theorem dL_law__891 : decode cL_law_ 891 = .ok (.ireturn, 1) := by decide +kernel
theorem dL_law__892 : decode cL_law_ 892 = .ok (.goto 690, 3) := by decide +kernel
theorem dL_law__895 : decode cL_law_ 895 = .ok (.aload_n 1, 1) := by decide +kernel
theorem dL_law__896 : decode cL_law_ 896 = .ok (.aload_n 0, 1) := by decide +kernel
theorem dL_law__897 : decode cL_law_ 897 = .ok (.iload 4, 2) := by decide +kernel
theorem dL_law__899 : decode cL_law_ 899 = .ok (.iconst 1, 1) := by decide +kernel
theorem dL_law__900 : decode cL_law_ 900 = .ok (.iadd, 1) := by decide +kernel
theorem dL_law__901 : decode cL_law_ 901 = .ok (.iaload, 1) := by decide +kernel
theorem dL_law__902 : decode cL_law_ 902 = .ok (.aload_n 3, 1) := by decide +kernel
theorem dL_law__903 : decode cL_law_ 903 = .ok (.invokestatic 131, 3) := by decide +kernel
theorem dL_law__906 : decode cL_law_ 906 = .ok (.istore 5, 2) := by decide +kernel
theorem dL_law__908 : decode cL_law_ 908 = .ok (.aload_n 2, 1) := by decide +kernel
theorem dL_law__909 : decode cL_law_ 909 = .ok (.aload_n 0, 1) := by decide +kernel
theorem dL_law__910 : decode cL_law_ 910 = .ok (.iload 4, 2) := by decide +kernel
theorem dL_law__912 : decode cL_law_ 912 = .ok (.iconst 1, 1) := by decide +kernel
theorem dL_law__913 : decode cL_law_ 913 = .ok (.iadd, 1) := by decide +kernel
theorem dL_law__914 : decode cL_law_ 914 = .ok (.iaload, 1) := by decide +kernel
theorem dL_law__915 : decode cL_law_ 915 = .ok (.invokevirtual 133, 3) := by decide +kernel
theorem dL_law__918 : decode cL_law_ 918 = .ok (.istore 6, 2) := by decide +kernel
theorem dL_law__920 : decode cL_law_ 920 = .ok (.aload_n 2, 1) := by decide +kernel
theorem dL_law__921 : decode cL_law_ 921 = .ok (.invokevirtual 96, 3) := by decide +kernel
theorem dL_law__924 : decode cL_law_ 924 = .ok (.iload 5, 2) := by decide +kernel
theorem dL_law__926 : decode cL_law_ 926 = .ok (.if_icmp .eq 5, 3) := by decide +kernel
theorem dL_law__929 : decode cL_law_ 929 = .ok (.iconst 0, 1) := by decide +kernel
theorem dL_law__930 : decode cL_law_ 930 = .ok (.ireturn, 1) := by decide +kernel
theorem dL_law__931 : decode cL_law_ 931 = .ok (.iload 5, 2) := by decide +kernel
theorem dL_law__933 : decode cL_law_ 933 = .ok (.ifCond .ne 15, 3) := by decide +kernel
theorem dL_law__936 : decode cL_law_ 936 = .ok (.aload_n 3, 1) := by decide +kernel
theorem dL_law__937 : decode cL_law_ 937 = .ok (.iconst 0, 1) := by decide +kernel
theorem dL_law__938 : decode cL_law_ 938 = .ok (.laload, 1) := by decide +kernel
theorem dL_law__939 : decode cL_law_ 939 = .ok (.iload 6, 2) := by decide +kernel
theorem dL_law__941 : decode cL_law_ 941 = .ok (.i2l, 1) := by decide +kernel
theorem dL_law__942 : decode cL_law_ 942 = .ok (.lcmp, 1) := by decide +kernel
theorem dL_law__943 : decode cL_law_ 943 = .ok (.ifCond .eq 5, 3) := by decide +kernel
theorem dL_law__946 : decode cL_law_ 946 = .ok (.iconst 0, 1) := by decide +kernel
theorem dL_law__947 : decode cL_law_ 947 = .ok (.ireturn, 1) := by decide +kernel
theorem dL_law__948 : decode cL_law_ 948 = .ok (.goto 634, 3) := by decide +kernel
theorem dL_law__951 : decode cL_law_ 951 = .ok (.aload_n 1, 1) := by decide +kernel
theorem dL_law__952 : decode cL_law_ 952 = .ok (.aload_n 0, 1) := by decide +kernel
theorem dL_law__953 : decode cL_law_ 953 = .ok (.iload 4, 2) := by decide +kernel
theorem dL_law__955 : decode cL_law_ 955 = .ok (.iconst 1, 1) := by decide +kernel
theorem dL_law__956 : decode cL_law_ 956 = .ok (.iadd, 1) := by decide +kernel
theorem dL_law__957 : decode cL_law_ 957 = .ok (.iaload, 1) := by decide +kernel
theorem dL_law__958 : decode cL_law_ 958 = .ok (.aload_n 0, 1) := by decide +kernel
theorem dL_law__959 : decode cL_law_ 959 = .ok (.iload 4, 2) := by decide +kernel
theorem dL_law__961 : decode cL_law_ 961 = .ok (.iconst 2, 1) := by decide +kernel
theorem dL_law__962 : decode cL_law_ 962 = .ok (.iadd, 1) := by decide +kernel
theorem dL_law__963 : decode cL_law_ 963 = .ok (.iaload, 1) := by decide +kernel
theorem dL_law__964 : decode cL_law_ 964 = .ok (.aload_n 3, 1) := by decide +kernel
theorem dL_law__965 : decode cL_law_ 965 = .ok (.invokestatic 134, 3) := by decide +kernel
theorem dL_law__968 : decode cL_law_ 968 = .ok (.istore 5, 2) := by decide +kernel
theorem dL_law__970 : decode cL_law_ 970 = .ok (.aload_n 2, 1) := by decide +kernel
theorem dL_law__971 : decode cL_law_ 971 = .ok (.aload_n 0, 1) := by decide +kernel
theorem dL_law__972 : decode cL_law_ 972 = .ok (.iload 4, 2) := by decide +kernel
theorem dL_law__974 : decode cL_law_ 974 = .ok (.iconst 1, 1) := by decide +kernel
theorem dL_law__975 : decode cL_law_ 975 = .ok (.iadd, 1) := by decide +kernel
theorem dL_law__976 : decode cL_law_ 976 = .ok (.iaload, 1) := by decide +kernel
theorem dL_law__977 : decode cL_law_ 977 = .ok (.aload_n 0, 1) := by decide +kernel
theorem dL_law__978 : decode cL_law_ 978 = .ok (.iload 4, 2) := by decide +kernel
theorem dL_law__980 : decode cL_law_ 980 = .ok (.iconst 2, 1) := by decide +kernel
theorem dL_law__981 : decode cL_law_ 981 = .ok (.iadd, 1) := by decide +kernel
theorem dL_law__982 : decode cL_law_ 982 = .ok (.iaload, 1) := by decide +kernel
theorem dL_law__983 : decode cL_law_ 983 = .ok (.invokevirtual 136, 3) := by decide +kernel
theorem dL_law__986 : decode cL_law_ 986 = .ok (.istore 6, 2) := by decide +kernel
theorem dL_law__988 : decode cL_law_ 988 = .ok (.aload_n 2, 1) := by decide +kernel
theorem dL_law__989 : decode cL_law_ 989 = .ok (.invokevirtual 96, 3) := by decide +kernel
theorem dL_law__992 : decode cL_law_ 992 = .ok (.iload 5, 2) := by decide +kernel
theorem dL_law__994 : decode cL_law_ 994 = .ok (.if_icmp .eq 5, 3) := by decide +kernel
theorem dL_law__997 : decode cL_law_ 997 = .ok (.iconst 0, 1) := by decide +kernel
theorem dL_law__998 : decode cL_law_ 998 = .ok (.ireturn, 1) := by decide +kernel
theorem dL_law__999 : decode cL_law_ 999 = .ok (.iload 5, 2) := by decide +kernel
theorem dL_law__1001 : decode cL_law_ 1001 = .ok (.ifCond .ne 15, 3) := by decide +kernel
theorem dL_law__1004 : decode cL_law_ 1004 = .ok (.aload_n 3, 1) := by decide +kernel
theorem dL_law__1005 : decode cL_law_ 1005 = .ok (.iconst 0, 1) := by decide +kernel
theorem dL_law__1006 : decode cL_law_ 1006 = .ok (.laload, 1) := by decide +kernel
theorem dL_law__1007 : decode cL_law_ 1007 = .ok (.iload 6, 2) := by decide +kernel
theorem dL_law__1009 : decode cL_law_ 1009 = .ok (.i2l, 1) := by decide +kernel
theorem dL_law__1010 : decode cL_law_ 1010 = .ok (.lcmp, 1) := by decide +kernel
theorem dL_law__1011 : decode cL_law_ 1011 = .ok (.ifCond .eq 5, 3) := by decide +kernel
theorem dL_law__1014 : decode cL_law_ 1014 = .ok (.iconst 0, 1) := by decide +kernel
theorem dL_law__1015 : decode cL_law_ 1015 = .ok (.ireturn, 1) := by decide +kernel
theorem dL_law__1016 : decode cL_law_ 1016 = .ok (.goto 566, 3) := by decide +kernel
theorem dL_law__1019 : decode cL_law_ 1019 = .ok (.aload_n 1, 1) := by decide +kernel
theorem dL_law__1020 : decode cL_law_ 1020 = .ok (.invokevirtual 137, 3) := by decide +kernel
theorem dL_law__1023 : decode cL_law_ 1023 = .ok (.aload_n 2, 1) := by decide +kernel
theorem dL_law__1024 : decode cL_law_ 1024 = .ok (.invokevirtual 140, 3) := by decide +kernel
theorem dL_law__1027 : decode cL_law_ 1027 = .ok (.if_icmp .eq 555, 3) := by decide +kernel
theorem dL_law__1030 : decode cL_law_ 1030 = .ok (.iconst 0, 1) := by decide +kernel
theorem dL_law__1031 : decode cL_law_ 1031 = .ok (.ireturn, 1) := by decide +kernel
theorem dL_law__1032 : decode cL_law_ 1032 = .ok (.aload_n 1, 1) := by decide +kernel
theorem dL_law__1033 : decode cL_law_ 1033 = .ok (.aload_n 0, 1) := by decide +kernel
theorem dL_law__1034 : decode cL_law_ 1034 = .ok (.iload 4, 2) := by decide +kernel
theorem dL_law__1036 : decode cL_law_ 1036 = .ok (.iconst 1, 1) := by decide +kernel
theorem dL_law__1037 : decode cL_law_ 1037 = .ok (.iadd, 1) := by decide +kernel
theorem dL_law__1038 : decode cL_law_ 1038 = .ok (.iaload, 1) := by decide +kernel
theorem dL_law__1039 : decode cL_law_ 1039 = .ok (.aload_n 3, 1) := by decide +kernel
theorem dL_law__1040 : decode cL_law_ 1040 = .ok (.invokestatic 141, 3) := by decide +kernel
theorem dL_law__1043 : decode cL_law_ 1043 = .ok (.istore 5, 2) := by decide +kernel
theorem dL_law__1045 : decode cL_law_ 1045 = .ok (.aload_n 2, 1) := by decide +kernel
theorem dL_law__1046 : decode cL_law_ 1046 = .ok (.aload_n 0, 1) := by decide +kernel
theorem dL_law__1047 : decode cL_law_ 1047 = .ok (.iload 4, 2) := by decide +kernel
theorem dL_law__1049 : decode cL_law_ 1049 = .ok (.iconst 1, 1) := by decide +kernel
theorem dL_law__1050 : decode cL_law_ 1050 = .ok (.iadd, 1) := by decide +kernel
theorem dL_law__1051 : decode cL_law_ 1051 = .ok (.iaload, 1) := by decide +kernel
theorem dL_law__1052 : decode cL_law_ 1052 = .ok (.invokevirtual 143, 3) := by decide +kernel
theorem dL_law__1055 : decode cL_law_ 1055 = .ok (.istore 6, 2) := by decide +kernel
theorem dL_law__1057 : decode cL_law_ 1057 = .ok (.aload_n 2, 1) := by decide +kernel
theorem dL_law__1058 : decode cL_law_ 1058 = .ok (.invokevirtual 96, 3) := by decide +kernel
theorem dL_law__1061 : decode cL_law_ 1061 = .ok (.iload 5, 2) := by decide +kernel
theorem dL_law__1063 : decode cL_law_ 1063 = .ok (.if_icmp .eq 5, 3) := by decide +kernel
theorem dL_law__1066 : decode cL_law_ 1066 = .ok (.iconst 0, 1) := by decide +kernel
theorem dL_law__1067 : decode cL_law_ 1067 = .ok (.ireturn, 1) := by decide +kernel
theorem dL_law__1068 : decode cL_law_ 1068 = .ok (.iload 5, 2) := by decide +kernel
theorem dL_law__1070 : decode cL_law_ 1070 = .ok (.ifCond .ne 15, 3) := by decide +kernel
theorem dL_law__1073 : decode cL_law_ 1073 = .ok (.aload_n 3, 1) := by decide +kernel
theorem dL_law__1074 : decode cL_law_ 1074 = .ok (.iconst 0, 1) := by decide +kernel
theorem dL_law__1075 : decode cL_law_ 1075 = .ok (.laload, 1) := by decide +kernel
theorem dL_law__1076 : decode cL_law_ 1076 = .ok (.iload 6, 2) := by decide +kernel
theorem dL_law__1078 : decode cL_law_ 1078 = .ok (.i2l, 1) := by decide +kernel
theorem dL_law__1079 : decode cL_law_ 1079 = .ok (.lcmp, 1) := by decide +kernel
theorem dL_law__1080 : decode cL_law_ 1080 = .ok (.ifCond .eq 5, 3) := by decide +kernel
theorem dL_law__1083 : decode cL_law_ 1083 = .ok (.iconst 0, 1) := by decide +kernel
theorem dL_law__1084 : decode cL_law_ 1084 = .ok (.ireturn, 1) := by decide +kernel
theorem dL_law__1085 : decode cL_law_ 1085 = .ok (.goto 497, 3) := by decide +kernel
theorem dL_law__1088 : decode cL_law_ 1088 = .ok (.aload_n 1, 1) := by decide +kernel
theorem dL_law__1089 : decode cL_law_ 1089 = .ok (.aload_n 0, 1) := by decide +kernel
theorem dL_law__1090 : decode cL_law_ 1090 = .ok (.iload 4, 2) := by decide +kernel
theorem dL_law__1092 : decode cL_law_ 1092 = .ok (.iconst 1, 1) := by decide +kernel
theorem dL_law__1093 : decode cL_law_ 1093 = .ok (.iadd, 1) := by decide +kernel
theorem dL_law__1094 : decode cL_law_ 1094 = .ok (.iaload, 1) := by decide +kernel
theorem dL_law__1095 : decode cL_law_ 1095 = .ok (.aload_n 3, 1) := by decide +kernel
theorem dL_law__1096 : decode cL_law_ 1096 = .ok (.invokestatic 144, 3) := by decide +kernel
theorem dL_law__1099 : decode cL_law_ 1099 = .ok (.istore 5, 2) := by decide +kernel
theorem dL_law__1101 : decode cL_law_ 1101 = .ok (.aload_n 2, 1) := by decide +kernel
theorem dL_law__1102 : decode cL_law_ 1102 = .ok (.aload_n 0, 1) := by decide +kernel
theorem dL_law__1103 : decode cL_law_ 1103 = .ok (.iload 4, 2) := by decide +kernel
theorem dL_law__1105 : decode cL_law_ 1105 = .ok (.iconst 1, 1) := by decide +kernel
theorem dL_law__1106 : decode cL_law_ 1106 = .ok (.iadd, 1) := by decide +kernel
theorem dL_law__1107 : decode cL_law_ 1107 = .ok (.iaload, 1) := by decide +kernel
theorem dL_law__1108 : decode cL_law_ 1108 = .ok (.invokevirtual 146, 3) := by decide +kernel
theorem dL_law__1111 : decode cL_law_ 1111 = .ok (.istore 6, 2) := by decide +kernel
theorem dL_law__1113 : decode cL_law_ 1113 = .ok (.aload_n 2, 1) := by decide +kernel
theorem dL_law__1114 : decode cL_law_ 1114 = .ok (.invokevirtual 96, 3) := by decide +kernel
theorem dL_law__1117 : decode cL_law_ 1117 = .ok (.iload 5, 2) := by decide +kernel
theorem dL_law__1119 : decode cL_law_ 1119 = .ok (.if_icmp .eq 5, 3) := by decide +kernel
theorem dL_law__1122 : decode cL_law_ 1122 = .ok (.iconst 0, 1) := by decide +kernel
theorem dL_law__1123 : decode cL_law_ 1123 = .ok (.ireturn, 1) := by decide +kernel
theorem dL_law__1124 : decode cL_law_ 1124 = .ok (.iload 5, 2) := by decide +kernel
theorem dL_law__1126 : decode cL_law_ 1126 = .ok (.ifCond .ne 22, 3) := by decide +kernel
theorem dL_law__1129 : decode cL_law_ 1129 = .ok (.aload_n 3, 1) := by decide +kernel
theorem dL_law__1130 : decode cL_law_ 1130 = .ok (.iconst 0, 1) := by decide +kernel
theorem dL_law__1131 : decode cL_law_ 1131 = .ok (.laload, 1) := by decide +kernel
theorem dL_law__1132 : decode cL_law_ 1132 = .ok (.iload 6, 2) := by decide +kernel
theorem dL_law__1134 : decode cL_law_ 1134 = .ok (.ifCond .eq 7, 3) := by decide +kernel
theorem dL_law__1137 : decode cL_law_ 1137 = .ok (.lconst 1, 1) := by decide +kernel
theorem dL_law__1138 : decode cL_law_ 1138 = .ok (.goto 4, 3) := by decide +kernel
theorem dL_law__1141 : decode cL_law_ 1141 = .ok (.lconst 0, 1) := by decide +kernel
theorem dL_law__1142 : decode cL_law_ 1142 = .ok (.lcmp, 1) := by decide +kernel
theorem dL_law__1143 : decode cL_law_ 1143 = .ok (.ifCond .eq 5, 3) := by decide +kernel
theorem dL_law__1146 : decode cL_law_ 1146 = .ok (.iconst 0, 1) := by decide +kernel
theorem dL_law__1147 : decode cL_law_ 1147 = .ok (.ireturn, 1) := by decide +kernel
theorem dL_law__1148 : decode cL_law_ 1148 = .ok (.goto 434, 3) := by decide +kernel
theorem dL_law__1151 : decode cL_law_ 1151 = .ok (.aload_n 1, 1) := by decide +kernel
theorem dL_law__1152 : decode cL_law_ 1152 = .ok (.aload_n 0, 1) := by decide +kernel
theorem dL_law__1153 : decode cL_law_ 1153 = .ok (.iload 4, 2) := by decide +kernel
theorem dL_law__1155 : decode cL_law_ 1155 = .ok (.iconst 1, 1) := by decide +kernel
theorem dL_law__1156 : decode cL_law_ 1156 = .ok (.iadd, 1) := by decide +kernel
theorem dL_law__1157 : decode cL_law_ 1157 = .ok (.iaload, 1) := by decide +kernel
theorem dL_law__1158 : decode cL_law_ 1158 = .ok (.aload_n 3, 1) := by decide +kernel
theorem dL_law__1159 : decode cL_law_ 1159 = .ok (.invokestatic 147, 3) := by decide +kernel
theorem dL_law__1162 : decode cL_law_ 1162 = .ok (.istore 5, 2) := by decide +kernel
theorem dL_law__1164 : decode cL_law_ 1164 = .ok (.aload_n 2, 1) := by decide +kernel
theorem dL_law__1165 : decode cL_law_ 1165 = .ok (.aload_n 0, 1) := by decide +kernel
theorem dL_law__1166 : decode cL_law_ 1166 = .ok (.iload 4, 2) := by decide +kernel
theorem dL_law__1168 : decode cL_law_ 1168 = .ok (.iconst 1, 1) := by decide +kernel
theorem dL_law__1169 : decode cL_law_ 1169 = .ok (.iadd, 1) := by decide +kernel
theorem dL_law__1170 : decode cL_law_ 1170 = .ok (.iaload, 1) := by decide +kernel
theorem dL_law__1171 : decode cL_law_ 1171 = .ok (.invokevirtual 149, 3) := by decide +kernel
theorem dL_law__1174 : decode cL_law_ 1174 = .ok (.istore 6, 2) := by decide +kernel
theorem dL_law__1176 : decode cL_law_ 1176 = .ok (.aload_n 2, 1) := by decide +kernel
theorem dL_law__1177 : decode cL_law_ 1177 = .ok (.invokevirtual 96, 3) := by decide +kernel
theorem dL_law__1180 : decode cL_law_ 1180 = .ok (.iload 5, 2) := by decide +kernel
theorem dL_law__1182 : decode cL_law_ 1182 = .ok (.if_icmp .eq 5, 3) := by decide +kernel
theorem dL_law__1185 : decode cL_law_ 1185 = .ok (.iconst 0, 1) := by decide +kernel
theorem dL_law__1186 : decode cL_law_ 1186 = .ok (.ireturn, 1) := by decide +kernel
theorem dL_law__1187 : decode cL_law_ 1187 = .ok (.iload 5, 2) := by decide +kernel
theorem dL_law__1189 : decode cL_law_ 1189 = .ok (.ifCond .ne 15, 3) := by decide +kernel
theorem dL_law__1192 : decode cL_law_ 1192 = .ok (.aload_n 3, 1) := by decide +kernel
theorem dL_law__1193 : decode cL_law_ 1193 = .ok (.iconst 0, 1) := by decide +kernel
theorem dL_law__1194 : decode cL_law_ 1194 = .ok (.laload, 1) := by decide +kernel
theorem dL_law__1195 : decode cL_law_ 1195 = .ok (.iload 6, 2) := by decide +kernel
theorem dL_law__1197 : decode cL_law_ 1197 = .ok (.i2l, 1) := by decide +kernel
theorem dL_law__1198 : decode cL_law_ 1198 = .ok (.lcmp, 1) := by decide +kernel
theorem dL_law__1199 : decode cL_law_ 1199 = .ok (.ifCond .eq 5, 3) := by decide +kernel
theorem dL_law__1202 : decode cL_law_ 1202 = .ok (.iconst 0, 1) := by decide +kernel
theorem dL_law__1203 : decode cL_law_ 1203 = .ok (.ireturn, 1) := by decide +kernel
theorem dL_law__1204 : decode cL_law_ 1204 = .ok (.goto 378, 3) := by decide +kernel
theorem dL_law__1207 : decode cL_law_ 1207 = .ok (.aload_n 1, 1) := by decide +kernel
theorem dL_law__1208 : decode cL_law_ 1208 = .ok (.aload_n 0, 1) := by decide +kernel
theorem dL_law__1209 : decode cL_law_ 1209 = .ok (.iload 4, 2) := by decide +kernel
theorem dL_law__1211 : decode cL_law_ 1211 = .ok (.iconst 1, 1) := by decide +kernel
theorem dL_law__1212 : decode cL_law_ 1212 = .ok (.iadd, 1) := by decide +kernel
theorem dL_law__1213 : decode cL_law_ 1213 = .ok (.iaload, 1) := by decide +kernel
theorem dL_law__1214 : decode cL_law_ 1214 = .ok (.aload_n 3, 1) := by decide +kernel
theorem dL_law__1215 : decode cL_law_ 1215 = .ok (.invokestatic 150, 3) := by decide +kernel
theorem dL_law__1218 : decode cL_law_ 1218 = .ok (.istore 5, 2) := by decide +kernel
theorem dL_law__1220 : decode cL_law_ 1220 = .ok (.aload_n 2, 1) := by decide +kernel
theorem dL_law__1221 : decode cL_law_ 1221 = .ok (.aload_n 0, 1) := by decide +kernel
theorem dL_law__1222 : decode cL_law_ 1222 = .ok (.iload 4, 2) := by decide +kernel
theorem dL_law__1224 : decode cL_law_ 1224 = .ok (.iconst 1, 1) := by decide +kernel
theorem dL_law__1225 : decode cL_law_ 1225 = .ok (.iadd, 1) := by decide +kernel
theorem dL_law__1226 : decode cL_law_ 1226 = .ok (.iaload, 1) := by decide +kernel
theorem dL_law__1227 : decode cL_law_ 1227 = .ok (.invokevirtual 152, 3) := by decide +kernel
theorem dL_law__1230 : decode cL_law_ 1230 = .ok (.istore 6, 2) := by decide +kernel
theorem dL_law__1232 : decode cL_law_ 1232 = .ok (.aload_n 2, 1) := by decide +kernel
theorem dL_law__1233 : decode cL_law_ 1233 = .ok (.invokevirtual 96, 3) := by decide +kernel
theorem dL_law__1236 : decode cL_law_ 1236 = .ok (.iload 5, 2) := by decide +kernel
theorem dL_law__1238 : decode cL_law_ 1238 = .ok (.if_icmp .eq 5, 3) := by decide +kernel
theorem dL_law__1241 : decode cL_law_ 1241 = .ok (.iconst 0, 1) := by decide +kernel
theorem dL_law__1242 : decode cL_law_ 1242 = .ok (.ireturn, 1) := by decide +kernel
theorem dL_law__1243 : decode cL_law_ 1243 = .ok (.iload 5, 2) := by decide +kernel
theorem dL_law__1245 : decode cL_law_ 1245 = .ok (.ifCond .ne 15, 3) := by decide +kernel
theorem dL_law__1248 : decode cL_law_ 1248 = .ok (.aload_n 3, 1) := by decide +kernel
theorem dL_law__1249 : decode cL_law_ 1249 = .ok (.iconst 0, 1) := by decide +kernel
theorem dL_law__1250 : decode cL_law_ 1250 = .ok (.laload, 1) := by decide +kernel
theorem dL_law__1251 : decode cL_law_ 1251 = .ok (.iload 6, 2) := by decide +kernel
theorem dL_law__1253 : decode cL_law_ 1253 = .ok (.i2l, 1) := by decide +kernel
theorem dL_law__1254 : decode cL_law_ 1254 = .ok (.lcmp, 1) := by decide +kernel
theorem dL_law__1255 : decode cL_law_ 1255 = .ok (.ifCond .eq 5, 3) := by decide +kernel
theorem dL_law__1258 : decode cL_law_ 1258 = .ok (.iconst 0, 1) := by decide +kernel
theorem dL_law__1259 : decode cL_law_ 1259 = .ok (.ireturn, 1) := by decide +kernel
theorem dL_law__1260 : decode cL_law_ 1260 = .ok (.goto 322, 3) := by decide +kernel
theorem dL_law__1263 : decode cL_law_ 1263 = .ok (.aload_n 1, 1) := by decide +kernel
theorem dL_law__1264 : decode cL_law_ 1264 = .ok (.aload_n 0, 1) := by decide +kernel
theorem dL_law__1265 : decode cL_law_ 1265 = .ok (.iload 4, 2) := by decide +kernel
theorem dL_law__1267 : decode cL_law_ 1267 = .ok (.iconst 1, 1) := by decide +kernel
theorem dL_law__1268 : decode cL_law_ 1268 = .ok (.iadd, 1) := by decide +kernel
theorem dL_law__1269 : decode cL_law_ 1269 = .ok (.iaload, 1) := by decide +kernel
theorem dL_law__1270 : decode cL_law_ 1270 = .ok (.aload_n 3, 1) := by decide +kernel
theorem dL_law__1271 : decode cL_law_ 1271 = .ok (.invokestatic 153, 3) := by decide +kernel
theorem dL_law__1274 : decode cL_law_ 1274 = .ok (.istore 5, 2) := by decide +kernel
theorem dL_law__1276 : decode cL_law_ 1276 = .ok (.aload_n 2, 1) := by decide +kernel
theorem dL_law__1277 : decode cL_law_ 1277 = .ok (.aload_n 0, 1) := by decide +kernel
theorem dL_law__1278 : decode cL_law_ 1278 = .ok (.iload 4, 2) := by decide +kernel
theorem dL_law__1280 : decode cL_law_ 1280 = .ok (.iconst 1, 1) := by decide +kernel
theorem dL_law__1281 : decode cL_law_ 1281 = .ok (.iadd, 1) := by decide +kernel
theorem dL_law__1282 : decode cL_law_ 1282 = .ok (.iaload, 1) := by decide +kernel
theorem dL_law__1283 : decode cL_law_ 1283 = .ok (.invokevirtual 155, 3) := by decide +kernel
theorem dL_law__1286 : decode cL_law_ 1286 = .ok (.istore 6, 2) := by decide +kernel
theorem dL_law__1288 : decode cL_law_ 1288 = .ok (.aload_n 2, 1) := by decide +kernel
theorem dL_law__1289 : decode cL_law_ 1289 = .ok (.invokevirtual 96, 3) := by decide +kernel
theorem dL_law__1292 : decode cL_law_ 1292 = .ok (.iload 5, 2) := by decide +kernel
theorem dL_law__1294 : decode cL_law_ 1294 = .ok (.if_icmp .eq 5, 3) := by decide +kernel
theorem dL_law__1297 : decode cL_law_ 1297 = .ok (.iconst 0, 1) := by decide +kernel
theorem dL_law__1298 : decode cL_law_ 1298 = .ok (.ireturn, 1) := by decide +kernel
theorem dL_law__1299 : decode cL_law_ 1299 = .ok (.iload 5, 2) := by decide +kernel
theorem dL_law__1301 : decode cL_law_ 1301 = .ok (.ifCond .ne 15, 3) := by decide +kernel
theorem dL_law__1304 : decode cL_law_ 1304 = .ok (.aload_n 3, 1) := by decide +kernel
theorem dL_law__1305 : decode cL_law_ 1305 = .ok (.iconst 0, 1) := by decide +kernel
theorem dL_law__1306 : decode cL_law_ 1306 = .ok (.laload, 1) := by decide +kernel
theorem dL_law__1307 : decode cL_law_ 1307 = .ok (.iload 6, 2) := by decide +kernel
theorem dL_law__1309 : decode cL_law_ 1309 = .ok (.i2l, 1) := by decide +kernel
theorem dL_law__1310 : decode cL_law_ 1310 = .ok (.lcmp, 1) := by decide +kernel
theorem dL_law__1311 : decode cL_law_ 1311 = .ok (.ifCond .eq 5, 3) := by decide +kernel
theorem dL_law__1314 : decode cL_law_ 1314 = .ok (.iconst 0, 1) := by decide +kernel
theorem dL_law__1315 : decode cL_law_ 1315 = .ok (.ireturn, 1) := by decide +kernel
theorem dL_law__1316 : decode cL_law_ 1316 = .ok (.goto 266, 3) := by decide +kernel
theorem dL_law__1319 : decode cL_law_ 1319 = .ok (.aload_n 1, 1) := by decide +kernel
theorem dL_law__1320 : decode cL_law_ 1320 = .ok (.aload_n 0, 1) := by decide +kernel
theorem dL_law__1321 : decode cL_law_ 1321 = .ok (.iload 4, 2) := by decide +kernel
theorem dL_law__1323 : decode cL_law_ 1323 = .ok (.iconst 1, 1) := by decide +kernel
theorem dL_law__1324 : decode cL_law_ 1324 = .ok (.iadd, 1) := by decide +kernel
theorem dL_law__1325 : decode cL_law_ 1325 = .ok (.iaload, 1) := by decide +kernel
theorem dL_law__1326 : decode cL_law_ 1326 = .ok (.aload_n 3, 1) := by decide +kernel
theorem dL_law__1327 : decode cL_law_ 1327 = .ok (.invokestatic 156, 3) := by decide +kernel
theorem dL_law__1330 : decode cL_law_ 1330 = .ok (.istore 5, 2) := by decide +kernel
theorem dL_law__1332 : decode cL_law_ 1332 = .ok (.aload_n 2, 1) := by decide +kernel
theorem dL_law__1333 : decode cL_law_ 1333 = .ok (.aload_n 0, 1) := by decide +kernel
theorem dL_law__1334 : decode cL_law_ 1334 = .ok (.iload 4, 2) := by decide +kernel
theorem dL_law__1336 : decode cL_law_ 1336 = .ok (.iconst 1, 1) := by decide +kernel
theorem dL_law__1337 : decode cL_law_ 1337 = .ok (.iadd, 1) := by decide +kernel
theorem dL_law__1338 : decode cL_law_ 1338 = .ok (.iaload, 1) := by decide +kernel
theorem dL_law__1339 : decode cL_law_ 1339 = .ok (.invokevirtual 158, 3) := by decide +kernel
theorem dL_law__1342 : decode cL_law_ 1342 = .ok (.istore 6, 2) := by decide +kernel
theorem dL_law__1344 : decode cL_law_ 1344 = .ok (.aload_n 2, 1) := by decide +kernel
theorem dL_law__1345 : decode cL_law_ 1345 = .ok (.invokevirtual 96, 3) := by decide +kernel
theorem dL_law__1348 : decode cL_law_ 1348 = .ok (.iload 5, 2) := by decide +kernel
theorem dL_law__1350 : decode cL_law_ 1350 = .ok (.if_icmp .eq 5, 3) := by decide +kernel
theorem dL_law__1353 : decode cL_law_ 1353 = .ok (.iconst 0, 1) := by decide +kernel
theorem dL_law__1354 : decode cL_law_ 1354 = .ok (.ireturn, 1) := by decide +kernel
theorem dL_law__1355 : decode cL_law_ 1355 = .ok (.iload 5, 2) := by decide +kernel
theorem dL_law__1357 : decode cL_law_ 1357 = .ok (.ifCond .ne 15, 3) := by decide +kernel
theorem dL_law__1360 : decode cL_law_ 1360 = .ok (.aload_n 3, 1) := by decide +kernel
theorem dL_law__1361 : decode cL_law_ 1361 = .ok (.iconst 0, 1) := by decide +kernel
theorem dL_law__1362 : decode cL_law_ 1362 = .ok (.laload, 1) := by decide +kernel
theorem dL_law__1363 : decode cL_law_ 1363 = .ok (.iload 6, 2) := by decide +kernel
theorem dL_law__1365 : decode cL_law_ 1365 = .ok (.i2l, 1) := by decide +kernel
theorem dL_law__1366 : decode cL_law_ 1366 = .ok (.lcmp, 1) := by decide +kernel
theorem dL_law__1367 : decode cL_law_ 1367 = .ok (.ifCond .eq 5, 3) := by decide +kernel
theorem dL_law__1370 : decode cL_law_ 1370 = .ok (.iconst 0, 1) := by decide +kernel
theorem dL_law__1371 : decode cL_law_ 1371 = .ok (.ireturn, 1) := by decide +kernel
theorem dL_law__1372 : decode cL_law_ 1372 = .ok (.goto 210, 3) := by decide +kernel
theorem dL_law__1375 : decode cL_law_ 1375 = .ok (.aload_n 1, 1) := by decide +kernel
theorem dL_law__1376 : decode cL_law_ 1376 = .ok (.aload_n 0, 1) := by decide +kernel
theorem dL_law__1377 : decode cL_law_ 1377 = .ok (.iload 4, 2) := by decide +kernel
theorem dL_law__1379 : decode cL_law_ 1379 = .ok (.iconst 1, 1) := by decide +kernel
theorem dL_law__1380 : decode cL_law_ 1380 = .ok (.iadd, 1) := by decide +kernel
theorem dL_law__1381 : decode cL_law_ 1381 = .ok (.iaload, 1) := by decide +kernel
theorem dL_law__1382 : decode cL_law_ 1382 = .ok (.aload_n 3, 1) := by decide +kernel
theorem dL_law__1383 : decode cL_law_ 1383 = .ok (.invokestatic 159, 3) := by decide +kernel
theorem dL_law__1386 : decode cL_law_ 1386 = .ok (.istore 5, 2) := by decide +kernel
theorem dL_law__1388 : decode cL_law_ 1388 = .ok (.aload_n 2, 1) := by decide +kernel
theorem dL_law__1389 : decode cL_law_ 1389 = .ok (.aload_n 0, 1) := by decide +kernel
theorem dL_law__1390 : decode cL_law_ 1390 = .ok (.iload 4, 2) := by decide +kernel
theorem dL_law__1392 : decode cL_law_ 1392 = .ok (.iconst 1, 1) := by decide +kernel
theorem dL_law__1393 : decode cL_law_ 1393 = .ok (.iadd, 1) := by decide +kernel
theorem dL_law__1394 : decode cL_law_ 1394 = .ok (.iaload, 1) := by decide +kernel
theorem dL_law__1395 : decode cL_law_ 1395 = .ok (.invokevirtual 161, 3) := by decide +kernel
theorem dL_law__1398 : decode cL_law_ 1398 = .ok (.istore 6, 2) := by decide +kernel
theorem dL_law__1400 : decode cL_law_ 1400 = .ok (.aload_n 2, 1) := by decide +kernel
theorem dL_law__1401 : decode cL_law_ 1401 = .ok (.invokevirtual 96, 3) := by decide +kernel
theorem dL_law__1404 : decode cL_law_ 1404 = .ok (.iload 5, 2) := by decide +kernel
theorem dL_law__1406 : decode cL_law_ 1406 = .ok (.if_icmp .eq 5, 3) := by decide +kernel
theorem dL_law__1409 : decode cL_law_ 1409 = .ok (.iconst 0, 1) := by decide +kernel
theorem dL_law__1410 : decode cL_law_ 1410 = .ok (.ireturn, 1) := by decide +kernel
theorem dL_law__1411 : decode cL_law_ 1411 = .ok (.iload 5, 2) := by decide +kernel
theorem dL_law__1413 : decode cL_law_ 1413 = .ok (.ifCond .ne 15, 3) := by decide +kernel
theorem dL_law__1416 : decode cL_law_ 1416 = .ok (.aload_n 3, 1) := by decide +kernel
theorem dL_law__1417 : decode cL_law_ 1417 = .ok (.iconst 0, 1) := by decide +kernel
theorem dL_law__1418 : decode cL_law_ 1418 = .ok (.laload, 1) := by decide +kernel
theorem dL_law__1419 : decode cL_law_ 1419 = .ok (.iload 6, 2) := by decide +kernel
theorem dL_law__1421 : decode cL_law_ 1421 = .ok (.i2l, 1) := by decide +kernel
theorem dL_law__1422 : decode cL_law_ 1422 = .ok (.lcmp, 1) := by decide +kernel
theorem dL_law__1423 : decode cL_law_ 1423 = .ok (.ifCond .eq 5, 3) := by decide +kernel
theorem dL_law__1426 : decode cL_law_ 1426 = .ok (.iconst 0, 1) := by decide +kernel
theorem dL_law__1427 : decode cL_law_ 1427 = .ok (.ireturn, 1) := by decide +kernel
theorem dL_law__1428 : decode cL_law_ 1428 = .ok (.goto 154, 3) := by decide +kernel
theorem dL_law__1431 : decode cL_law_ 1431 = .ok (.aload_n 1, 1) := by decide +kernel
theorem dL_law__1432 : decode cL_law_ 1432 = .ok (.invokevirtual 162, 3) := by decide +kernel
theorem dL_law__1435 : decode cL_law_ 1435 = .ok (.aload_n 2, 1) := by decide +kernel
theorem dL_law__1436 : decode cL_law_ 1436 = .ok (.invokevirtual 165, 3) := by decide +kernel
theorem dL_law__1439 : decode cL_law_ 1439 = .ok (.if_icmp .eq 143, 3) := by decide +kernel
theorem dL_law__1442 : decode cL_law_ 1442 = .ok (.iconst 0, 1) := by decide +kernel
theorem dL_law__1443 : decode cL_law_ 1443 = .ok (.ireturn, 1) := by decide +kernel
theorem dL_law__1444 : decode cL_law_ 1444 = .ok (.aload_n 1, 1) := by decide +kernel
theorem dL_law__1445 : decode cL_law_ 1445 = .ok (.aload_n 3, 1) := by decide +kernel
theorem dL_law__1446 : decode cL_law_ 1446 = .ok (.invokestatic 166, 3) := by decide +kernel
theorem dL_law__1449 : decode cL_law_ 1449 = .ok (.istore 5, 2) := by decide +kernel
theorem dL_law__1451 : decode cL_law_ 1451 = .ok (.aload_n 2, 1) := by decide +kernel
theorem dL_law__1452 : decode cL_law_ 1452 = .ok (.invokevirtual 169, 3) := by decide +kernel
theorem dL_law__1455 : decode cL_law_ 1455 = .ok (.istore 6, 2) := by decide +kernel
theorem dL_law__1457 : decode cL_law_ 1457 = .ok (.aload_n 2, 1) := by decide +kernel
theorem dL_law__1458 : decode cL_law_ 1458 = .ok (.invokevirtual 96, 3) := by decide +kernel
theorem dL_law__1461 : decode cL_law_ 1461 = .ok (.iload 5, 2) := by decide +kernel
theorem dL_law__1463 : decode cL_law_ 1463 = .ok (.if_icmp .eq 5, 3) := by decide +kernel
theorem dL_law__1466 : decode cL_law_ 1466 = .ok (.iconst 0, 1) := by decide +kernel
theorem dL_law__1467 : decode cL_law_ 1467 = .ok (.ireturn, 1) := by decide +kernel
theorem dL_law__1468 : decode cL_law_ 1468 = .ok (.iload 5, 2) := by decide +kernel
theorem dL_law__1470 : decode cL_law_ 1470 = .ok (.ifCond .ne 15, 3) := by decide +kernel
theorem dL_law__1473 : decode cL_law_ 1473 = .ok (.aload_n 3, 1) := by decide +kernel
theorem dL_law__1474 : decode cL_law_ 1474 = .ok (.iconst 0, 1) := by decide +kernel
theorem dL_law__1475 : decode cL_law_ 1475 = .ok (.laload, 1) := by decide +kernel
theorem dL_law__1476 : decode cL_law_ 1476 = .ok (.iload 6, 2) := by decide +kernel
theorem dL_law__1478 : decode cL_law_ 1478 = .ok (.i2l, 1) := by decide +kernel
theorem dL_law__1479 : decode cL_law_ 1479 = .ok (.lcmp, 1) := by decide +kernel
theorem dL_law__1480 : decode cL_law_ 1480 = .ok (.ifCond .eq 5, 3) := by decide +kernel
theorem dL_law__1483 : decode cL_law_ 1483 = .ok (.iconst 0, 1) := by decide +kernel
theorem dL_law__1484 : decode cL_law_ 1484 = .ok (.ireturn, 1) := by decide +kernel
theorem dL_law__1485 : decode cL_law_ 1485 = .ok (.goto 97, 3) := by decide +kernel
theorem dL_law__1488 : decode cL_law_ 1488 = .ok (.aload_n 1, 1) := by decide +kernel
theorem dL_law__1489 : decode cL_law_ 1489 = .ok (.invokevirtual 170, 3) := by decide +kernel
theorem dL_law__1492 : decode cL_law_ 1492 = .ok (.aload_n 2, 1) := by decide +kernel
theorem dL_law__1493 : decode cL_law_ 1493 = .ok (.invokevirtual 173, 3) := by decide +kernel
theorem dL_law__1496 : decode cL_law_ 1496 = .ok (.if_icmp .eq 86, 3) := by decide +kernel
theorem dL_law__1499 : decode cL_law_ 1499 = .ok (.iconst 0, 1) := by decide +kernel
theorem dL_law__1500 : decode cL_law_ 1500 = .ok (.ireturn, 1) := by decide +kernel
theorem dL_law__1501 : decode cL_law_ 1501 = .ok (.aload_n 1, 1) := by decide +kernel
theorem dL_law__1502 : decode cL_law_ 1502 = .ok (.invokevirtual 174, 3) := by decide +kernel
theorem dL_law__1505 : decode cL_law_ 1505 = .ok (.aload_n 2, 1) := by decide +kernel
theorem dL_law__1506 : decode cL_law_ 1506 = .ok (.invokevirtual 177, 3) := by decide +kernel
theorem dL_law__1509 : decode cL_law_ 1509 = .ok (.if_icmp .eq 73, 3) := by decide +kernel
theorem dL_law__1512 : decode cL_law_ 1512 = .ok (.iconst 0, 1) := by decide +kernel
theorem dL_law__1513 : decode cL_law_ 1513 = .ok (.ireturn, 1) := by decide +kernel
theorem dL_law__1514 : decode cL_law_ 1514 = .ok (.aload_n 1, 1) := by decide +kernel
theorem dL_law__1515 : decode cL_law_ 1515 = .ok (.aload_n 0, 1) := by decide +kernel
theorem dL_law__1516 : decode cL_law_ 1516 = .ok (.iload 4, 2) := by decide +kernel
theorem dL_law__1518 : decode cL_law_ 1518 = .ok (.iconst 1, 1) := by decide +kernel
theorem dL_law__1519 : decode cL_law_ 1519 = .ok (.iadd, 1) := by decide +kernel
theorem dL_law__1520 : decode cL_law_ 1520 = .ok (.iaload, 1) := by decide +kernel
theorem dL_law__1521 : decode cL_law_ 1521 = .ok (.aload_n 0, 1) := by decide +kernel
theorem dL_law__1522 : decode cL_law_ 1522 = .ok (.iload 4, 2) := by decide +kernel
theorem dL_law__1524 : decode cL_law_ 1524 = .ok (.iconst 2, 1) := by decide +kernel
theorem dL_law__1525 : decode cL_law_ 1525 = .ok (.iadd, 1) := by decide +kernel
theorem dL_law__1526 : decode cL_law_ 1526 = .ok (.iaload, 1) := by decide +kernel
theorem dL_law__1527 : decode cL_law_ 1527 = .ok (.aload_n 3, 1) := by decide +kernel
theorem dL_law__1528 : decode cL_law_ 1528 = .ok (.invokestatic 178, 3) := by decide +kernel
theorem dL_law__1531 : decode cL_law_ 1531 = .ok (.istore 5, 2) := by decide +kernel
theorem dL_law__1533 : decode cL_law_ 1533 = .ok (.aload_n 2, 1) := by decide +kernel
theorem dL_law__1534 : decode cL_law_ 1534 = .ok (.aload_n 0, 1) := by decide +kernel
theorem dL_law__1535 : decode cL_law_ 1535 = .ok (.iload 4, 2) := by decide +kernel
theorem dL_law__1537 : decode cL_law_ 1537 = .ok (.iconst 1, 1) := by decide +kernel
theorem dL_law__1538 : decode cL_law_ 1538 = .ok (.iadd, 1) := by decide +kernel
theorem dL_law__1539 : decode cL_law_ 1539 = .ok (.iaload, 1) := by decide +kernel
theorem dL_law__1540 : decode cL_law_ 1540 = .ok (.aload_n 0, 1) := by decide +kernel
theorem dL_law__1541 : decode cL_law_ 1541 = .ok (.iload 4, 2) := by decide +kernel
theorem dL_law__1543 : decode cL_law_ 1543 = .ok (.iconst 2, 1) := by decide +kernel
theorem dL_law__1544 : decode cL_law_ 1544 = .ok (.iadd, 1) := by decide +kernel
theorem dL_law__1545 : decode cL_law_ 1545 = .ok (.iaload, 1) := by decide +kernel
theorem dL_law__1546 : decode cL_law_ 1546 = .ok (.invokevirtual 180, 3) := by decide +kernel
theorem dL_law__1549 : decode cL_law_ 1549 = .ok (.istore 6, 2) := by decide +kernel
theorem dL_law__1551 : decode cL_law_ 1551 = .ok (.aload_n 2, 1) := by decide +kernel
theorem dL_law__1552 : decode cL_law_ 1552 = .ok (.invokevirtual 96, 3) := by decide +kernel
theorem dL_law__1555 : decode cL_law_ 1555 = .ok (.iload 5, 2) := by decide +kernel
theorem dL_law__1557 : decode cL_law_ 1557 = .ok (.if_icmp .eq 5, 3) := by decide +kernel
theorem dL_law__1560 : decode cL_law_ 1560 = .ok (.iconst 0, 1) := by decide +kernel
theorem dL_law__1561 : decode cL_law_ 1561 = .ok (.ireturn, 1) := by decide +kernel
theorem dL_law__1562 : decode cL_law_ 1562 = .ok (.iload 5, 2) := by decide +kernel
theorem dL_law__1564 : decode cL_law_ 1564 = .ok (.ifCond .ne 15, 3) := by decide +kernel
theorem dL_law__1567 : decode cL_law_ 1567 = .ok (.aload_n 3, 1) := by decide +kernel
theorem dL_law__1568 : decode cL_law_ 1568 = .ok (.iconst 0, 1) := by decide +kernel
theorem dL_law__1569 : decode cL_law_ 1569 = .ok (.laload, 1) := by decide +kernel
theorem dL_law__1570 : decode cL_law_ 1570 = .ok (.iload 6, 2) := by decide +kernel
theorem dL_law__1572 : decode cL_law_ 1572 = .ok (.i2l, 1) := by decide +kernel
theorem dL_law__1573 : decode cL_law_ 1573 = .ok (.lcmp, 1) := by decide +kernel
theorem dL_law__1574 : decode cL_law_ 1574 = .ok (.ifCond .eq 5, 3) := by decide +kernel
theorem dL_law__1577 : decode cL_law_ 1577 = .ok (.iconst 0, 1) := by decide +kernel
theorem dL_law__1578 : decode cL_law_ 1578 = .ok (.ireturn, 1) := by decide +kernel
theorem dL_law__1579 : decode cL_law_ 1579 = .ok (.goto 3, 3) := by decide +kernel
theorem dL_law__1582 : decode cL_law_ 1582 = .ok (.iinc 4 5, 3) := by decide +kernel
theorem dL_law__1585 : decode cL_law_ 1585 = .ok (.goto (-1562), 3) := by decide +kernel
theorem dL_law__1588 : decode cL_law_ 1588 = .ok (.iconst 1, 1) := by decide +kernel
theorem dL_law__1589 : decode cL_law_ 1589 = .ok (.ireturn, 1) := by decide +kernel
end
section
/-! THE MEMORY MODEL. A state of the system's heap is told by numbers: things are of kinds (0 the vault, 1 its row of last years ..), the i-th thing of a kind has int slots, reference slots and long slots. A count a kind says how many there are. Where they lie (ad) is nobody's business above this part. -/
abbrev jM : Type := (Nat → Nat) × (Nat → Nat → Nat → Int32) × (Nat → Nat → Nat → Option (Nat × Nat)) × (Nat → Nat → Nat → Int64)
abbrev jV : Type := Int32 ⊕ (Int64 ⊕ Option (Nat × Nat))
abbrev aI (x : Int32) : jV := Sum.inl x
abbrev aL (x : Int64) : jV := Sum.inr (Sum.inl x)
abbrev aO (r : Option (Nat × Nat)) : jV := Sum.inr (Sum.inr r)
abbrev aR (k i : Nat) : jV := Sum.inr (Sum.inr (some (k, i)))
def mN (μ : jM) : Nat → Nat := μ.1
def mI (μ : jM) : Nat → Nat → Nat → Int32 := μ.2.1
def mP (μ : jM) : Nat → Nat → Nat → Option (Nat × Nat) := μ.2.2.1
def mG (μ : jM) : Nat → Nat → Nat → Int64 := μ.2.2.2
def up3 {α : Type} (f : Nat → Nat → Nat → α) (a b c : Nat) (v : α) : Nat → Nat → Nat → α := fun x y z => if x = a ∧ y = b ∧ z = c then v else f x y z
def up1 (f : Nat → Nat) (a n : Nat) : Nat → Nat := fun x => if x = a then n else f x
def cl2 {α : Type} (f : Nat → Nat → Nat → α) (a lo : Nat) (v : α) : Nat → Nat → Nat → α := fun x y z => if x = a ∧ lo ≤ y then v else f x y z
def sI (μ : jM) (a b c : Nat) (v : Int32) : jM := (mN μ, up3 (mI μ) a b c v, mP μ, mG μ)
def sP (μ : jM) (a b c : Nat) (v : Option (Nat × Nat)) : jM := (mN μ, mI μ, up3 (mP μ) a b c v, mG μ)
def sG (μ : jM) (a b c : Nat) (v : Int64) : jM := (mN μ, mI μ, mP μ, up3 (mG μ) a b c v)
/-- a new thing of kind k: the next number, its slots blank -/
def nw (μ : jM) (k : Nat) : jM := (up1 (mN μ) k (mN μ k + 1), cl2 (mI μ) k (mN μ k) 0, cl2 (mP μ) k (mN μ k) none, cl2 (mG μ) k (mN μ k) 0)
/-- a new thing of kind k whose slots hold n new things of kind r -/
def nwm (μ : jM) (k r n : Nat) : jM := (up1 (up1 (mN μ) k (mN μ k + 1)) r (mN μ r + n), cl2 (cl2 (mI μ) k (mN μ k) 0) r (mN μ r) 0, (fun x y z => if x = k ∧ y = mN μ k ∧ z < n then some (r, mN μ r + z) else cl2 (cl2 (mP μ) k (mN μ k) none) r (mN μ r) none x y z), cl2 (cl2 (mG μ) k (mN μ k) 0) r (mN μ r) 0)
theorem mN_sI (μ : jM) (a b c : Nat) (v : Int32) : mN (sI μ a b c v) = mN μ := rfl
theorem mP_sI (μ : jM) (a b c : Nat) (v : Int32) : mP (sI μ a b c v) = mP μ := rfl
theorem mG_sI (μ : jM) (a b c : Nat) (v : Int32) : mG (sI μ a b c v) = mG μ := rfl
theorem mN_sP (μ : jM) (a b c : Nat) (v : Option (Nat × Nat)) : mN (sP μ a b c v) = mN μ := rfl
theorem mI_sP (μ : jM) (a b c : Nat) (v : Option (Nat × Nat)) : mI (sP μ a b c v) = mI μ := rfl
theorem mG_sP (μ : jM) (a b c : Nat) (v : Option (Nat × Nat)) : mG (sP μ a b c v) = mG μ := rfl
theorem mN_sG (μ : jM) (a b c : Nat) (v : Int64) : mN (sG μ a b c v) = mN μ := rfl
theorem mI_sG (μ : jM) (a b c : Nat) (v : Int64) : mI (sG μ a b c v) = mI μ := rfl
theorem mP_sG (μ : jM) (a b c : Nat) (v : Int64) : mP (sG μ a b c v) = mP μ := rfl
theorem mI_sI (μ : jM) (a b c : Nat) (v : Int32) (x y z : Nat) : mI (sI μ a b c v) x y z = if x = a ∧ y = b ∧ z = c then v else mI μ x y z := rfl
theorem mP_sP (μ : jM) (a b c : Nat) (v : Option (Nat × Nat)) (x y z : Nat) : mP (sP μ a b c v) x y z = if x = a ∧ y = b ∧ z = c then v else mP μ x y z := rfl
theorem mG_sG (μ : jM) (a b c : Nat) (v : Int64) (x y z : Nat) : mG (sG μ a b c v) x y z = if x = a ∧ y = b ∧ z = c then v else mG μ x y z := rfl
theorem mN_nw (μ : jM) (k x : Nat) : mN (nw μ k) x = if x = k then mN μ k + 1 else mN μ x := rfl
theorem mI_nw (μ : jM) (k x y z : Nat) : mI (nw μ k) x y z = if x = k ∧ mN μ k ≤ y then 0 else mI μ x y z := rfl
theorem mP_nw (μ : jM) (k x y z : Nat) : mP (nw μ k) x y z = if x = k ∧ mN μ k ≤ y then none else mP μ x y z := rfl
theorem mG_nw (μ : jM) (k x y z : Nat) : mG (nw μ k) x y z = if x = k ∧ mN μ k ≤ y then 0 else mG μ x y z := rfl
theorem mI_sI_s (μ : jM) (a b c : Nat) (v : Int32) : mI (sI μ a b c v) a b c = v := if_pos ⟨rfl, rfl, rfl⟩
theorem mI_sI_n (μ : jM) (a b c : Nat) (v : Int32) {x y z : Nat} (h : ¬ (x = a ∧ y = b ∧ z = c)) : mI (sI μ a b c v) x y z = mI μ x y z := if_neg h
theorem mP_sP_s (μ : jM) (a b c : Nat) (v : Option (Nat × Nat)) : mP (sP μ a b c v) a b c = v := if_pos ⟨rfl, rfl, rfl⟩
theorem mP_sP_n (μ : jM) (a b c : Nat) (v : Option (Nat × Nat)) {x y z : Nat} (h : ¬ (x = a ∧ y = b ∧ z = c)) : mP (sP μ a b c v) x y z = mP μ x y z := if_neg h
/-- what a kind's things are: objects (which of vwCl), or rows (of which type, how long) -/
def jSh : Nat → Nat ⊕ (FieldType × Nat)
  | 0 => .inl 5
  | 1 => .inr (.int, 10)
  | 2 => .inr (.object "FormatVault$Law", 5)
  | 3 => .inr (.object "FormatVault$StoredFile", 40)
  | 4 => .inl 3
  | 5 => .inr (.object "FormatVault$Converter", 30)
  | 6 => .inr (.object "FormatVault$Converter", 10)
  | 7 => .inr (.object "FormatVault$Converter", 10)
  | 8 => .inr (.object "FormatVault$BestWays", 10)
  | 9 => .inr (.int, 9)
  | 10 => .inl 2
  | 11 => .inl 0
  | 12 => .inl 4
  | 13 => .inl 1
  | 14 => .inr (.int, 10)
  | 15 => .inr (.int, 10)
  | 16 => .inr (.int, 10)
  | 17 => .inr (.array .int, 10)
  | 18 => .inr (.int, 9)
  | 20 => .inl 6
  | 21 => .inr (.int, 10)
  | 22 => .inr (.int, 30)
  | 23 => .inr (.int, 30)
  | 24 => .inr (.int, 30)
  | 25 => .inr (.int, 30)
  | 26 => .inr (.boolean, 30)
  | 27 => .inr (.int, 5)
  | 28 => .inr (.int, 5)
  | 29 => .inr (.int, 5)
  | 30 => .inr (.int, 40)
  | 31 => .inr (.int, 40)
  | 32 => .inr (.int, 40)
  | 33 => .inr (.int, 40)
  | 34 => .inr (.int, 40)
  | 35 => .inr (.int, 40)
  | 36 => .inr (.int, 40)
  | 37 => .inr (.boolean, 40)
  | 38 => .inr (.boolean, 40)
  | 39 => .inr (.boolean, 40)
  | 40 => .inr (.int, 100)
  | 41 => .inr (.int, 100)
  | 42 => .inr (.int, 100)
  | 43 => .inr (.int, 900)
  | 44 => .inr (.int, 11)
  | 45 => .inr (.int, 11)
  | 46 => .inr (.int, 11)
  | 47 => .inr (.int, 11)
  | 48 => .inr (.int, 11)
  | 49 => .inr (.boolean, 10)
  | 60 => .inr (.long, 1)
  | _ => .inr (.int, 0)
/-- the types of the fields of a thing's make -/
def jFt : Nat → Nat → FieldType
  | 0 => tyX0
  | 1 => tyX1
  | 2 => tyX2
  | 3 => tyX3
  | 4 => tyX4
  | 5 => tyX5
  | _ => tyX6
def jNf : Nat → Nat
  | 0 => 5
  | 1 => 7
  | 2 => 3
  | 3 => 6
  | 4 => 8
  | 5 => 8
  | _ => 36
def jTx : Nat → u_T
  | 0 => TX0
  | 1 => TX1
  | 2 => TX2
  | 3 => TX3
  | 4 => TX4
  | 5 => TX5
  | _ => TX6
def jNm : Nat → String
  | 0 => RX0
  | 1 => RX1
  | 2 => RX2
  | 3 => RX3
  | 4 => RX4
  | 5 => RX5
  | _ => RX6
theorem jCl_at {ci : Nat} (h : ci < 7) : vwCl[ci]? = some (jNm ci, jTx ci, jNf ci) := by
  rcases (show ci = 0 ∨ ci = 1 ∨ ci = 2 ∨ ci = 3 ∨ ci = 4 ∨ ci = 5 ∨ ci = 6 by omega) with rfl | rfl | rfl | rfl | rfl | rfl | rfl <;> rfl
theorem jTy_ok {ci : Nat} (h : ci < 7) : ∀ k, k < jNf ci → parseFieldDescriptor (jTx ci k).2.2.1 = some (jFt ci k) := by
  rcases (show ci = 0 ∨ ci = 1 ∨ ci = 2 ∨ ci = 3 ∨ ci = 4 ∨ ci = 5 ∨ ci = 6 by omega) with rfl | rfl | rfl | rfl | rfl | rfl | rfl
  · exact tyX0_ok
  · exact tyX1_ok
  · exact tyX2_ok
  · exact tyX3_ok
  · exact tyX4_ok
  · exact tyX5_ok
  · exact tyX6_ok
theorem jNm_ok {ci : Nat} (h : ci < 7) : ∀ a, a < jNf ci → ∀ b, b < jNf ci → a ≠ b → (jTx ci a).2.1 ≠ (jTx ci b).2.1 := by
  rcases (show ci = 0 ∨ ci = 1 ∨ ci = 2 ∨ ci = 3 ∨ ci = 4 ∨ ci = 5 ∨ ci = 6 by omega) with rfl | rfl | rfl | rfl | rfl | rfl | rfl
  · exact nmX0
  · exact nmX1
  · exact nmX2
  · exact nmX3
  · exact nmX4
  · exact nmX5
  · exact nmX6
/-- a told value as the machine has it -/
def jc (ad : Nat → Nat → Nat) : jV → Value
  | .inl x => .int x
  | .inr (.inl x) => .long x
  | .inr (.inr none) => .null
  | .inr (.inr (some q)) => .ref (ad q.1 q.2)
def jcat : jV → Nat
  | .inr (.inl _) => 2
  | _ => 1
theorem jc_cat (ad : Nat → Nat → Nat) : ∀ v : jV, (jc ad v).category = jcat v
  | .inl _ => rfl
  | .inr (.inl _) => rfl
  | .inr (.inr none) => rfl
  | .inr (.inr (some _)) => rfl
theorem jc_cats (ad : Nat → Nat → Nat) : ∀ st : List jV, ((st.map (jc ad)).map fun v => v.category).sum = (st.map jcat).sum
  | [] => rfl
  | v :: r => by
    simp only [List.map_cons, List.sum_cons, jc_cat]
    rw [jc_cats ad r]
/-- a slot's value by its type -/
def jv (ad : Nat → Nat → Nat) (μ : jM) (ty : FieldType) (kd i k : Nat) : Value := match ty with
  | .long => .long (mG μ kd i k)
  | .object _ => jc ad (aO (mP μ kd i k))
  | .array _ => jc ad (aO (mP μ kd i k))
  | _ => .int (mI μ kd i k)
def jAt (D : va_G) (cm : FieldType → ClassId) (ad : Nat → Nat → Nat) (μ : jM) (H : Heap) (kd i : Nat) : Prop := match jSh kd with
  | .inl ci => t_OB (ad kd i) (D.1 ci) (jNf ci) (D.2 ci) H (fun k => jv ad μ (jFt ci k) kd i k)
  | .inr q => H[ad kd i]? = some (arrV (cm q.1) q.2 (fun k => jv ad μ q.1 kd i k))
/-- a value speaks of things that are there -/
def jL (μ : jM) : jV → Prop
  | .inr (.inr (some q)) => q.2 < mN μ q.1
  | _ => True
/-- the heap holds the told memory; the kind 61 is the law's script, which is told apart -/
def jT (D : va_G) (cm : FieldType → ClassId) (ad : Nat → Nat → Nat) (μ : jM) (H : Heap) : Prop :=
  (∀ kd i, kd ≠ 61 → i < mN μ kd → jAt D cm ad μ H kd i) ∧ (∀ kd i kd' i', i < mN μ kd → i' < mN μ kd' → ad kd i = ad kd' i' → kd = kd' ∧ i = i') ∧
  (∀ kd i k q, i < mN μ kd → mP μ kd i k = some q → q.2 < mN μ q.1) ∧ ∀ kd i, i < mN μ kd → ad kd i < H.size
theorem jAt.kept {D : va_G} {cm : FieldType → ClassId} {ad : Nat → Nat → Nat} {μ : jM} {H H1 : Heap} {kd i : Nat} (h : jAt D cm ad μ H kd i) (hq : H1[ad kd i]? = H[ad kd i]?) : jAt D cm ad μ H1 kd i := by
  unfold jAt at h ⊢
  split at h
  · rename_i ci hs
    exact h.kept hq
  · rename_i q hs
    exact hq.trans h
theorem jAt.to {D : va_G} {cm : FieldType → ClassId} {ad ad' : Nat → Nat → Nat} {μ μ' : jM} {H : Heap} {kd i : Nat} (h : jAt D cm ad μ H kd i) (ha : ad' kd i = ad kd i) (hv : ∀ ty k, jv ad' μ' ty kd i k = jv ad μ ty kd i k) : jAt D cm ad' μ' H kd i := by
  unfold jAt at h ⊢
  split at h
  · rename_i ci hs
    rw [ha]
    exact h.to (fun k hk => (hv _ _).symm)
  · rename_i q hs
    rw [ha]
    refine h.trans (congrArg some (congrArg (arrV (cm q.1) q.2) (funext fun k => (hv _ _).symm)))
theorem jc_same {ad ad' : Nat → Nat → Nat} {μ : jM} (ha : ∀ kd i, i < mN μ kd → ad' kd i = ad kd i) : ∀ v : jV, jL μ v → jc ad' v = jc ad v
  | .inl _, _ => rfl
  | .inr (.inl _), _ => rfl
  | .inr (.inr none), _ => rfl
  | .inr (.inr (some q)), h => congrArg Value.ref (ha q.1 q.2 h)
theorem jL_mono {μ μ' : jM} (h : ∀ kd, mN μ kd ≤ mN μ' kd) : ∀ v : jV, jL μ v → jL μ' v
  | .inl _, _ => trivial
  | .inr (.inl _), _ => trivial
  | .inr (.inr none), _ => trivial
  | .inr (.inr (some q)), hv => Nat.lt_of_lt_of_le hv (h q.1)
theorem jL_O {μ : jM} {r : Option (Nat × Nat)} (h : ∀ q, r = some q → q.2 < mN μ q.1) : jL μ (aO r) := by
  cases r with
  | none => trivial
  | some q => exact h q rfl
/-- one thing was written -/
theorem jT.put {D : va_G} {cm : FieldType → ClassId} {ad : Nat → Nat → Nat} {μ μ' : jM} {H H1 : Heap} {kd i : Nat} (h : jT D cm ad μ H) (hl : i < mN μ kd) (hz : H1.size = H.size) (oq : ∀ q : Nat, q ≠ ad kd i → H1[q]? = H[q]?) (hN : mN μ' = mN μ)
    (hv : ∀ x y, ¬ (x = kd ∧ y = i) → ∀ z, mI μ' x y z = mI μ x y z ∧ mP μ' x y z = mP μ x y z ∧ mG μ' x y z = mG μ x y z) (hat : jAt D cm ad μ' H1 kd i) (hcl : ∀ k q, mP μ' kd i k = some q → q.2 < mN μ q.1) : jT D cm ad μ' H1 := by
  obtain ⟨h1, h2, h3, h4⟩ := h
  refine ⟨fun x y hx hy => ?_, fun a b c d ha hb hab => h2 a b c d (by rw [← hN]; exact ha) (by rw [← hN]; exact hb) hab, fun x y k q hy hq => ?_, fun x y hy => by rw [hz]; exact h4 x y (by rw [← hN]; exact hy)⟩
  · by_cases e : x = kd ∧ y = i
    · obtain ⟨rfl, rfl⟩ := e
      exact hat
    · rw [hN] at hy
      refine ((h1 x y hx hy).kept (oq _ (fun z => e (h2 x y kd i hy hl z)))).to rfl (fun ty k => ?_)
      obtain ⟨q1, q2, q3⟩ := hv x y e k
      unfold jv
      cases ty <;> simp [q1, q2, q3]
  · rw [hN] at hy ⊢
    by_cases e : x = kd ∧ y = i
    · obtain ⟨rfl, rfl⟩ := e
      exact hcl k q hq
    · rw [(hv x y e k).2.1] at hq
      exact h3 x y k q hy hq
def ua (ad : Nat → Nat → Nat) (kd i q : Nat) : Nat → Nat → Nat := fun x y => if x = kd ∧ y = i then q else ad x y
/-- a thing was made -/
theorem jT.push {D : va_G} {cm : FieldType → ClassId} {ad : Nat → Nat → Nat} {μ : jM} {H H1 : Heap} {kd : Nat} (h : jT D cm ad μ H) (hz : H1.size = H.size + 1) (oq : ∀ q : Nat, q < H.size → H1[q]? = H[q]?) (h61 : kd ≠ 61)
    (hat : jAt D cm (ua ad kd (mN μ kd) H.size) (nw μ kd) H1 kd (mN μ kd)) : jT D cm (ua ad kd (mN μ kd) H.size) (nw μ kd) H1 := by
  obtain ⟨h1, h2, h3, h4⟩ := h
  have hu : ∀ x y, y < mN μ x → ua ad kd (mN μ kd) H.size x y = ad x y := fun x y hy => by
    unfold ua
    rw [if_neg]
    rintro ⟨rfl, rfl⟩
    exact Nat.lt_irrefl _ hy
  have key : ∀ x y, y < mN (nw μ kd) x → (y < mN μ x ∧ ua ad kd (mN μ kd) H.size x y = ad x y ∧ ad x y < H.size) ∨ (x = kd ∧ y = mN μ kd ∧ ua ad kd (mN μ kd) H.size x y = H.size) := fun x y hy => by
    rw [mN_nw] at hy
    by_cases e : x = kd
    · subst e
      rw [if_pos rfl] at hy
      by_cases e2 : y = mN μ x
      · exact Or.inr ⟨rfl, e2, by unfold ua; rw [if_pos ⟨rfl, e2⟩]⟩
      · have hy2 : y < mN μ x := by omega
        exact Or.inl ⟨hy2, hu x y hy2, h4 x y hy2⟩
    · rw [if_neg e] at hy
      exact Or.inl ⟨hy, hu x y hy, h4 x y hy⟩
  refine ⟨fun x y hx hy => ?_, fun a b c d ha hb hab => ?_, fun x y k q hy hq => ?_, fun x y hy => ?_⟩
  · rcases key x y hy with ⟨g1, g2, g3⟩ | ⟨rfl, rfl, g3⟩
    · refine ((h1 x y hx g1).kept (oq _ g3)).to g2 (fun ty k => ?_)
      have e : ¬ (x = kd ∧ mN μ kd ≤ y) := by
        rintro ⟨rfl, h9⟩
        omega
      have q1 : mI (nw μ kd) x y k = mI μ x y k := by rw [mI_nw, if_neg e]
      have q2 : mP (nw μ kd) x y k = mP μ x y k := by rw [mP_nw, if_neg e]
      have q3 : mG (nw μ kd) x y k = mG μ x y k := by rw [mG_nw, if_neg e]
      have q4 : jc (ua ad kd (mN μ kd) H.size) (aO (mP μ x y k)) = jc ad (aO (mP μ x y k)) := jc_same (μ := μ) hu _ (jL_O (fun q hq => h3 x y k q g1 hq))
      unfold jv
      cases ty <;> simp [q1, q2, q3, q4]
    · exact hat
  · rcases key a b ha with ⟨g1, g2, g3⟩ | ⟨rfl, rfl, g3⟩ <;> rcases key c d hb with ⟨f1, f2, f3⟩ | ⟨rfl, rfl, f3⟩
    · rw [g2, f2] at hab
      exact h2 a b c d g1 f1 hab
    · rw [g2, f3] at hab
      omega
    · rw [g3, f2] at hab
      omega
    · exact ⟨rfl, rfl⟩
  · rw [mP_nw] at hq
    by_cases e : x = kd ∧ mN μ kd ≤ y
    · rw [if_pos e] at hq
      cases hq
    · rw [if_neg e] at hq
      have hy2 : y < mN μ x := by
        rcases key x y hy with ⟨g1, -⟩ | ⟨g1, g2, -⟩
        · exact g1
        · exact absurd ⟨g1, by omega⟩ e
      have := h3 x y k q hy2 hq
      rw [mN_nw]
      split
      · rename_i e3
        rw [e3] at this
        omega
      · exact this
  · rw [hz]
    rcases key x y hy with ⟨g1, g2, g3⟩ | ⟨rfl, rfl, g3⟩
    · rw [g2]; omega
    · rw [g3]; omega
end
section
/-! WHAT IS KNOWN OF A STATE, A METHOD'S CONTEXT, ITS WALK: 'J pc L st μ k n' says that from the row pc of the method, with the tracked variables L, the stack st, the memory μ, k cells and n slots used, the method comes to an end as its contract says. -/
def jGd : Cond → Bool
  | .castable _ _ => true
  | .declares _ => true
  | w => goodWord w
theorem jGd_move {w : Cond} {s U : State} (hW : s.WarmedH U.vm) (hg : jGd w = true) {a a' : Array Value} (h : w.before a s = true) : w.before a' U = true := by
  by_cases g : goodWord w = true
  · exact word_at hW (good_of_word g) h
  · cases w <;> first
      | exact absurd hg g
      | exact va_Nw.use rfl (va_Nw.warmC hW (va_Nw.of rfl h))
      | exact va_tabs (A := #[]) rfl (rfl : (s.setVm U.vm).vm = U.vm) (by rw [Cond.declares_setVm hW.alike]; exact va_Nw.of rfl h)
def jWL : List Cond := lw_tbl.filter jGd
theorem jWL_good {w : Cond} (h : w ∈ jWL) : jGd w = true := (List.mem_filter.mp h).2
theorem jWL_tbl {w : Cond} (h : w ∈ jWL) : w ∈ lw_tbl := (List.mem_filter.mp h).1
def jTys : List FieldType := [.int, .long, .boolean, .object "FormatVault$Law", .object "FormatVault$StoredFile", .object "FormatVault$Converter", .object "FormatVault$BestWays", .array .int]
def jStrs : List (String × Nat × String) := [("FormatVault", 232, "there is no such format"), ("FormatVault", 234, "an argument is out of its range"), ("FormatVault", 238, "the format cannot be read any more"), ("FormatVault", 56, "a converter leads to another format"), ("FormatVault", 66, "there are no more converters than 30"), ("FormatVault", 80, "there is no such converter"), ("FormatVault", 91, "the converter is withdrawn"), ("FormatVault", 240, "there is no such law"), ("FormatVault", 137, "there is no such place"), ("FormatVault", 149, "there are no more files than 40"), ("FormatVault", 242, "there is no such file"), ("FormatVault", 236, "the file is not kept"), ("FormatVault", 174, "the quality is below the least one of the law"), ("FormatVault", 179, "the file is in that format"), ("FormatVault", 181, "there is no way to that format"), ("FormatVault", 187, "what is left of the budget is not enough"), ("FormatVault", 214, "the year of now is the last one")]
def jOver (U : State) : Prop := va_AO "FormatVault$Law" U ∧ va_AO "FormatVault$StoredFile" U ∧ va_AO "FormatVault$Converter" U ∧ va_AO "FormatVault$BestWays" U ∧ va_AOA .int U
def jOff (U : State) : Prop := va_Nc "java/lang/IllegalArgumentException" "java/lang/IndexOutOfBoundsException" U ∧ va_Nc "java/lang/IllegalStateException" "java/lang/IndexOutOfBoundsException" U ∧ va_Nc "java/lang/IllegalStateException" "java/lang/IllegalArgumentException" U
theorem va_AOA.moved {ty : FieldType} {u U : State} (hvm : u.vm.Alike U.vm) (h : va_AOA ty u) : va_AOA ty U := by
  obtain ⟨comp, c, k, h1, h2, h3, h4, h5⟩ := arrayOverA_spec h
  obtain ⟨k', hk', he⟩ := hvm.2.2 _ _ h3
  have hi : (U.vm.classes.findIdx? fun (x : Class) => match x.kind with | .array component _ => component == comp | _ => false) = some c := by
    have e1 := va_idx_bare U.vm comp
    have e2 := va_idx_bare u.vm comp
    have hbq : u.vm.bare = U.vm.bare := by first | exact hvm.bare_eq | exact hvm.bare_eq.symm
    rw [← hbq] at e1
    exact e1.symm.trans (e2.trans h2)
  have hkind : k'.kind = .array comp (.array ty) := by rw [he]; exact h4
  have f1 : U.vm.findClass (FieldType.array ty).toString = some comp := by rw [hvm.findClass]; exact h1
  have f2 : U.vm.findClass ("[" ++ (FieldType.array ty).toString) = some c := by rw [hvm.findClass]; exact h5
  unfold va_AOA Cond.before Cond.holds
  simp only [Cond.value]
  rw [f1, Option.bind_some]
  refine (congrArg (fun o : Option Nat => (o.bind (fun c => (U.vm.classes[c]?).map fun (k : Class) => match k.kind with | .array _ t => decide (t = FieldType.array ty) && decide (U.vm.findClass ("[" ++ (FieldType.array ty).toString) = some c) | _ => false) == some true)) hi).trans ?_
  simp [hk', hkind, f2]
/-- what is known of a state: the makes of things, the rows' makes, the words, the texts, Throwable's two statics; A: what may be written -/
def jU (D : va_G) (cm : FieldType → ClassId) (A : Nat → Prop) (U : State) : Prop :=
  ((∀ (k : Nat) (q : vw_C), vwCl[k]? = some q → u_Kn U q.1 q.2.1 q.2.2 (D.1 k) (D.2 k)) ∧ (∀ ty ∈ jTys, ArrOfT U (cm ty) ty ∧ va_RA U (cm ty) ty)) ∧ (∀ w ∈ jWL, va_Nw w U) ∧ jOver U ∧ jOff U ∧ (∀ q ∈ jStrs, ∃ sa, vk_R q.1 q.2.1 q.2.2 sa U) ∧
  vx_Zq Bundle.tN "UNASSIGNED_STACK" Bundle.steD A U U.heap ∧ vx_Zq Bundle.tN "SUPPRESSED_SENTINEL" Bundle.listD A U U.heap
theorem jU.moved {D : va_G} {cm : FieldType → ClassId} {A B : Nat → Prop} {s U : State} (h : jU D cm A s) (hW : s.WarmedH U.vm) (hk : ∀ a : Nat, a < s.heap.size → ¬ A a → U.heap[a]? = s.heap[a]?) (hAB : ∀ q, B q → A q) : jU D cm B U := by
  obtain ⟨⟨h1, h2⟩, h3, ⟨o1, o2, o3, o4, o5⟩, ⟨p1, p2, p3⟩, h6, h7, h8⟩ := h
  have hvm := hW.alike
  refine ⟨⟨fun k q hq => u_Kn_moved hvm (h1 k q hq), fun ty ht => ⟨arrOfT_moved hvm (h2 ty ht).1, (h2 ty ht).2.moved hvm⟩⟩, fun w hw => jGd_move hW (jWL_good hw) (h3 w hw), ⟨o1.moved hvm, o2.moved hvm, o3.moved hvm, o4.moved hvm, o5.moved hvm⟩, ⟨p1.moved hvm, p2.moved hvm, p3.moved hvm⟩, fun q hq => ?_, ?_, ?_⟩
  · obtain ⟨sa, hsa⟩ := h6 q hq
    exact ⟨sa, vk_R.warm hW hsa⟩
  · exact vx_Zq.moved hvm (vx_Zq.narrow (h7.kept hk) hAB)
  · exact vx_Zq.moved hvm (vx_Zq.narrow (h8.kept hk) hAB)
/-- what a method may write: the told things that it is given, and what it makes -/
def jA (ad : Nat → Nat → Nat) (μ : jM) (sz : Nat) : Nat → Prop := fun q => (∃ kd i, kd ≠ 61 ∧ i < mN μ kd ∧ q = ad kd i) ∨ sz ≤ q
/-- a later memory: nothing told is gone, old things lie where they lay, new ones are new -/
def jX (ad0 : Nat → Nat → Nat) (μ0 : jM) (sz : Nat) (ad : Nat → Nat → Nat) (μ : jM) : Prop :=
  (∀ kd, mN μ0 kd ≤ mN μ kd) ∧ (∀ kd i, i < mN μ0 kd → ad kd i = ad0 kd i) ∧ ∀ kd i, kd ≠ 61 → mN μ0 kd ≤ i → i < mN μ kd → sz ≤ ad kd i
theorem jX.rf {ad : Nat → Nat → Nat} {μ : jM} {sz : Nat} : jX ad μ sz ad μ := ⟨fun _ => Nat.le_refl _, fun _ _ _ => rfl, fun _ _ _ h1 h2 => absurd h2 (Nat.not_lt.mpr h1)⟩
theorem jX.tr {a0 a1 a2 : Nat → Nat → Nat} {μ0 μ1 μ2 : jM} {s0 s1 : Nat} (h : jX a0 μ0 s0 a1 μ1) (h2 : jX a1 μ1 s1 a2 μ2) (hs : s0 ≤ s1) : jX a0 μ0 s0 a2 μ2 := by
  refine ⟨fun kd => Nat.le_trans (h.1 kd) (h2.1 kd), fun kd i hi => (h2.2.1 kd i (Nat.lt_of_lt_of_le hi (h.1 kd))).trans (h.2.1 kd i hi), fun kd i hk hi hi2 => ?_⟩
  by_cases e : i < mN μ1 kd
  · rw [h2.2.1 kd i e]
    exact h.2.2 kd i hk hi e
  · exact Nat.le_trans hs (h2.2.2 kd i hk (Nat.not_lt.mp e) hi2)
theorem jX.N {ad0 ad : Nat → Nat → Nat} {μ0 μ μ' : jM} {sz : Nat} (h : jX ad0 μ0 sz ad μ) (hN : mN μ' = mN μ) : jX ad0 μ0 sz ad μ' := by
  unfold jX
  rw [hN]
  exact h
theorem jX.A {ad0 ad : Nat → Nat → Nat} {μ0 μ : jM} {sz : Nat} (h : jX ad0 μ0 sz ad μ) {kd i : Nat} (hk : kd ≠ 61) (hi : i < mN μ kd) : jA ad0 μ0 sz (ad kd i) := by
  by_cases e : i < mN μ0 kd
  · exact Or.inl ⟨kd, i, hk, e, h.2.1 kd i e⟩
  · exact Or.inr (h.2.2 kd i hk (Nat.not_lt.mp e) hi)
theorem jX.sub {ad0 ad : Nat → Nat → Nat} {μ0 μ : jM} {sz sz2 : Nat} (h : jX ad0 μ0 sz ad μ) (hs : sz ≤ sz2) : ∀ q, jA ad μ sz2 q → jA ad0 μ0 sz q := by
  rintro q (⟨kd, i, hk, hi, rfl⟩ | hq)
  · exact h.A hk hi
  · exact Or.inr (Nat.le_trans hs hq)
/-- the tracked variables as the machine's -/
def jLs (ad : Nat → Nat → Nat) : Nat → List (Option jV) → List (Nat × Value)
  | _, [] => []
  | i, none :: r => jLs ad (i + 1) r
  | i, some v :: r => (i, jc ad v) :: jLs ad (i + 1) r
theorem jLs_mem (ad : Nat → Nat → Nat) : ∀ (L : List (Option jV)) (j i : Nat) (v : jV), L[i]? = some (some v) → (j + i, jc ad v) ∈ jLs ad j L
  | [], j, i, v, h => by simp at h
  | none :: r, j, 0, v, h => by simp at h
  | some w :: r, j, 0, v, h => by
    simp at h
    subst h
    exact List.mem_cons_self
  | none :: r, j, i + 1, v, h => by
    have := jLs_mem ad r (j + 1) i v (by simpa using h)
    rw [Nat.add_assoc, Nat.add_comm 1 i] at this
    exact this
  | some w :: r, j, i + 1, v, h => by
    have := jLs_mem ad r (j + 1) i v (by simpa using h)
    rw [Nat.add_assoc, Nat.add_comm 1 i] at this
    exact List.mem_cons_of_mem _ this
theorem jLs_of (ad : Nat → Nat → Nat) : ∀ (L : List (Option jV)) (j : Nat) (q : Nat × Value), q ∈ jLs ad j L → ∃ i v, L[i]? = some (some v) ∧ q = (j + i, jc ad v)
  | [], j, q, h => nomatch h
  | none :: r, j, q, h => by
    obtain ⟨i, v, h1, h2⟩ := jLs_of ad r (j + 1) q h
    exact ⟨i + 1, v, by simpa using h1, by rw [h2]; congr 1; omega⟩
  | some w :: r, j, q, h => by
    rcases List.mem_cons.mp h with h | h
    · exact ⟨0, w, rfl, h⟩
    · obtain ⟨i, v, h1, h2⟩ := jLs_of ad r (j + 1) q h
      exact ⟨i + 1, v, by simpa using h1, by rw [h2]; congr 1; omega⟩
theorem jLs_same {ad ad' : Nat → Nat → Nat} {μ : jM} (ha : ∀ kd i, i < mN μ kd → ad' kd i = ad kd i) : ∀ (L : List (Option jV)) (j : Nat), (∀ v, some v ∈ L → jL μ v) → jLs ad' j L = jLs ad j L
  | [], _, _ => rfl
  | none :: r, j, h => jLs_same ha r (j + 1) (fun v hv => h v (List.mem_cons_of_mem _ hv))
  | some w :: r, j, h => by
    show (j, jc ad' w) :: jLs ad' (j + 1) r = (j, jc ad w) :: jLs ad (j + 1) r
    rw [jc_same ha w (h w List.mem_cons_self), jLs_same ha r (j + 1) (fun v hv => h v (List.mem_cons_of_mem _ hv))]
theorem jcs_same {ad ad' : Nat → Nat → Nat} {μ : jM} (ha : ∀ kd i, i < mN μ kd → ad' kd i = ad kd i) {st : List jV} (h : ∀ v ∈ st, jL μ v) : st.map (jc ad') = st.map (jc ad) := List.map_congr_left fun v hv => jc_same ha v (h v hv)
/-- the method's walk -/
def jJ (p : Program) (l : Launch) (e : Env) (R : Room) (s : State) (m : MethodId) (args : Array Value) (below : List Frame) (meth : Method) (c : Code) (D : va_G) (cm : FieldType → ClassId) (ad0 : Nat → Nat → Nat) (μ0 : jM) (nL : Nat) (Q : State → Prop) (pc : Nat) (L : List (Option jV)) (st : List jV) (μ : jM) (k n : Nat) : Prop :=
  ∀ (ad : Nat → Nat → Nat) (H : Heap) (locs : List Loc) (ls : Array Slot), jT D cm ad μ H → jX ad0 μ0 s.heap.size ad μ → va_S (jA ad0 μ0 s.heap.size) s.heap H locs → (∀ v, some v ∈ L → jL μ v) → (∀ v ∈ st, jL μ v) → lv_has ls nL (jLs ad 0 L) →
    W p l e R s m args below meth c H locs k n Q (F0 m pc ls (st.map (jc ad)))
/-- a method's end: its answer, the memory behind it -/
def jQ (D : va_G) (cm : FieldType → ClassId) (ad0 : Nat → Nat → Nat) (μ0 : jM) (ret : Option jV → jM → Prop) : Array Value → State → Outcome → State → Prop := fun _ st oc t =>
  ∃ (r : Option jV) (ad : Nat → Nat → Nat) (μ : jM), oc = .returned (r.map (jc ad)) ∧ ret r μ ∧ jT D cm ad μ t.heap ∧ jX ad0 μ0 st.heap.size ad μ ∧ (∀ v ∈ r, jL μ v) ∧ va_F (jA ad0 μ0 st.heap.size) st t
def jXC (D : va_G) (cm : FieldType → ClassId) (ad0 : Nat → Nat → Nat) (μ0 : jM) (thr : String → jM → Prop) : String → State → State → Prop := fun E st t =>
  ∃ (ad : Nat → Nat → Nat) (μ : jM), thr E μ ∧ jT D cm ad μ t.heap ∧ jX ad0 μ0 st.heap.size ad μ ∧ va_F (jA ad0 μ0 st.heap.size) st t
def jPc (D : va_G) (cm : FieldType → ClassId) (ad : Nat → Nat → Nat) (μ : jM) (avs : List jV) (sz : Nat) : Array Value → State → Prop := fun v U => v = (avs.map (jc ad)).toArray ∧ U.heap.size = sz ∧ jT D cm ad μ U.heap ∧ jU D cm (jA ad μ sz) U
/-- a method's contract: it may throw -/
def jMet (l : Launch) (y : MethodName) (cc : ByteArray) (nL : Nat) (rt : Option FieldType) (fr lo mc ms : Nat) (pre : List jV → jM → Prop) (ret : List jV → jM → Option jV → jM → Prop) (thr : List jV → jM → String → jM → Prop) : Prop :=
  ∀ (D : va_G) (cm : FieldType → ClassId) (ad : Nat → Nat → Nat) (μ : jM) (avs : List jV) (sz : Nat), (∀ v ∈ avs, jL μ v) → pre avs μ →
    vx_Met l y [.code y cc nL rt] { frames := fr, cells := mc, slots := ms, locals := lo } (jPc D cm ad μ avs sz) (jQ D cm ad μ (ret avs μ)) (jXC D cm ad μ (thr avs μ)) mc ms (jA ad μ sz)
/-- .. it throws never; its table of handlers hh -/
def jMetN (l : Launch) (y : MethodName) (w : Cond) (fr lo mc ms : Nat) (pre : List jV → jM → Prop) (ret : List jV → jM → Option jV → jM → Prop) : Prop :=
  ∀ (D : va_G) (cm : FieldType → ClassId) (ad : Nat → Nat → Nat) (μ : jM) (avs : List jV) (sz : Nat), (∀ v ∈ avs, jL μ v) → pre avs μ →
    Met l y [w] { frames := fr, cells := mc, slots := ms, locals := lo } (jPc D cm ad μ avs sz) (jQ D cm ad μ (ret avs μ)) mc ms (jA ad μ sz)
/-- by which end a walk is bound: 0 a method that may throw, 1 a constructor, 2 a method with handlers that throws never, else: another end -/
def jEnd (md : Nat) (hh : List (Nat × Nat × Nat × Nat)) (l : Launch) (s : State) (args : Array Value) (below : List Frame) (meth : Method) (c : Code) (D : va_G) (cm : FieldType → ClassId) (ad0 : Nat → Nat → Nat) (μ0 : jM) (Q : State → Prop) (ret : Option jV → jM → Prop) (thr : String → jM → Prop) (mc ms : Nat) : Prop := match md with
  | 0 => l.stackTraces = false ∧ (∀ x ∈ c.exceptionTable.toList, False) ∧ Q = vx_MQ below (jQ D cm ad0 μ0 ret) (jXC D cm ad0 μ0 thr) args s mc ms (jA ad0 μ0 s.heap.size)
  | 1 => meth.name = "<init>" ∧ Q = MQ below (jQ D cm ad0 μ0 ret) args s mc ms (jA ad0 μ0 s.heap.size)
  | 2 => c.exceptionTable.toList = tableOf hh ∧ Q = MQ below (jQ D cm ad0 μ0 ret) args s mc ms (jA ad0 μ0 s.heap.size)
  | _ => True
def jCtx (l : Launch) (J : Nat → List (Option jV) → List jV → jM → Nat → Nat → Prop) (cc : ByteArray) (nL : Nat) (own : String) (R : Room) (rt : Option FieldType) (md : Nat) (hh : List (Nat × Nat × Nat × Nat)) (ret : Option jV → jM → Prop) (thr : String → jM → Prop) (mc ms : Nat) : Prop :=
  ∃ (p : Program) (e : Env) (s : State) (m : MethodId) (args : Array Value) (below : List Frame) (meth : Method) (c : Code) (D : va_G) (cm : FieldType → ClassId) (ad0 : Nat → Nat → Nat) (μ0 : jM) (Q : State → Prop),
    J = jJ p l e R s m args below meth c D cm ad0 μ0 nL Q ∧ p.tables.exec = Jvm.exec ∧ c.code = cc ∧ c.maxLocals = nL ∧ meth.sig.returnType = rt ∧ s.vm.findClass own = some m.cls ∧ meth.locks = false ∧ jU D cm (jA ad0 μ0 s.heap.size) s ∧ jEnd md hh l s args below meth c D cm ad0 μ0 Q ret thr mc ms
theorem jU.w {D : va_G} {cm : FieldType → ClassId} {A : Nat → Prop} {s : State} (h : jU D cm A s) {args : Array Value} {w : Cond} (hw : w ∈ jWL) : w.before args s = true := jGd_move (State.WarmedH.refl s) (jWL_good hw) (h.2.1 w hw)
theorem jst_c {μ : jM} {v : jV} {st : List jV} (h : jL μ v) (hs : ∀ w ∈ st, jL μ w) : ∀ w ∈ v :: st, jL μ w := fun w hw => (List.mem_cons.mp hw).elim (fun e => e ▸ h) (hs w)
theorem jst_t {μ : jM} {v : jV} {st : List jV} (hs : ∀ w ∈ v :: st, jL μ w) : ∀ w ∈ st, jL μ w := fun w hw => hs w (List.mem_cons_of_mem _ hw)
theorem jst_h {μ : jM} {v : jV} {st : List jV} (hs : ∀ w ∈ v :: st, jL μ w) : jL μ v := hs v List.mem_cons_self
end
section
section JROWS
variable {l : Launch} {J : Nat → List (Option jV) → List jV → jM → Nat → Nat → Prop} {cc : ByteArray} {nL : Nat} {own : String} {R : Room} {rt : Option FieldType} {md : Nat} {hh : List (Nat × Nat × Nat × Nat)} {ret : Option jV → jM → Prop} {thr : String → jM → Prop} {mc ms : Nat}
variable {pc pc' : Nat} {L : List (Option jV)} {st : List jV} {μ : jM} {k n : Nat}
theorem jl_at {ad : Nat → Nat → Nat} {ls : Array Slot} {i : Nat} {v : jV} (hl : lv_has ls nL (jLs ad 0 L)) (h : L[i]? = some (some v)) : ls[i]? = some (.val (jc ad v)) := by
  have h1 := hl.2.2 _ (jLs_mem ad L 0 i v h)
  simpa using h1
theorem jl_cl (hL : ∀ v, some v ∈ L → jL μ v) {i : Nat} {v : jV} (h : L[i]? = some (some v)) : jL μ v := hL v (List.mem_of_getElem? h)

theorem mj_iconst (C : jCtx l J cc nL own R rt md hh ret thr mc ms) {i : Int} {v : Int32} (hdg : decode cc pc = .ok (.iconst i, 1)) (hp : pc + 1 = pc') (hv : Int32.ofInt i = v) (K : J pc' L (aI v :: st) μ k n) : J pc L (st) μ k n := by
  obtain ⟨p, e, s, m, args, below, meth, c, D, cm, ad0, μ0, Q, rfl, hx, hb, hml, hrt, hown, hlk, hU, hE⟩ := C
  subst hp
  intro ad H locs ls hT hX hS hL hs hl
  exact lv_iconst hx hb hdg hv (K ad H locs ls hT hX hS hL (jst_c trivial hs) hl)

theorem mj_bipush (C : jCtx l J cc nL own R rt md hh ret thr mc ms) {i : Int} {v : Int32} (hdg : decode cc pc = .ok (.bipush i, 2)) (hp : pc + 2 = pc') (hv : (Int8.ofInt i).toInt32 = v) (K : J pc' L (aI v :: st) μ k n) : J pc L (st) μ k n := by
  obtain ⟨p, e, s, m, args, below, meth, c, D, cm, ad0, μ0, Q, rfl, hx, hb, hml, hrt, hown, hlk, hU, hE⟩ := C
  subst hp
  intro ad H locs ls hT hX hS hL hs hl
  exact lv_bipush hx hb hdg hv (K ad H locs ls hT hX hS hL (jst_c trivial hs) hl)

theorem mj_sipush (C : jCtx l J cc nL own R rt md hh ret thr mc ms) {i : Int} {v : Int32} (hdg : decode cc pc = .ok (.sipush i, 3)) (hp : pc + 3 = pc') (hv : (Int16.ofInt i).toInt32 = v) (K : J pc' L (aI v :: st) μ k n) : J pc L (st) μ k n := by
  obtain ⟨p, e, s, m, args, below, meth, c, D, cm, ad0, μ0, Q, rfl, hx, hb, hml, hrt, hown, hlk, hU, hE⟩ := C
  subst hp
  intro ad H locs ls hT hX hS hL hs hl
  exact lv_sipush hx hb hdg hv (K ad H locs ls hT hX hS hL (jst_c trivial hs) hl)

theorem mj_lconst (C : jCtx l J cc nL own R rt md hh ret thr mc ms) {i : Fin 2} {v : Int64} (hdg : decode cc pc = .ok (.lconst i, 1)) (hp : pc + 1 = pc') (hv : Int64.ofNat (i : Nat) = v) (K : J pc' L (aL v :: st) μ k n) : J pc L (st) μ k n := by
  obtain ⟨p, e, s, m, args, below, meth, c, D, cm, ad0, μ0, Q, rfl, hx, hb, hml, hrt, hown, hlk, hU, hE⟩ := C
  subst hp
  intro ad H locs ls hT hX hS hL hs hl
  exact lv_lconst hx hb hdg hv (K ad H locs ls hT hX hS hL (jst_c trivial hs) hl)

theorem mj_ldc (C : jCtx l J cc nL own R rt md hh ret thr mc ms) {i : Nat} {v : Int32} (hdg : decode cc pc = .ok (.ldc i, 2)) (hp : pc + 2 = pc') (hw : Cond.constant own i v ∈ jWL) (K : J pc' L (aI v :: st) μ k n) : J pc L (st) μ k n := by
  obtain ⟨p, e, s, m, args, below, meth, c, D, cm, ad0, μ0, Q, rfl, hx, hb, hml, hrt, hown, hlk, hU, hE⟩ := C
  subst hp
  intro ad H locs ls hT hX hS hL hs hl
  exact lv_ldc hx hb hown (hU.w hw) hdg (K ad H locs ls hT hX hS hL (jst_c trivial hs) hl)

theorem mj_ldc2 (C : jCtx l J cc nL own R rt md hh ret thr mc ms) {i : Nat} {v : Int64} (hdg : decode cc pc = .ok (.ldc2_w i, 3)) (hp : pc + 3 = pc') (hw : Cond.constantLong own i v ∈ jWL) (K : J pc' L (aL v :: st) μ k n) : J pc L (st) μ k n := by
  obtain ⟨p, e, s, m, args, below, meth, c, D, cm, ad0, μ0, Q, rfl, hx, hb, hml, hrt, hown, hlk, hU, hE⟩ := C
  subst hp
  intro ad H locs ls hT hX hS hL hs hl
  exact lv_ldc2 hx hb hown (hU.w hw) hdg (K ad H locs ls hT hX hS hL (jst_c trivial hs) hl)

theorem mj_iload_n (C : jCtx l J cc nL own R rt md hh ret thr mc ms) {i : Fin 4} {x : Int32} (hdg : decode cc pc = .ok (.iload_n i, 1)) (hp : pc + 1 = pc') (hg : L[(i : Nat)]? = some (some (aI x))) (K : J pc' L (aI x :: st) μ k n) : J pc L (st) μ k n := by
  obtain ⟨p, e, s, m, args, below, meth, c, D, cm, ad0, μ0, Q, rfl, hx, hb, hml, hrt, hown, hlk, hU, hE⟩ := C
  subst hp
  intro ad H locs ls hT hX hS hL hs hl
  exact lv_iload_n hx hb hdg rfl (jl_at hl hg) (K ad H locs ls hT hX hS hL (jst_c trivial hs) hl)

theorem mj_iload (C : jCtx l J cc nL own R rt md hh ret thr mc ms) {i : Nat} {x : Int32} (hdg : decode cc pc = .ok (.iload i, 2)) (hp : pc + 2 = pc') (hg : L[i]? = some (some (aI x))) (K : J pc' L (aI x :: st) μ k n) : J pc L (st) μ k n := by
  obtain ⟨p, e, s, m, args, below, meth, c, D, cm, ad0, μ0, Q, rfl, hx, hb, hml, hrt, hown, hlk, hU, hE⟩ := C
  subst hp
  intro ad H locs ls hT hX hS hL hs hl
  exact lv_iload hx hb hdg (jl_at hl hg) (K ad H locs ls hT hX hS hL (jst_c trivial hs) hl)

theorem mj_lload_n (C : jCtx l J cc nL own R rt md hh ret thr mc ms) {i : Fin 4} {x : Int64} (hdg : decode cc pc = .ok (.lload_n i, 1)) (hp : pc + 1 = pc') (hg : L[(i : Nat)]? = some (some (aL x))) (K : J pc' L (aL x :: st) μ k n) : J pc L (st) μ k n := by
  obtain ⟨p, e, s, m, args, below, meth, c, D, cm, ad0, μ0, Q, rfl, hx, hb, hml, hrt, hown, hlk, hU, hE⟩ := C
  subst hp
  intro ad H locs ls hT hX hS hL hs hl
  exact lv_lload_n hx hb hdg rfl (jl_at hl hg) (K ad H locs ls hT hX hS hL (jst_c trivial hs) hl)

theorem mj_lload (C : jCtx l J cc nL own R rt md hh ret thr mc ms) {i : Nat} {x : Int64} (hdg : decode cc pc = .ok (.lload i, 2)) (hp : pc + 2 = pc') (hg : L[i]? = some (some (aL x))) (K : J pc' L (aL x :: st) μ k n) : J pc L (st) μ k n := by
  obtain ⟨p, e, s, m, args, below, meth, c, D, cm, ad0, μ0, Q, rfl, hx, hb, hml, hrt, hown, hlk, hU, hE⟩ := C
  subst hp
  intro ad H locs ls hT hX hS hL hs hl
  exact lv_lload hx hb hdg (jl_at hl hg) (K ad H locs ls hT hX hS hL (jst_c trivial hs) hl)

theorem mj_aload_n (C : jCtx l J cc nL own R rt md hh ret thr mc ms) {i : Fin 4} {r : Option (Nat × Nat)} (hdg : decode cc pc = .ok (.aload_n i, 1)) (hp : pc + 1 = pc') (hg : L[(i : Nat)]? = some (some (aO r))) (K : J pc' L (aO r :: st) μ k n) : J pc L st μ k n := by
  obtain ⟨p, e, s, m, args, below, meth, c, D, cm, ad0, μ0, Q, rfl, hx, hb, hml, hrt, hown, hlk, hU, hE⟩ := C
  subst hp
  intro ad H locs ls hT hX hS hL hs hl
  cases r with
  | none => exact lv_aload_nN hx hb hdg rfl (jl_at hl hg) (K ad H locs ls hT hX hS hL (jst_c trivial hs) hl)
  | some q => exact lv_aload_n hx hb hdg rfl (jl_at hl hg) (K ad H locs ls hT hX hS hL (jst_c (jl_cl hL hg) hs) hl)

theorem mj_aload (C : jCtx l J cc nL own R rt md hh ret thr mc ms) {i : Nat} {r : Option (Nat × Nat)} (hdg : decode cc pc = .ok (.aload i, 2)) (hp : pc + 2 = pc') (hg : L[i]? = some (some (aO r))) (K : J pc' L (aO r :: st) μ k n) : J pc L st μ k n := by
  obtain ⟨p, e, s, m, args, below, meth, c, D, cm, ad0, μ0, Q, rfl, hx, hb, hml, hrt, hown, hlk, hU, hE⟩ := C
  subst hp
  intro ad H locs ls hT hX hS hL hs hl
  cases r with
  | none => exact lv_aloadN hx hb hdg (jl_at hl hg) (K ad H locs ls hT hX hS hL (jst_c trivial hs) hl)
  | some q => exact lv_aload hx hb hdg (jl_at hl hg) (K ad H locs ls hT hX hS hL (jst_c (jl_cl hL hg) hs) hl)

theorem mj_iadd (C : jCtx l J cc nL own R rt md hh ret thr mc ms) {x y : Int32} (hdg : decode cc pc = .ok (.iadd, 1)) (hp : pc + 1 = pc')  (K : J pc' L (aI (x + y) :: st) μ k n) : J pc L (aI y :: aI x :: st) μ k n := by
  obtain ⟨p, e, s, m, args, below, meth, c, D, cm, ad0, μ0, Q, rfl, hx, hb, hml, hrt, hown, hlk, hU, hE⟩ := C
  subst hp
  intro ad H locs ls hT hX hS hL hs hl
  exact lv_iadd hx hb hdg (K ad H locs ls hT hX hS hL (jst_c trivial (jst_t (jst_t hs))) hl)

theorem mj_isub (C : jCtx l J cc nL own R rt md hh ret thr mc ms) {x y : Int32} (hdg : decode cc pc = .ok (.isub, 1)) (hp : pc + 1 = pc')  (K : J pc' L (aI (x - y) :: st) μ k n) : J pc L (aI y :: aI x :: st) μ k n := by
  obtain ⟨p, e, s, m, args, below, meth, c, D, cm, ad0, μ0, Q, rfl, hx, hb, hml, hrt, hown, hlk, hU, hE⟩ := C
  subst hp
  intro ad H locs ls hT hX hS hL hs hl
  exact lv_isub hx hb hdg (K ad H locs ls hT hX hS hL (jst_c trivial (jst_t (jst_t hs))) hl)

theorem mj_imul (C : jCtx l J cc nL own R rt md hh ret thr mc ms) {x y : Int32} (hdg : decode cc pc = .ok (.imul, 1)) (hp : pc + 1 = pc')  (K : J pc' L (aI (x * y) :: st) μ k n) : J pc L (aI y :: aI x :: st) μ k n := by
  obtain ⟨p, e, s, m, args, below, meth, c, D, cm, ad0, μ0, Q, rfl, hx, hb, hml, hrt, hown, hlk, hU, hE⟩ := C
  subst hp
  intro ad H locs ls hT hX hS hL hs hl
  exact lv_imul hx hb hdg (K ad H locs ls hT hX hS hL (jst_c trivial (jst_t (jst_t hs))) hl)

theorem mj_iand (C : jCtx l J cc nL own R rt md hh ret thr mc ms) {x y : Int32} (hdg : decode cc pc = .ok (.iand, 1)) (hp : pc + 1 = pc')  (K : J pc' L (aI (x &&& y) :: st) μ k n) : J pc L (aI y :: aI x :: st) μ k n := by
  obtain ⟨p, e, s, m, args, below, meth, c, D, cm, ad0, μ0, Q, rfl, hx, hb, hml, hrt, hown, hlk, hU, hE⟩ := C
  subst hp
  intro ad H locs ls hT hX hS hL hs hl
  exact lv_iand hx hb hdg (K ad H locs ls hT hX hS hL (jst_c trivial (jst_t (jst_t hs))) hl)

theorem mj_ior (C : jCtx l J cc nL own R rt md hh ret thr mc ms) {x y : Int32} (hdg : decode cc pc = .ok (.ior, 1)) (hp : pc + 1 = pc')  (K : J pc' L (aI (x ||| y) :: st) μ k n) : J pc L (aI y :: aI x :: st) μ k n := by
  obtain ⟨p, e, s, m, args, below, meth, c, D, cm, ad0, μ0, Q, rfl, hx, hb, hml, hrt, hown, hlk, hU, hE⟩ := C
  subst hp
  intro ad H locs ls hT hX hS hL hs hl
  exact lv_ior hx hb hdg (K ad H locs ls hT hX hS hL (jst_c trivial (jst_t (jst_t hs))) hl)

theorem mj_ixor (C : jCtx l J cc nL own R rt md hh ret thr mc ms) {x y : Int32} (hdg : decode cc pc = .ok (.ixor, 1)) (hp : pc + 1 = pc')  (K : J pc' L (aI (x ^^^ y) :: st) μ k n) : J pc L (aI y :: aI x :: st) μ k n := by
  obtain ⟨p, e, s, m, args, below, meth, c, D, cm, ad0, μ0, Q, rfl, hx, hb, hml, hrt, hown, hlk, hU, hE⟩ := C
  subst hp
  intro ad H locs ls hT hX hS hL hs hl
  exact lv_ixor hx hb hdg (K ad H locs ls hT hX hS hL (jst_c trivial (jst_t (jst_t hs))) hl)

theorem mj_idiv (C : jCtx l J cc nL own R rt md hh ret thr mc ms) {x y : Int32} (hdg : decode cc pc = .ok (.idiv, 1)) (hp : pc + 1 = pc') (hy : ¬ y = 0) (K : J pc' L (aI (x / y) :: st) μ k n) : J pc L (aI y :: aI x :: st) μ k n := by
  obtain ⟨p, e, s, m, args, below, meth, c, D, cm, ad0, μ0, Q, rfl, hx, hb, hml, hrt, hown, hlk, hU, hE⟩ := C
  subst hp
  intro ad H locs ls hT hX hS hL hs hl
  exact lv_idiv hx hb hdg hy (K ad H locs ls hT hX hS hL (jst_c trivial (jst_t (jst_t hs))) hl)

theorem mj_ishl (C : jCtx l J cc nL own R rt md hh ret thr mc ms) {x y : Int32} (hdg : decode cc pc = .ok (.ishl, 1)) (hp : pc + 1 = pc')  (K : J pc' L (aI (x <<< (y &&& 31)) :: st) μ k n) : J pc L (aI y :: aI x :: st) μ k n := by
  obtain ⟨p, e, s, m, args, below, meth, c, D, cm, ad0, μ0, Q, rfl, hx, hb, hml, hrt, hown, hlk, hU, hE⟩ := C
  subst hp
  intro ad H locs ls hT hX hS hL hs hl
  exact lv_ishl hx hb hdg (K ad H locs ls hT hX hS hL (jst_c trivial (jst_t (jst_t hs))) hl)

theorem mj_ladd (C : jCtx l J cc nL own R rt md hh ret thr mc ms) {x y : Int64} (hdg : decode cc pc = .ok (.ladd, 1)) (hp : pc + 1 = pc')  (K : J pc' L (aL (x + y) :: st) μ k n) : J pc L (aL y :: aL x :: st) μ k n := by
  obtain ⟨p, e, s, m, args, below, meth, c, D, cm, ad0, μ0, Q, rfl, hx, hb, hml, hrt, hown, hlk, hU, hE⟩ := C
  subst hp
  intro ad H locs ls hT hX hS hL hs hl
  exact lv_ladd hx hb hdg (K ad H locs ls hT hX hS hL (jst_c trivial (jst_t (jst_t hs))) hl)

theorem mj_lsub (C : jCtx l J cc nL own R rt md hh ret thr mc ms) {x y : Int64} (hdg : decode cc pc = .ok (.lsub, 1)) (hp : pc + 1 = pc')  (K : J pc' L (aL (x - y) :: st) μ k n) : J pc L (aL y :: aL x :: st) μ k n := by
  obtain ⟨p, e, s, m, args, below, meth, c, D, cm, ad0, μ0, Q, rfl, hx, hb, hml, hrt, hown, hlk, hU, hE⟩ := C
  subst hp
  intro ad H locs ls hT hX hS hL hs hl
  exact lv_lsub hx hb hdg (K ad H locs ls hT hX hS hL (jst_c trivial (jst_t (jst_t hs))) hl)

theorem mj_land (C : jCtx l J cc nL own R rt md hh ret thr mc ms) {x y : Int64} (hdg : decode cc pc = .ok (.land, 1)) (hp : pc + 1 = pc')  (K : J pc' L (aL (x &&& y) :: st) μ k n) : J pc L (aL y :: aL x :: st) μ k n := by
  obtain ⟨p, e, s, m, args, below, meth, c, D, cm, ad0, μ0, Q, rfl, hx, hb, hml, hrt, hown, hlk, hU, hE⟩ := C
  subst hp
  intro ad H locs ls hT hX hS hL hs hl
  exact lv_land hx hb hdg (K ad H locs ls hT hX hS hL (jst_c trivial (jst_t (jst_t hs))) hl)

theorem mj_lor (C : jCtx l J cc nL own R rt md hh ret thr mc ms) {x y : Int64} (hdg : decode cc pc = .ok (.lor, 1)) (hp : pc + 1 = pc')  (K : J pc' L (aL (x ||| y) :: st) μ k n) : J pc L (aL y :: aL x :: st) μ k n := by
  obtain ⟨p, e, s, m, args, below, meth, c, D, cm, ad0, μ0, Q, rfl, hx, hb, hml, hrt, hown, hlk, hU, hE⟩ := C
  subst hp
  intro ad H locs ls hT hX hS hL hs hl
  exact lv_lor hx hb hdg (K ad H locs ls hT hX hS hL (jst_c trivial (jst_t (jst_t hs))) hl)

theorem mj_lxor (C : jCtx l J cc nL own R rt md hh ret thr mc ms) {x y : Int64} (hdg : decode cc pc = .ok (.lxor, 1)) (hp : pc + 1 = pc')  (K : J pc' L (aL (x ^^^ y) :: st) μ k n) : J pc L (aL y :: aL x :: st) μ k n := by
  obtain ⟨p, e, s, m, args, below, meth, c, D, cm, ad0, μ0, Q, rfl, hx, hb, hml, hrt, hown, hlk, hU, hE⟩ := C
  subst hp
  intro ad H locs ls hT hX hS hL hs hl
  exact lv_lxor hx hb hdg (K ad H locs ls hT hX hS hL (jst_c trivial (jst_t (jst_t hs))) hl)

theorem mj_lshl (C : jCtx l J cc nL own R rt md hh ret thr mc ms) {x : Int64} {y : Int32} (hdg : decode cc pc = .ok (.lshl, 1)) (hp : pc + 1 = pc')  (K : J pc' L (aL (x <<< (y.toInt64 &&& 63)) :: st) μ k n) : J pc L (aI y :: aL x :: st) μ k n := by
  obtain ⟨p, e, s, m, args, below, meth, c, D, cm, ad0, μ0, Q, rfl, hx, hb, hml, hrt, hown, hlk, hU, hE⟩ := C
  subst hp
  intro ad H locs ls hT hX hS hL hs hl
  exact lv_lshl hx hb hdg rfl (K ad H locs ls hT hX hS hL (jst_c trivial (jst_t (jst_t hs))) hl)

theorem mj_lushr (C : jCtx l J cc nL own R rt md hh ret thr mc ms) {x : Int64} {y : Int32} (hdg : decode cc pc = .ok (.lushr, 1)) (hp : pc + 1 = pc')  (K : J pc' L (aL ((x.toUInt64 >>> (y.toInt64.toUInt64 &&& Int64.toUInt64 63)).toInt64) :: st) μ k n) : J pc L (aI y :: aL x :: st) μ k n := by
  obtain ⟨p, e, s, m, args, below, meth, c, D, cm, ad0, μ0, Q, rfl, hx, hb, hml, hrt, hown, hlk, hU, hE⟩ := C
  subst hp
  intro ad H locs ls hT hX hS hL hs hl
  exact lv_lushr hx hb hdg rfl (K ad H locs ls hT hX hS hL (jst_c trivial (jst_t (jst_t hs))) hl)

theorem mj_i2l (C : jCtx l J cc nL own R rt md hh ret thr mc ms) {x : Int32} (hdg : decode cc pc = .ok (.i2l, 1)) (hp : pc + 1 = pc')  (K : J pc' L (aL x.toInt64 :: st) μ k n) : J pc L (aI x :: st) μ k n := by
  obtain ⟨p, e, s, m, args, below, meth, c, D, cm, ad0, μ0, Q, rfl, hx, hb, hml, hrt, hown, hlk, hU, hE⟩ := C
  subst hp
  intro ad H locs ls hT hX hS hL hs hl
  exact lv_i2l hx hb hdg rfl (K ad H locs ls hT hX hS hL (jst_c trivial (jst_t hs)) hl)

theorem mj_l2i (C : jCtx l J cc nL own R rt md hh ret thr mc ms) {x : Int64} (hdg : decode cc pc = .ok (.l2i, 1)) (hp : pc + 1 = pc')  (K : J pc' L (aI x.toInt32 :: st) μ k n) : J pc L (aL x :: st) μ k n := by
  obtain ⟨p, e, s, m, args, below, meth, c, D, cm, ad0, μ0, Q, rfl, hx, hb, hml, hrt, hown, hlk, hU, hE⟩ := C
  subst hp
  intro ad H locs ls hT hX hS hL hs hl
  exact lv_l2i hx hb hdg rfl (K ad H locs ls hT hX hS hL (jst_c trivial (jst_t hs)) hl)

theorem mj_lcmp (C : jCtx l J cc nL own R rt md hh ret thr mc ms) {x y : Int64} (hdg : decode cc pc = .ok (.lcmp, 1)) (hp : pc + 1 = pc')  (K : J pc' L (aI (lg_cmp x y) :: st) μ k n) : J pc L (aL y :: aL x :: st) μ k n := by
  obtain ⟨p, e, s, m, args, below, meth, c, D, cm, ad0, μ0, Q, rfl, hx, hb, hml, hrt, hown, hlk, hU, hE⟩ := C
  subst hp
  intro ad H locs ls hT hX hS hL hs hl
  exact W.lcmp hx hb hdg (K ad H locs ls hT hX hS hL (jst_c trivial (jst_t (jst_t hs))) hl)

theorem mj_dup (C : jCtx l J cc nL own R rt md hh ret thr mc ms) {v : jV} (hdg : decode cc pc = .ok (.dup, 1)) (hp : pc + 1 = pc') (hc : jcat v = 1) (K : J pc' L (v :: v :: st) μ k n) : J pc L (v :: st) μ k n := by
  obtain ⟨p, e, s, m, args, below, meth, c, D, cm, ad0, μ0, Q, rfl, hx, hb, hml, hrt, hown, hlk, hU, hE⟩ := C
  subst hp
  intro ad H locs ls hT hX hS hL hs hl
  exact lv_dup hx hb hdg ((jc_cat ad v).trans hc) (K ad H locs ls hT hX hS hL (jst_c (jst_h hs) hs) hl)

theorem mj_pop (C : jCtx l J cc nL own R rt md hh ret thr mc ms) {v : jV} (hdg : decode cc pc = .ok (.pop, 1)) (hp : pc + 1 = pc') (hc : jcat v = 1) (K : J pc' L st μ k n) : J pc L (v :: st) μ k n := by
  obtain ⟨p, e, s, m, args, below, meth, c, D, cm, ad0, μ0, Q, rfl, hx, hb, hml, hrt, hown, hlk, hU, hE⟩ := C
  subst hp
  intro ad H locs ls hT hX hS hL hs hl
  exact lv_pop hx hb hdg ((jc_cat ad v).trans hc) (K ad H locs ls hT hX hS hL (jst_t hs) hl)

theorem mj_icmp_eq (C : jCtx l J cc nL own R rt md hh ret thr mc ms) {x y : Int32} {off : Int} {tgt : Nat} (hdg : decode cc pc = .ok (.if_icmp .eq off, 3)) (ht : (pc : Int) + off = (tgt : Int)) (hp : pc + 3 = pc') (kt : x = y → J tgt L st μ k n) (kf : ¬ x = y → J pc' L st μ k n) : J pc L (aI y :: aI x :: st) μ k n := by
  obtain ⟨p, e, s, m, args, below, meth, c, D, cm, ad0, μ0, Q, rfl, hx, hb, hml, hrt, hown, hlk, hU, hE⟩ := C
  subst hp
  intro ad H locs ls hT hX hS hL hs hl
  exact lv_icmp_eq hx hb hdg ht (fun h => kt h ad H locs ls hT hX hS hL (jst_t (jst_t hs)) hl) (fun h => kf h ad H locs ls hT hX hS hL (jst_t (jst_t hs)) hl)

theorem mj_if_eq (C : jCtx l J cc nL own R rt md hh ret thr mc ms) {x : Int32} {off : Int} {tgt : Nat} (hdg : decode cc pc = .ok (.ifCond .eq off, 3)) (ht : (pc : Int) + off = (tgt : Int)) (hp : pc + 3 = pc') (kt : x = 0 → J tgt L st μ k n) (kf : ¬ x = 0 → J pc' L st μ k n) : J pc L (aI x :: st) μ k n := by
  obtain ⟨p, e, s, m, args, below, meth, c, D, cm, ad0, μ0, Q, rfl, hx, hb, hml, hrt, hown, hlk, hU, hE⟩ := C
  subst hp
  intro ad H locs ls hT hX hS hL hs hl
  exact lv_if_eq hx hb hdg ht (fun h => kt h ad H locs ls hT hX hS hL (jst_t hs) hl) (fun h => kf h ad H locs ls hT hX hS hL (jst_t hs) hl)

theorem mj_icmp_ne (C : jCtx l J cc nL own R rt md hh ret thr mc ms) {x y : Int32} {off : Int} {tgt : Nat} (hdg : decode cc pc = .ok (.if_icmp .ne off, 3)) (ht : (pc : Int) + off = (tgt : Int)) (hp : pc + 3 = pc') (kt : ¬ x = y → J tgt L st μ k n) (kf : x = y → J pc' L st μ k n) : J pc L (aI y :: aI x :: st) μ k n := by
  obtain ⟨p, e, s, m, args, below, meth, c, D, cm, ad0, μ0, Q, rfl, hx, hb, hml, hrt, hown, hlk, hU, hE⟩ := C
  subst hp
  intro ad H locs ls hT hX hS hL hs hl
  exact lv_icmp_ne hx hb hdg ht (fun h => kt h ad H locs ls hT hX hS hL (jst_t (jst_t hs)) hl) (fun h => kf h ad H locs ls hT hX hS hL (jst_t (jst_t hs)) hl)

theorem mj_if_ne (C : jCtx l J cc nL own R rt md hh ret thr mc ms) {x : Int32} {off : Int} {tgt : Nat} (hdg : decode cc pc = .ok (.ifCond .ne off, 3)) (ht : (pc : Int) + off = (tgt : Int)) (hp : pc + 3 = pc') (kt : ¬ x = 0 → J tgt L st μ k n) (kf : x = 0 → J pc' L st μ k n) : J pc L (aI x :: st) μ k n := by
  obtain ⟨p, e, s, m, args, below, meth, c, D, cm, ad0, μ0, Q, rfl, hx, hb, hml, hrt, hown, hlk, hU, hE⟩ := C
  subst hp
  intro ad H locs ls hT hX hS hL hs hl
  exact lv_if_ne hx hb hdg ht (fun h => kt h ad H locs ls hT hX hS hL (jst_t hs) hl) (fun h => kf h ad H locs ls hT hX hS hL (jst_t hs) hl)

theorem mj_icmp_lt (C : jCtx l J cc nL own R rt md hh ret thr mc ms) {x y : Int32} {off : Int} {tgt : Nat} (hdg : decode cc pc = .ok (.if_icmp .lt off, 3)) (ht : (pc : Int) + off = (tgt : Int)) (hp : pc + 3 = pc') (kt : x < y → J tgt L st μ k n) (kf : ¬ x < y → J pc' L st μ k n) : J pc L (aI y :: aI x :: st) μ k n := by
  obtain ⟨p, e, s, m, args, below, meth, c, D, cm, ad0, μ0, Q, rfl, hx, hb, hml, hrt, hown, hlk, hU, hE⟩ := C
  subst hp
  intro ad H locs ls hT hX hS hL hs hl
  exact lv_icmp_lt hx hb hdg ht (fun h => kt h ad H locs ls hT hX hS hL (jst_t (jst_t hs)) hl) (fun h => kf h ad H locs ls hT hX hS hL (jst_t (jst_t hs)) hl)

theorem mj_if_lt (C : jCtx l J cc nL own R rt md hh ret thr mc ms) {x : Int32} {off : Int} {tgt : Nat} (hdg : decode cc pc = .ok (.ifCond .lt off, 3)) (ht : (pc : Int) + off = (tgt : Int)) (hp : pc + 3 = pc') (kt : x < 0 → J tgt L st μ k n) (kf : ¬ x < 0 → J pc' L st μ k n) : J pc L (aI x :: st) μ k n := by
  obtain ⟨p, e, s, m, args, below, meth, c, D, cm, ad0, μ0, Q, rfl, hx, hb, hml, hrt, hown, hlk, hU, hE⟩ := C
  subst hp
  intro ad H locs ls hT hX hS hL hs hl
  exact lv_if_lt hx hb hdg ht (fun h => kt h ad H locs ls hT hX hS hL (jst_t hs) hl) (fun h => kf h ad H locs ls hT hX hS hL (jst_t hs) hl)

theorem mj_icmp_ge (C : jCtx l J cc nL own R rt md hh ret thr mc ms) {x y : Int32} {off : Int} {tgt : Nat} (hdg : decode cc pc = .ok (.if_icmp .ge off, 3)) (ht : (pc : Int) + off = (tgt : Int)) (hp : pc + 3 = pc') (kt : y ≤ x → J tgt L st μ k n) (kf : ¬ y ≤ x → J pc' L st μ k n) : J pc L (aI y :: aI x :: st) μ k n := by
  obtain ⟨p, e, s, m, args, below, meth, c, D, cm, ad0, μ0, Q, rfl, hx, hb, hml, hrt, hown, hlk, hU, hE⟩ := C
  subst hp
  intro ad H locs ls hT hX hS hL hs hl
  exact lv_icmp_ge hx hb hdg ht (fun h => kt h ad H locs ls hT hX hS hL (jst_t (jst_t hs)) hl) (fun h => kf h ad H locs ls hT hX hS hL (jst_t (jst_t hs)) hl)

theorem mj_if_ge (C : jCtx l J cc nL own R rt md hh ret thr mc ms) {x : Int32} {off : Int} {tgt : Nat} (hdg : decode cc pc = .ok (.ifCond .ge off, 3)) (ht : (pc : Int) + off = (tgt : Int)) (hp : pc + 3 = pc') (kt : 0 ≤ x → J tgt L st μ k n) (kf : ¬ 0 ≤ x → J pc' L st μ k n) : J pc L (aI x :: st) μ k n := by
  obtain ⟨p, e, s, m, args, below, meth, c, D, cm, ad0, μ0, Q, rfl, hx, hb, hml, hrt, hown, hlk, hU, hE⟩ := C
  subst hp
  intro ad H locs ls hT hX hS hL hs hl
  exact lv_if_ge hx hb hdg ht (fun h => kt h ad H locs ls hT hX hS hL (jst_t hs) hl) (fun h => kf h ad H locs ls hT hX hS hL (jst_t hs) hl)

theorem mj_icmp_gt (C : jCtx l J cc nL own R rt md hh ret thr mc ms) {x y : Int32} {off : Int} {tgt : Nat} (hdg : decode cc pc = .ok (.if_icmp .gt off, 3)) (ht : (pc : Int) + off = (tgt : Int)) (hp : pc + 3 = pc') (kt : y < x → J tgt L st μ k n) (kf : ¬ y < x → J pc' L st μ k n) : J pc L (aI y :: aI x :: st) μ k n := by
  obtain ⟨p, e, s, m, args, below, meth, c, D, cm, ad0, μ0, Q, rfl, hx, hb, hml, hrt, hown, hlk, hU, hE⟩ := C
  subst hp
  intro ad H locs ls hT hX hS hL hs hl
  exact lv_icmp_gt hx hb hdg ht (fun h => kt h ad H locs ls hT hX hS hL (jst_t (jst_t hs)) hl) (fun h => kf h ad H locs ls hT hX hS hL (jst_t (jst_t hs)) hl)

theorem mj_if_gt (C : jCtx l J cc nL own R rt md hh ret thr mc ms) {x : Int32} {off : Int} {tgt : Nat} (hdg : decode cc pc = .ok (.ifCond .gt off, 3)) (ht : (pc : Int) + off = (tgt : Int)) (hp : pc + 3 = pc') (kt : 0 < x → J tgt L st μ k n) (kf : ¬ 0 < x → J pc' L st μ k n) : J pc L (aI x :: st) μ k n := by
  obtain ⟨p, e, s, m, args, below, meth, c, D, cm, ad0, μ0, Q, rfl, hx, hb, hml, hrt, hown, hlk, hU, hE⟩ := C
  subst hp
  intro ad H locs ls hT hX hS hL hs hl
  exact lv_if_gt hx hb hdg ht (fun h => kt h ad H locs ls hT hX hS hL (jst_t hs) hl) (fun h => kf h ad H locs ls hT hX hS hL (jst_t hs) hl)

theorem mj_icmp_le (C : jCtx l J cc nL own R rt md hh ret thr mc ms) {x y : Int32} {off : Int} {tgt : Nat} (hdg : decode cc pc = .ok (.if_icmp .le off, 3)) (ht : (pc : Int) + off = (tgt : Int)) (hp : pc + 3 = pc') (kt : x ≤ y → J tgt L st μ k n) (kf : ¬ x ≤ y → J pc' L st μ k n) : J pc L (aI y :: aI x :: st) μ k n := by
  obtain ⟨p, e, s, m, args, below, meth, c, D, cm, ad0, μ0, Q, rfl, hx, hb, hml, hrt, hown, hlk, hU, hE⟩ := C
  subst hp
  intro ad H locs ls hT hX hS hL hs hl
  exact lv_icmp_le hx hb hdg ht (fun h => kt h ad H locs ls hT hX hS hL (jst_t (jst_t hs)) hl) (fun h => kf h ad H locs ls hT hX hS hL (jst_t (jst_t hs)) hl)

theorem mj_if_le (C : jCtx l J cc nL own R rt md hh ret thr mc ms) {x : Int32} {off : Int} {tgt : Nat} (hdg : decode cc pc = .ok (.ifCond .le off, 3)) (ht : (pc : Int) + off = (tgt : Int)) (hp : pc + 3 = pc') (kt : x ≤ 0 → J tgt L st μ k n) (kf : ¬ x ≤ 0 → J pc' L st μ k n) : J pc L (aI x :: st) μ k n := by
  obtain ⟨p, e, s, m, args, below, meth, c, D, cm, ad0, μ0, Q, rfl, hx, hb, hml, hrt, hown, hlk, hU, hE⟩ := C
  subst hp
  intro ad H locs ls hT hX hS hL hs hl
  exact lv_if_le hx hb hdg ht (fun h => kt h ad H locs ls hT hX hS hL (jst_t hs) hl) (fun h => kf h ad H locs ls hT hX hS hL (jst_t hs) hl)

theorem mj_goto (C : jCtx l J cc nL own R rt md hh ret thr mc ms) {off : Int} (hdg : decode cc pc = .ok (.goto off, 3)) (ht : (pc : Int) + off = (pc' : Int)) (K : J pc' L st μ k n) : J pc L st μ k n := by
  obtain ⟨p, e, s, m, args, below, meth, c, D, cm, ad0, μ0, Q, rfl, hx, hb, hml, hrt, hown, hlk, hU, hE⟩ := C
  intro ad H locs ls hT hX hS hL hs hl
  exact lv_goto hx hb hdg ht (K ad H locs ls hT hX hS hL hs hl)

theorem mj_ifnull (C : jCtx l J cc nL own R rt md hh ret thr mc ms) {r : Option (Nat × Nat)} {off : Int} {tgt : Nat} (hdg : decode cc pc = .ok (.ifnull off, 3)) (ht : (pc : Int) + off = (tgt : Int)) (hp : pc + 3 = pc') (kt : r = none → J tgt L st μ k n) (kf : ∀ q, r = some q → J pc' L st μ k n) : J pc L (aO r :: st) μ k n := by
  obtain ⟨p, e, s, m, args, below, meth, c, D, cm, ad0, μ0, Q, rfl, hx, hb, hml, hrt, hown, hlk, hU, hE⟩ := C
  subst hp
  intro ad H locs ls hT hX hS hL hs hl
  cases r with
  | none => exact lv_ifnullN hx hb hdg ht (kt rfl ad H locs ls hT hX hS hL (jst_t hs) hl)
  | some q => exact lv_ifnull hx hb hdg (kf q rfl ad H locs ls hT hX hS hL (jst_t hs) hl)
theorem mj_ifnonnull (C : jCtx l J cc nL own R rt md hh ret thr mc ms) {r : Option (Nat × Nat)} {off : Int} {tgt : Nat} (hdg : decode cc pc = .ok (.ifnonnull off, 3)) (ht : (pc : Int) + off = (tgt : Int)) (hp : pc + 3 = pc') (kt : ∀ q, r = some q → J tgt L st μ k n) (kf : r = none → J pc' L st μ k n) : J pc L (aO r :: st) μ k n := by
  obtain ⟨p, e, s, m, args, below, meth, c, D, cm, ad0, μ0, Q, rfl, hx, hb, hml, hrt, hown, hlk, hU, hE⟩ := C
  subst hp
  intro ad H locs ls hT hX hS hL hs hl
  cases r with
  | none => exact lv_ifnonnullN hx hb hdg (kf rfl ad H locs ls hT hX hS hL (jst_t hs) hl)
  | some q => exact lv_ifnonnull hx hb hdg ht (kt q rfl ad H locs ls hT hX hS hL (jst_t hs) hl)

/-- what a store leaves of the tracked variables -/
theorem jl_set {ad : Nat → Nat → Nat} {i : Nat} {v : jV} {ls' : Array Slot} {x : Value} (hx9 : jc ad v = x) (hi : i < L.length) (hw : ∀ j w, j + 1 = i → L[j]? = some (some w) → jcat w ≠ 2)
    (h : lv_has ls' nL ((i, x) :: (jLs ad 0 L).filter (fun q => !(q.1 == i) && !(q.1 + 1 == i && q.2.category == 2)))) : lv_has ls' nL (jLs ad 0 (L.set i (some v))) := by
  refine ⟨h.1, h.2.1, fun q hq => h.2.2 q ?_⟩
  obtain ⟨j, w, hj, rfl⟩ := jLs_of ad _ 0 q hq
  by_cases e : j = i
  · subst e
    rw [List.getElem?_set_self hi] at hj
    cases hj
    rw [hx9, Nat.zero_add]
    exact List.mem_cons_self
  · rw [List.getElem?_set_ne (Ne.symm e)] at hj
    refine List.mem_cons_of_mem _ (List.mem_filter.mpr ⟨jLs_mem ad L 0 j w hj, ?_⟩)
    have h2 : ¬ (j + 1 = i ∧ (jc ad w).category = 2) := fun z => hw j w z.1 hj (by rw [← jc_cat ad w]; exact z.2)
    simp only [Nat.zero_add, Bool.and_eq_true, Bool.not_eq_true', beq_eq_false_iff_ne, Bool.and_eq_false_iff]
    refine ⟨e, ?_⟩
    by_cases e1 : j + 1 = i
    · exact Or.inr (fun z => h2 ⟨e1, z⟩)
    · exact Or.inl e1
theorem jl_set2 {ad : Nat → Nat → Nat} {i : Nat} {v : jV} {ls' : Array Slot} {x : Value} (hx9 : jc ad v = x) (hi : i + 1 < L.length) (hw : ∀ j w, j + 1 = i → L[j]? = some (some w) → jcat w ≠ 2)
    (h : lv_has ls' nL ((i, x) :: (jLs ad 0 L).filter (fun q => !(q.1 == i) && (!(q.1 == i + 1) && !(q.1 + 1 == i && q.2.category == 2))))) : lv_has ls' nL (jLs ad 0 ((L.set i (some v)).set (i + 1) none)) := by
  refine ⟨h.1, h.2.1, fun q hq => h.2.2 q ?_⟩
  obtain ⟨j, w, hj, rfl⟩ := jLs_of ad _ 0 q hq
  by_cases e2 : j = i + 1
  · subst e2
    rw [List.getElem?_set_self (by rw [List.length_set]; exact hi)] at hj
    cases hj
  · rw [List.getElem?_set_ne (Ne.symm e2)] at hj
    by_cases e : j = i
    · subst e
      rw [List.getElem?_set_self (by omega)] at hj
      cases hj
      rw [hx9, Nat.zero_add]
      exact List.mem_cons_self
    · rw [List.getElem?_set_ne (Ne.symm e)] at hj
      refine List.mem_cons_of_mem _ (List.mem_filter.mpr ⟨jLs_mem ad L 0 j w hj, ?_⟩)
      have h2 : ¬ (j + 1 = i ∧ (jc ad w).category = 2) := fun z => hw j w z.1 hj (by rw [← jc_cat ad w]; exact z.2)
      simp only [Nat.zero_add, Bool.and_eq_true, Bool.not_eq_true', beq_eq_false_iff_ne, Bool.and_eq_false_iff]
      refine ⟨e, e2, ?_⟩
      by_cases e1 : j + 1 = i
      · exact Or.inr (fun z => h2 ⟨e1, z⟩)
      · exact Or.inl e1
theorem jl_setc {i : Nat} {v : jV} (hL : ∀ w, some w ∈ L → jL μ w) (hv : jL μ v) : ∀ w, some w ∈ L.set i (some v) → jL μ w := fun w hw => by
  rcases List.mem_or_eq_of_mem_set hw with h | h
  · exact hL w h
  · cases h
    exact hv
theorem jl_setn {i : Nat} (hL : ∀ w, some w ∈ L → jL μ w) : ∀ w, some w ∈ L.set i none → jL μ w := fun w hw => by
  rcases List.mem_or_eq_of_mem_set hw with h | h
  · exact hL w h
  · cases h
def jw : Option jV → Bool
  | some (Sum.inr (Sum.inl _)) => false
  | _ => true
theorem jw_of {o : Option jV} (h : jw o = true) {w : jV} (e : o = some w) : jcat w ≠ 2 := by
  subst e
  match w, h with
  | .inl _, _ => simp [jcat]
  | .inr (.inr _), _ => simp [jcat]
  | .inr (.inl _), h => simp [jw] at h

theorem mj_istoreG (C : jCtx l J cc nL own R rt md hh ret thr mc ms) {i : Nat} {x : Int32} (hdg : decode cc pc = .ok (.istore i, 2)) (hp : pc + 2 = pc')  (hi : i < L.length) (hn9 : i < nL) (hw : ∀ j w, j + 1 = i → L[j]? = some (some w) → jcat w ≠ 2) (K : J pc' (L.set i (some (aI x))) st μ k n) : J pc L (aI x :: st) μ k n := by
  obtain ⟨p, e, s, m, args, below, meth, c, D, cm, ad0, μ0, Q, rfl, hx, hb, hml, hrt, hown, hlk, hU, hE⟩ := C
  subst hp
  intro ad H locs ls hT hX hS hL hs hl
  exact lv_istore hx hb hdg hl hn9 rfl (fun ls' hl' => K ad H locs ls' hT hX hS (jl_setc hL (jst_h hs)) (jst_t hs) (jl_set rfl hi hw hl'))

theorem mj_istore_0 (C : jCtx l J cc nL own R rt md hh ret thr mc ms) {l0 : Option jV} {x : Int32} (hdg : decode cc pc = .ok (.istore 0, 2)) (hp : pc + 2 = pc') (hn9 : 0 < nL)  (K : J pc' (some (aI x) :: L) st μ k n) : J pc (l0 :: L) (aI x :: st) μ k n :=
  mj_istoreG C (i := 0) hdg hp  (by simp only [List.length_cons]; omega) hn9 (fun j w hj h => by omega) K

theorem mj_istore_1 (C : jCtx l J cc nL own R rt md hh ret thr mc ms) {l0 l1 : Option jV} {x : Int32} (hdg : decode cc pc = .ok (.istore 1, 2)) (hp : pc + 2 = pc') (hn9 : 1 < nL) (hw : jw l0 = true) (K : J pc' (l0 :: some (aI x) :: L) st μ k n) : J pc (l0 :: l1 :: L) (aI x :: st) μ k n :=
  mj_istoreG C (i := 1) hdg hp  (by simp only [List.length_cons]; omega) hn9 (by intro j w hj h; obtain rfl : j = 0 := (by omega); exact jw_of hw (Option.some.inj h)) K

theorem mj_istore_2 (C : jCtx l J cc nL own R rt md hh ret thr mc ms) {l0 l1 l2 : Option jV} {x : Int32} (hdg : decode cc pc = .ok (.istore 2, 2)) (hp : pc + 2 = pc') (hn9 : 2 < nL) (hw : jw l1 = true) (K : J pc' (l0 :: l1 :: some (aI x) :: L) st μ k n) : J pc (l0 :: l1 :: l2 :: L) (aI x :: st) μ k n :=
  mj_istoreG C (i := 2) hdg hp  (by simp only [List.length_cons]; omega) hn9 (by intro j w hj h; obtain rfl : j = 1 := (by omega); exact jw_of hw (Option.some.inj h)) K

theorem mj_istore_3 (C : jCtx l J cc nL own R rt md hh ret thr mc ms) {l0 l1 l2 l3 : Option jV} {x : Int32} (hdg : decode cc pc = .ok (.istore 3, 2)) (hp : pc + 2 = pc') (hn9 : 3 < nL) (hw : jw l2 = true) (K : J pc' (l0 :: l1 :: l2 :: some (aI x) :: L) st μ k n) : J pc (l0 :: l1 :: l2 :: l3 :: L) (aI x :: st) μ k n :=
  mj_istoreG C (i := 3) hdg hp  (by simp only [List.length_cons]; omega) hn9 (by intro j w hj h; obtain rfl : j = 2 := (by omega); exact jw_of hw (Option.some.inj h)) K

theorem mj_istore_4 (C : jCtx l J cc nL own R rt md hh ret thr mc ms) {l0 l1 l2 l3 l4 : Option jV} {x : Int32} (hdg : decode cc pc = .ok (.istore 4, 2)) (hp : pc + 2 = pc') (hn9 : 4 < nL) (hw : jw l3 = true) (K : J pc' (l0 :: l1 :: l2 :: l3 :: some (aI x) :: L) st μ k n) : J pc (l0 :: l1 :: l2 :: l3 :: l4 :: L) (aI x :: st) μ k n :=
  mj_istoreG C (i := 4) hdg hp  (by simp only [List.length_cons]; omega) hn9 (by intro j w hj h; obtain rfl : j = 3 := (by omega); exact jw_of hw (Option.some.inj h)) K

theorem mj_istore_5 (C : jCtx l J cc nL own R rt md hh ret thr mc ms) {l0 l1 l2 l3 l4 l5 : Option jV} {x : Int32} (hdg : decode cc pc = .ok (.istore 5, 2)) (hp : pc + 2 = pc') (hn9 : 5 < nL) (hw : jw l4 = true) (K : J pc' (l0 :: l1 :: l2 :: l3 :: l4 :: some (aI x) :: L) st μ k n) : J pc (l0 :: l1 :: l2 :: l3 :: l4 :: l5 :: L) (aI x :: st) μ k n :=
  mj_istoreG C (i := 5) hdg hp  (by simp only [List.length_cons]; omega) hn9 (by intro j w hj h; obtain rfl : j = 4 := (by omega); exact jw_of hw (Option.some.inj h)) K

theorem mj_istore_6 (C : jCtx l J cc nL own R rt md hh ret thr mc ms) {l0 l1 l2 l3 l4 l5 l6 : Option jV} {x : Int32} (hdg : decode cc pc = .ok (.istore 6, 2)) (hp : pc + 2 = pc') (hn9 : 6 < nL) (hw : jw l5 = true) (K : J pc' (l0 :: l1 :: l2 :: l3 :: l4 :: l5 :: some (aI x) :: L) st μ k n) : J pc (l0 :: l1 :: l2 :: l3 :: l4 :: l5 :: l6 :: L) (aI x :: st) μ k n :=
  mj_istoreG C (i := 6) hdg hp  (by simp only [List.length_cons]; omega) hn9 (by intro j w hj h; obtain rfl : j = 5 := (by omega); exact jw_of hw (Option.some.inj h)) K

theorem mj_istore_7 (C : jCtx l J cc nL own R rt md hh ret thr mc ms) {l0 l1 l2 l3 l4 l5 l6 l7 : Option jV} {x : Int32} (hdg : decode cc pc = .ok (.istore 7, 2)) (hp : pc + 2 = pc') (hn9 : 7 < nL) (hw : jw l6 = true) (K : J pc' (l0 :: l1 :: l2 :: l3 :: l4 :: l5 :: l6 :: some (aI x) :: L) st μ k n) : J pc (l0 :: l1 :: l2 :: l3 :: l4 :: l5 :: l6 :: l7 :: L) (aI x :: st) μ k n :=
  mj_istoreG C (i := 7) hdg hp  (by simp only [List.length_cons]; omega) hn9 (by intro j w hj h; obtain rfl : j = 6 := (by omega); exact jw_of hw (Option.some.inj h)) K

theorem mj_istore_nG (C : jCtx l J cc nL own R rt md hh ret thr mc ms) {k9 : Fin 4} {i : Nat} {x : Int32} (hdg : decode cc pc = .ok (.istore_n k9, 1)) (hp : pc + 1 = pc') (hk : (k9 : Nat) = i) (hi : i < L.length) (hn9 : i < nL) (hw : ∀ j w, j + 1 = i → L[j]? = some (some w) → jcat w ≠ 2) (K : J pc' (L.set i (some (aI x))) st μ k n) : J pc L (aI x :: st) μ k n := by
  obtain ⟨p, e, s, m, args, below, meth, c, D, cm, ad0, μ0, Q, rfl, hx, hb, hml, hrt, hown, hlk, hU, hE⟩ := C
  subst hp
  intro ad H locs ls hT hX hS hL hs hl
  exact lv_istore_n hx hb hdg hk hl hn9 rfl (fun ls' hl' => K ad H locs ls' hT hX hS (jl_setc hL (jst_h hs)) (jst_t hs) (jl_set rfl hi hw hl'))

theorem mj_istore_n_0 (C : jCtx l J cc nL own R rt md hh ret thr mc ms) {l0 : Option jV} {x : Int32} (hdg : decode cc pc = .ok (.istore_n 0, 1)) (hp : pc + 1 = pc') (hn9 : 0 < nL)  (K : J pc' (some (aI x) :: L) st μ k n) : J pc (l0 :: L) (aI x :: st) μ k n :=
  mj_istore_nG C (i := 0) hdg hp rfl (by simp only [List.length_cons]; omega) hn9 (fun j w hj h => by omega) K

theorem mj_istore_n_1 (C : jCtx l J cc nL own R rt md hh ret thr mc ms) {l0 l1 : Option jV} {x : Int32} (hdg : decode cc pc = .ok (.istore_n 1, 1)) (hp : pc + 1 = pc') (hn9 : 1 < nL) (hw : jw l0 = true) (K : J pc' (l0 :: some (aI x) :: L) st μ k n) : J pc (l0 :: l1 :: L) (aI x :: st) μ k n :=
  mj_istore_nG C (i := 1) hdg hp rfl (by simp only [List.length_cons]; omega) hn9 (by intro j w hj h; obtain rfl : j = 0 := (by omega); exact jw_of hw (Option.some.inj h)) K

theorem mj_istore_n_2 (C : jCtx l J cc nL own R rt md hh ret thr mc ms) {l0 l1 l2 : Option jV} {x : Int32} (hdg : decode cc pc = .ok (.istore_n 2, 1)) (hp : pc + 1 = pc') (hn9 : 2 < nL) (hw : jw l1 = true) (K : J pc' (l0 :: l1 :: some (aI x) :: L) st μ k n) : J pc (l0 :: l1 :: l2 :: L) (aI x :: st) μ k n :=
  mj_istore_nG C (i := 2) hdg hp rfl (by simp only [List.length_cons]; omega) hn9 (by intro j w hj h; obtain rfl : j = 1 := (by omega); exact jw_of hw (Option.some.inj h)) K

theorem mj_istore_n_3 (C : jCtx l J cc nL own R rt md hh ret thr mc ms) {l0 l1 l2 l3 : Option jV} {x : Int32} (hdg : decode cc pc = .ok (.istore_n 3, 1)) (hp : pc + 1 = pc') (hn9 : 3 < nL) (hw : jw l2 = true) (K : J pc' (l0 :: l1 :: l2 :: some (aI x) :: L) st μ k n) : J pc (l0 :: l1 :: l2 :: l3 :: L) (aI x :: st) μ k n :=
  mj_istore_nG C (i := 3) hdg hp rfl (by simp only [List.length_cons]; omega) hn9 (by intro j w hj h; obtain rfl : j = 2 := (by omega); exact jw_of hw (Option.some.inj h)) K

theorem mj_lstoreG (C : jCtx l J cc nL own R rt md hh ret thr mc ms) {i : Nat} {x : Int64} (hdg : decode cc pc = .ok (.lstore i, 2)) (hp : pc + 2 = pc')  (hi : i + 1 < L.length) (hn9 : i + 1 < nL) (hw : ∀ j w, j + 1 = i → L[j]? = some (some w) → jcat w ≠ 2) (K : J pc' ((L.set i (some (aL x))).set (i + 1) none) st μ k n) : J pc L (aL x :: st) μ k n := by
  obtain ⟨p, e, s, m, args, below, meth, c, D, cm, ad0, μ0, Q, rfl, hx, hb, hml, hrt, hown, hlk, hU, hE⟩ := C
  subst hp
  intro ad H locs ls hT hX hS hL hs hl
  exact lv_lstore hx hb hdg hl hn9 rfl (fun ls' hl' => K ad H locs ls' hT hX hS (jl_setn (jl_setc hL (jst_h hs))) (jst_t hs) (jl_set2 rfl hi hw hl'))

theorem mj_lstore_0 (C : jCtx l J cc nL own R rt md hh ret thr mc ms) {l0 l1 : Option jV} {x : Int64} (hdg : decode cc pc = .ok (.lstore 0, 2)) (hp : pc + 2 = pc') (hn9 : 1 < nL)  (K : J pc' (some (aL x) :: none :: L) st μ k n) : J pc (l0 :: l1 :: L) (aL x :: st) μ k n :=
  mj_lstoreG C (i := 0) hdg hp  (by simp only [List.length_cons]; omega) hn9 (fun j w hj h => by omega) K

theorem mj_lstore_1 (C : jCtx l J cc nL own R rt md hh ret thr mc ms) {l0 l1 l2 : Option jV} {x : Int64} (hdg : decode cc pc = .ok (.lstore 1, 2)) (hp : pc + 2 = pc') (hn9 : 2 < nL) (hw : jw l0 = true) (K : J pc' (l0 :: some (aL x) :: none :: L) st μ k n) : J pc (l0 :: l1 :: l2 :: L) (aL x :: st) μ k n :=
  mj_lstoreG C (i := 1) hdg hp  (by simp only [List.length_cons]; omega) hn9 (by intro j w hj h; obtain rfl : j = 0 := (by omega); exact jw_of hw (Option.some.inj h)) K

theorem mj_lstore_2 (C : jCtx l J cc nL own R rt md hh ret thr mc ms) {l0 l1 l2 l3 : Option jV} {x : Int64} (hdg : decode cc pc = .ok (.lstore 2, 2)) (hp : pc + 2 = pc') (hn9 : 3 < nL) (hw : jw l1 = true) (K : J pc' (l0 :: l1 :: some (aL x) :: none :: L) st μ k n) : J pc (l0 :: l1 :: l2 :: l3 :: L) (aL x :: st) μ k n :=
  mj_lstoreG C (i := 2) hdg hp  (by simp only [List.length_cons]; omega) hn9 (by intro j w hj h; obtain rfl : j = 1 := (by omega); exact jw_of hw (Option.some.inj h)) K

theorem mj_lstore_3 (C : jCtx l J cc nL own R rt md hh ret thr mc ms) {l0 l1 l2 l3 l4 : Option jV} {x : Int64} (hdg : decode cc pc = .ok (.lstore 3, 2)) (hp : pc + 2 = pc') (hn9 : 4 < nL) (hw : jw l2 = true) (K : J pc' (l0 :: l1 :: l2 :: some (aL x) :: none :: L) st μ k n) : J pc (l0 :: l1 :: l2 :: l3 :: l4 :: L) (aL x :: st) μ k n :=
  mj_lstoreG C (i := 3) hdg hp  (by simp only [List.length_cons]; omega) hn9 (by intro j w hj h; obtain rfl : j = 2 := (by omega); exact jw_of hw (Option.some.inj h)) K

theorem mj_lstore_4 (C : jCtx l J cc nL own R rt md hh ret thr mc ms) {l0 l1 l2 l3 l4 l5 : Option jV} {x : Int64} (hdg : decode cc pc = .ok (.lstore 4, 2)) (hp : pc + 2 = pc') (hn9 : 5 < nL) (hw : jw l3 = true) (K : J pc' (l0 :: l1 :: l2 :: l3 :: some (aL x) :: none :: L) st μ k n) : J pc (l0 :: l1 :: l2 :: l3 :: l4 :: l5 :: L) (aL x :: st) μ k n :=
  mj_lstoreG C (i := 4) hdg hp  (by simp only [List.length_cons]; omega) hn9 (by intro j w hj h; obtain rfl : j = 3 := (by omega); exact jw_of hw (Option.some.inj h)) K

theorem mj_lstore_5 (C : jCtx l J cc nL own R rt md hh ret thr mc ms) {l0 l1 l2 l3 l4 l5 l6 : Option jV} {x : Int64} (hdg : decode cc pc = .ok (.lstore 5, 2)) (hp : pc + 2 = pc') (hn9 : 6 < nL) (hw : jw l4 = true) (K : J pc' (l0 :: l1 :: l2 :: l3 :: l4 :: some (aL x) :: none :: L) st μ k n) : J pc (l0 :: l1 :: l2 :: l3 :: l4 :: l5 :: l6 :: L) (aL x :: st) μ k n :=
  mj_lstoreG C (i := 5) hdg hp  (by simp only [List.length_cons]; omega) hn9 (by intro j w hj h; obtain rfl : j = 4 := (by omega); exact jw_of hw (Option.some.inj h)) K

theorem mj_lstore_6 (C : jCtx l J cc nL own R rt md hh ret thr mc ms) {l0 l1 l2 l3 l4 l5 l6 l7 : Option jV} {x : Int64} (hdg : decode cc pc = .ok (.lstore 6, 2)) (hp : pc + 2 = pc') (hn9 : 7 < nL) (hw : jw l5 = true) (K : J pc' (l0 :: l1 :: l2 :: l3 :: l4 :: l5 :: some (aL x) :: none :: L) st μ k n) : J pc (l0 :: l1 :: l2 :: l3 :: l4 :: l5 :: l6 :: l7 :: L) (aL x :: st) μ k n :=
  mj_lstoreG C (i := 6) hdg hp  (by simp only [List.length_cons]; omega) hn9 (by intro j w hj h; obtain rfl : j = 5 := (by omega); exact jw_of hw (Option.some.inj h)) K

theorem mj_lstore_7 (C : jCtx l J cc nL own R rt md hh ret thr mc ms) {l0 l1 l2 l3 l4 l5 l6 l7 l8 : Option jV} {x : Int64} (hdg : decode cc pc = .ok (.lstore 7, 2)) (hp : pc + 2 = pc') (hn9 : 8 < nL) (hw : jw l6 = true) (K : J pc' (l0 :: l1 :: l2 :: l3 :: l4 :: l5 :: l6 :: some (aL x) :: none :: L) st μ k n) : J pc (l0 :: l1 :: l2 :: l3 :: l4 :: l5 :: l6 :: l7 :: l8 :: L) (aL x :: st) μ k n :=
  mj_lstoreG C (i := 7) hdg hp  (by simp only [List.length_cons]; omega) hn9 (by intro j w hj h; obtain rfl : j = 6 := (by omega); exact jw_of hw (Option.some.inj h)) K

theorem mj_lstore_nG (C : jCtx l J cc nL own R rt md hh ret thr mc ms) {k9 : Fin 4} {i : Nat} {x : Int64} (hdg : decode cc pc = .ok (.lstore_n k9, 1)) (hp : pc + 1 = pc') (hk : (k9 : Nat) = i) (hi : i + 1 < L.length) (hn9 : i + 1 < nL) (hw : ∀ j w, j + 1 = i → L[j]? = some (some w) → jcat w ≠ 2) (K : J pc' ((L.set i (some (aL x))).set (i + 1) none) st μ k n) : J pc L (aL x :: st) μ k n := by
  obtain ⟨p, e, s, m, args, below, meth, c, D, cm, ad0, μ0, Q, rfl, hx, hb, hml, hrt, hown, hlk, hU, hE⟩ := C
  subst hp
  intro ad H locs ls hT hX hS hL hs hl
  exact lv_lstore_n hx hb hdg hk hl hn9 rfl (fun ls' hl' => K ad H locs ls' hT hX hS (jl_setn (jl_setc hL (jst_h hs))) (jst_t hs) (jl_set2 rfl hi hw hl'))

theorem mj_lstore_n_0 (C : jCtx l J cc nL own R rt md hh ret thr mc ms) {l0 l1 : Option jV} {x : Int64} (hdg : decode cc pc = .ok (.lstore_n 0, 1)) (hp : pc + 1 = pc') (hn9 : 1 < nL)  (K : J pc' (some (aL x) :: none :: L) st μ k n) : J pc (l0 :: l1 :: L) (aL x :: st) μ k n :=
  mj_lstore_nG C (i := 0) hdg hp rfl (by simp only [List.length_cons]; omega) hn9 (fun j w hj h => by omega) K

theorem mj_lstore_n_1 (C : jCtx l J cc nL own R rt md hh ret thr mc ms) {l0 l1 l2 : Option jV} {x : Int64} (hdg : decode cc pc = .ok (.lstore_n 1, 1)) (hp : pc + 1 = pc') (hn9 : 2 < nL) (hw : jw l0 = true) (K : J pc' (l0 :: some (aL x) :: none :: L) st μ k n) : J pc (l0 :: l1 :: l2 :: L) (aL x :: st) μ k n :=
  mj_lstore_nG C (i := 1) hdg hp rfl (by simp only [List.length_cons]; omega) hn9 (by intro j w hj h; obtain rfl : j = 0 := (by omega); exact jw_of hw (Option.some.inj h)) K

theorem mj_lstore_n_2 (C : jCtx l J cc nL own R rt md hh ret thr mc ms) {l0 l1 l2 l3 : Option jV} {x : Int64} (hdg : decode cc pc = .ok (.lstore_n 2, 1)) (hp : pc + 1 = pc') (hn9 : 3 < nL) (hw : jw l1 = true) (K : J pc' (l0 :: l1 :: some (aL x) :: none :: L) st μ k n) : J pc (l0 :: l1 :: l2 :: l3 :: L) (aL x :: st) μ k n :=
  mj_lstore_nG C (i := 2) hdg hp rfl (by simp only [List.length_cons]; omega) hn9 (by intro j w hj h; obtain rfl : j = 1 := (by omega); exact jw_of hw (Option.some.inj h)) K

theorem mj_lstore_n_3 (C : jCtx l J cc nL own R rt md hh ret thr mc ms) {l0 l1 l2 l3 l4 : Option jV} {x : Int64} (hdg : decode cc pc = .ok (.lstore_n 3, 1)) (hp : pc + 1 = pc') (hn9 : 4 < nL) (hw : jw l2 = true) (K : J pc' (l0 :: l1 :: l2 :: some (aL x) :: none :: L) st μ k n) : J pc (l0 :: l1 :: l2 :: l3 :: l4 :: L) (aL x :: st) μ k n :=
  mj_lstore_nG C (i := 3) hdg hp rfl (by simp only [List.length_cons]; omega) hn9 (by intro j w hj h; obtain rfl : j = 2 := (by omega); exact jw_of hw (Option.some.inj h)) K

theorem mj_astoreG (C : jCtx l J cc nL own R rt md hh ret thr mc ms) {i : Nat} {r : Option (Nat × Nat)} (hdg : decode cc pc = .ok (.astore i, 2)) (hp : pc + 2 = pc')  (hi : i < L.length) (hn9 : i < nL) (hw : ∀ j w, j + 1 = i → L[j]? = some (some w) → jcat w ≠ 2) (K : J pc' (L.set i (some (aO r))) st μ k n) : J pc L (aO r :: st) μ k n := by
  obtain ⟨p, e, s, m, args, below, meth, c, D, cm, ad0, μ0, Q, rfl, hx, hb, hml, hrt, hown, hlk, hU, hE⟩ := C
  subst hp
  intro ad H locs ls hT hX hS hL hs hl
  cases r with
  | none => exact lv_astoreN hx hb hdg hl hn9 rfl (fun ls' hl' => K ad H locs ls' hT hX hS (jl_setc hL (jst_h hs)) (jst_t hs) (jl_set rfl hi hw hl'))
  | some q => exact lv_astore hx hb hdg hl hn9 rfl (fun ls' hl' => K ad H locs ls' hT hX hS (jl_setc hL (jst_h hs)) (jst_t hs) (jl_set rfl hi hw hl'))

theorem mj_astore_0 (C : jCtx l J cc nL own R rt md hh ret thr mc ms) {l0 : Option jV} {r : Option (Nat × Nat)} (hdg : decode cc pc = .ok (.astore 0, 2)) (hp : pc + 2 = pc') (hn9 : 0 < nL)  (K : J pc' (some (aO r) :: L) st μ k n) : J pc (l0 :: L) (aO r :: st) μ k n :=
  mj_astoreG C (i := 0) hdg hp  (by simp only [List.length_cons]; omega) hn9 (fun j w hj h => by omega) K

theorem mj_astore_1 (C : jCtx l J cc nL own R rt md hh ret thr mc ms) {l0 l1 : Option jV} {r : Option (Nat × Nat)} (hdg : decode cc pc = .ok (.astore 1, 2)) (hp : pc + 2 = pc') (hn9 : 1 < nL) (hw : jw l0 = true) (K : J pc' (l0 :: some (aO r) :: L) st μ k n) : J pc (l0 :: l1 :: L) (aO r :: st) μ k n :=
  mj_astoreG C (i := 1) hdg hp  (by simp only [List.length_cons]; omega) hn9 (by intro j w hj h; obtain rfl : j = 0 := (by omega); exact jw_of hw (Option.some.inj h)) K

theorem mj_astore_2 (C : jCtx l J cc nL own R rt md hh ret thr mc ms) {l0 l1 l2 : Option jV} {r : Option (Nat × Nat)} (hdg : decode cc pc = .ok (.astore 2, 2)) (hp : pc + 2 = pc') (hn9 : 2 < nL) (hw : jw l1 = true) (K : J pc' (l0 :: l1 :: some (aO r) :: L) st μ k n) : J pc (l0 :: l1 :: l2 :: L) (aO r :: st) μ k n :=
  mj_astoreG C (i := 2) hdg hp  (by simp only [List.length_cons]; omega) hn9 (by intro j w hj h; obtain rfl : j = 1 := (by omega); exact jw_of hw (Option.some.inj h)) K

theorem mj_astore_3 (C : jCtx l J cc nL own R rt md hh ret thr mc ms) {l0 l1 l2 l3 : Option jV} {r : Option (Nat × Nat)} (hdg : decode cc pc = .ok (.astore 3, 2)) (hp : pc + 2 = pc') (hn9 : 3 < nL) (hw : jw l2 = true) (K : J pc' (l0 :: l1 :: l2 :: some (aO r) :: L) st μ k n) : J pc (l0 :: l1 :: l2 :: l3 :: L) (aO r :: st) μ k n :=
  mj_astoreG C (i := 3) hdg hp  (by simp only [List.length_cons]; omega) hn9 (by intro j w hj h; obtain rfl : j = 2 := (by omega); exact jw_of hw (Option.some.inj h)) K

theorem mj_astore_4 (C : jCtx l J cc nL own R rt md hh ret thr mc ms) {l0 l1 l2 l3 l4 : Option jV} {r : Option (Nat × Nat)} (hdg : decode cc pc = .ok (.astore 4, 2)) (hp : pc + 2 = pc') (hn9 : 4 < nL) (hw : jw l3 = true) (K : J pc' (l0 :: l1 :: l2 :: l3 :: some (aO r) :: L) st μ k n) : J pc (l0 :: l1 :: l2 :: l3 :: l4 :: L) (aO r :: st) μ k n :=
  mj_astoreG C (i := 4) hdg hp  (by simp only [List.length_cons]; omega) hn9 (by intro j w hj h; obtain rfl : j = 3 := (by omega); exact jw_of hw (Option.some.inj h)) K

theorem mj_astore_5 (C : jCtx l J cc nL own R rt md hh ret thr mc ms) {l0 l1 l2 l3 l4 l5 : Option jV} {r : Option (Nat × Nat)} (hdg : decode cc pc = .ok (.astore 5, 2)) (hp : pc + 2 = pc') (hn9 : 5 < nL) (hw : jw l4 = true) (K : J pc' (l0 :: l1 :: l2 :: l3 :: l4 :: some (aO r) :: L) st μ k n) : J pc (l0 :: l1 :: l2 :: l3 :: l4 :: l5 :: L) (aO r :: st) μ k n :=
  mj_astoreG C (i := 5) hdg hp  (by simp only [List.length_cons]; omega) hn9 (by intro j w hj h; obtain rfl : j = 4 := (by omega); exact jw_of hw (Option.some.inj h)) K

theorem mj_astore_6 (C : jCtx l J cc nL own R rt md hh ret thr mc ms) {l0 l1 l2 l3 l4 l5 l6 : Option jV} {r : Option (Nat × Nat)} (hdg : decode cc pc = .ok (.astore 6, 2)) (hp : pc + 2 = pc') (hn9 : 6 < nL) (hw : jw l5 = true) (K : J pc' (l0 :: l1 :: l2 :: l3 :: l4 :: l5 :: some (aO r) :: L) st μ k n) : J pc (l0 :: l1 :: l2 :: l3 :: l4 :: l5 :: l6 :: L) (aO r :: st) μ k n :=
  mj_astoreG C (i := 6) hdg hp  (by simp only [List.length_cons]; omega) hn9 (by intro j w hj h; obtain rfl : j = 5 := (by omega); exact jw_of hw (Option.some.inj h)) K

theorem mj_astore_7 (C : jCtx l J cc nL own R rt md hh ret thr mc ms) {l0 l1 l2 l3 l4 l5 l6 l7 : Option jV} {r : Option (Nat × Nat)} (hdg : decode cc pc = .ok (.astore 7, 2)) (hp : pc + 2 = pc') (hn9 : 7 < nL) (hw : jw l6 = true) (K : J pc' (l0 :: l1 :: l2 :: l3 :: l4 :: l5 :: l6 :: some (aO r) :: L) st μ k n) : J pc (l0 :: l1 :: l2 :: l3 :: l4 :: l5 :: l6 :: l7 :: L) (aO r :: st) μ k n :=
  mj_astoreG C (i := 7) hdg hp  (by simp only [List.length_cons]; omega) hn9 (by intro j w hj h; obtain rfl : j = 6 := (by omega); exact jw_of hw (Option.some.inj h)) K

theorem mj_astore_nG (C : jCtx l J cc nL own R rt md hh ret thr mc ms) {k9 : Fin 4} {i : Nat} {r : Option (Nat × Nat)} (hdg : decode cc pc = .ok (.astore_n k9, 1)) (hp : pc + 1 = pc') (hk : (k9 : Nat) = i) (hi : i < L.length) (hn9 : i < nL) (hw : ∀ j w, j + 1 = i → L[j]? = some (some w) → jcat w ≠ 2) (K : J pc' (L.set i (some (aO r))) st μ k n) : J pc L (aO r :: st) μ k n := by
  obtain ⟨p, e, s, m, args, below, meth, c, D, cm, ad0, μ0, Q, rfl, hx, hb, hml, hrt, hown, hlk, hU, hE⟩ := C
  subst hp
  intro ad H locs ls hT hX hS hL hs hl
  cases r with
  | none => exact lv_astore_nN hx hb hdg hk hl hn9 rfl (fun ls' hl' => K ad H locs ls' hT hX hS (jl_setc hL (jst_h hs)) (jst_t hs) (jl_set rfl hi hw hl'))
  | some q => exact lv_astore_n hx hb hdg hk hl hn9 rfl (fun ls' hl' => K ad H locs ls' hT hX hS (jl_setc hL (jst_h hs)) (jst_t hs) (jl_set rfl hi hw hl'))

theorem mj_astore_n_0 (C : jCtx l J cc nL own R rt md hh ret thr mc ms) {l0 : Option jV} {r : Option (Nat × Nat)} (hdg : decode cc pc = .ok (.astore_n 0, 1)) (hp : pc + 1 = pc') (hn9 : 0 < nL)  (K : J pc' (some (aO r) :: L) st μ k n) : J pc (l0 :: L) (aO r :: st) μ k n :=
  mj_astore_nG C (i := 0) hdg hp rfl (by simp only [List.length_cons]; omega) hn9 (fun j w hj h => by omega) K

theorem mj_astore_n_1 (C : jCtx l J cc nL own R rt md hh ret thr mc ms) {l0 l1 : Option jV} {r : Option (Nat × Nat)} (hdg : decode cc pc = .ok (.astore_n 1, 1)) (hp : pc + 1 = pc') (hn9 : 1 < nL) (hw : jw l0 = true) (K : J pc' (l0 :: some (aO r) :: L) st μ k n) : J pc (l0 :: l1 :: L) (aO r :: st) μ k n :=
  mj_astore_nG C (i := 1) hdg hp rfl (by simp only [List.length_cons]; omega) hn9 (by intro j w hj h; obtain rfl : j = 0 := (by omega); exact jw_of hw (Option.some.inj h)) K

theorem mj_astore_n_2 (C : jCtx l J cc nL own R rt md hh ret thr mc ms) {l0 l1 l2 : Option jV} {r : Option (Nat × Nat)} (hdg : decode cc pc = .ok (.astore_n 2, 1)) (hp : pc + 1 = pc') (hn9 : 2 < nL) (hw : jw l1 = true) (K : J pc' (l0 :: l1 :: some (aO r) :: L) st μ k n) : J pc (l0 :: l1 :: l2 :: L) (aO r :: st) μ k n :=
  mj_astore_nG C (i := 2) hdg hp rfl (by simp only [List.length_cons]; omega) hn9 (by intro j w hj h; obtain rfl : j = 1 := (by omega); exact jw_of hw (Option.some.inj h)) K

theorem mj_astore_n_3 (C : jCtx l J cc nL own R rt md hh ret thr mc ms) {l0 l1 l2 l3 : Option jV} {r : Option (Nat × Nat)} (hdg : decode cc pc = .ok (.astore_n 3, 1)) (hp : pc + 1 = pc') (hn9 : 3 < nL) (hw : jw l2 = true) (K : J pc' (l0 :: l1 :: l2 :: some (aO r) :: L) st μ k n) : J pc (l0 :: l1 :: l2 :: l3 :: L) (aO r :: st) μ k n :=
  mj_astore_nG C (i := 3) hdg hp rfl (by simp only [List.length_cons]; omega) hn9 (by intro j w hj h; obtain rfl : j = 2 := (by omega); exact jw_of hw (Option.some.inj h)) K

theorem mj_iincG (C : jCtx l J cc nL own R rt md hh ret thr mc ms) {i : Nat} {d : Int} {w x : Int32} (hdg : decode cc pc = .ok (.iinc i d, 3)) (hp : pc + 3 = pc') (hd : Int32.ofInt d = w) (hg : L[i]? = some (some (aI x))) (hi : i < L.length) (hn9 : i < nL) (hw : ∀ j w, j + 1 = i → L[j]? = some (some w) → jcat w ≠ 2) (K : J pc' (L.set i (some (aI (x + w)))) st μ k n) : J pc L st μ k n := by
  obtain ⟨p, e, s, m, args, below, meth, c, D, cm, ad0, μ0, Q, rfl, hx, hb, hml, hrt, hown, hlk, hU, hE⟩ := C
  subst hp
  intro ad H locs ls hT hX hS hL hs hl
  subst hd
  obtain ⟨k9, hk9⟩ := List.getElem?_of_mem (jLs_mem ad L 0 i _ hg)
  rw [Nat.zero_add] at hk9
  exact lv_iinc hx hb hdg hl hk9 rfl hn9 rfl (fun ls' hl' => K ad H locs ls' hT hX hS (jl_setc hL trivial) hs (jl_set rfl hi hw hl'))

theorem mj_iinc_0 (C : jCtx l J cc nL own R rt md hh ret thr mc ms)  {d : Int} {w x : Int32} (hdg : decode cc pc = .ok (.iinc 0 d, 3)) (hp : pc + 3 = pc') (hd : Int32.ofInt d = w) (hn9 : 0 < nL)  (K : J pc' (some (aI (x + w)) :: L) st μ k n) : J pc (some (aI x) :: L) st μ k n :=
  mj_iincG C (i := 0) hdg hp hd rfl (by simp only [List.length_cons]; omega) hn9 (fun j w hj h => by omega) K

theorem mj_iinc_1 (C : jCtx l J cc nL own R rt md hh ret thr mc ms) {l0 : Option jV} {d : Int} {w x : Int32} (hdg : decode cc pc = .ok (.iinc 1 d, 3)) (hp : pc + 3 = pc') (hd : Int32.ofInt d = w) (hn9 : 1 < nL) (hw : jw l0 = true) (K : J pc' (l0 :: some (aI (x + w)) :: L) st μ k n) : J pc (l0 :: some (aI x) :: L) st μ k n :=
  mj_iincG C (i := 1) hdg hp hd rfl (by simp only [List.length_cons]; omega) hn9 (by intro j w hj h; obtain rfl : j = 0 := (by omega); exact jw_of hw (Option.some.inj h)) K

theorem mj_iinc_2 (C : jCtx l J cc nL own R rt md hh ret thr mc ms) {l0 l1 : Option jV} {d : Int} {w x : Int32} (hdg : decode cc pc = .ok (.iinc 2 d, 3)) (hp : pc + 3 = pc') (hd : Int32.ofInt d = w) (hn9 : 2 < nL) (hw : jw l1 = true) (K : J pc' (l0 :: l1 :: some (aI (x + w)) :: L) st μ k n) : J pc (l0 :: l1 :: some (aI x) :: L) st μ k n :=
  mj_iincG C (i := 2) hdg hp hd rfl (by simp only [List.length_cons]; omega) hn9 (by intro j w hj h; obtain rfl : j = 1 := (by omega); exact jw_of hw (Option.some.inj h)) K

theorem mj_iinc_3 (C : jCtx l J cc nL own R rt md hh ret thr mc ms) {l0 l1 l2 : Option jV} {d : Int} {w x : Int32} (hdg : decode cc pc = .ok (.iinc 3 d, 3)) (hp : pc + 3 = pc') (hd : Int32.ofInt d = w) (hn9 : 3 < nL) (hw : jw l2 = true) (K : J pc' (l0 :: l1 :: l2 :: some (aI (x + w)) :: L) st μ k n) : J pc (l0 :: l1 :: l2 :: some (aI x) :: L) st μ k n :=
  mj_iincG C (i := 3) hdg hp hd rfl (by simp only [List.length_cons]; omega) hn9 (by intro j w hj h; obtain rfl : j = 2 := (by omega); exact jw_of hw (Option.some.inj h)) K

theorem mj_iinc_4 (C : jCtx l J cc nL own R rt md hh ret thr mc ms) {l0 l1 l2 l3 : Option jV} {d : Int} {w x : Int32} (hdg : decode cc pc = .ok (.iinc 4 d, 3)) (hp : pc + 3 = pc') (hd : Int32.ofInt d = w) (hn9 : 4 < nL) (hw : jw l3 = true) (K : J pc' (l0 :: l1 :: l2 :: l3 :: some (aI (x + w)) :: L) st μ k n) : J pc (l0 :: l1 :: l2 :: l3 :: some (aI x) :: L) st μ k n :=
  mj_iincG C (i := 4) hdg hp hd rfl (by simp only [List.length_cons]; omega) hn9 (by intro j w hj h; obtain rfl : j = 3 := (by omega); exact jw_of hw (Option.some.inj h)) K

theorem mj_iinc_5 (C : jCtx l J cc nL own R rt md hh ret thr mc ms) {l0 l1 l2 l3 l4 : Option jV} {d : Int} {w x : Int32} (hdg : decode cc pc = .ok (.iinc 5 d, 3)) (hp : pc + 3 = pc') (hd : Int32.ofInt d = w) (hn9 : 5 < nL) (hw : jw l4 = true) (K : J pc' (l0 :: l1 :: l2 :: l3 :: l4 :: some (aI (x + w)) :: L) st μ k n) : J pc (l0 :: l1 :: l2 :: l3 :: l4 :: some (aI x) :: L) st μ k n :=
  mj_iincG C (i := 5) hdg hp hd rfl (by simp only [List.length_cons]; omega) hn9 (by intro j w hj h; obtain rfl : j = 4 := (by omega); exact jw_of hw (Option.some.inj h)) K

theorem mj_iinc_6 (C : jCtx l J cc nL own R rt md hh ret thr mc ms) {l0 l1 l2 l3 l4 l5 : Option jV} {d : Int} {w x : Int32} (hdg : decode cc pc = .ok (.iinc 6 d, 3)) (hp : pc + 3 = pc') (hd : Int32.ofInt d = w) (hn9 : 6 < nL) (hw : jw l5 = true) (K : J pc' (l0 :: l1 :: l2 :: l3 :: l4 :: l5 :: some (aI (x + w)) :: L) st μ k n) : J pc (l0 :: l1 :: l2 :: l3 :: l4 :: l5 :: some (aI x) :: L) st μ k n :=
  mj_iincG C (i := 6) hdg hp hd rfl (by simp only [List.length_cons]; omega) hn9 (by intro j w hj h; obtain rfl : j = 5 := (by omega); exact jw_of hw (Option.some.inj h)) K

theorem mj_iinc_7 (C : jCtx l J cc nL own R rt md hh ret thr mc ms) {l0 l1 l2 l3 l4 l5 l6 : Option jV} {d : Int} {w x : Int32} (hdg : decode cc pc = .ok (.iinc 7 d, 3)) (hp : pc + 3 = pc') (hd : Int32.ofInt d = w) (hn9 : 7 < nL) (hw : jw l6 = true) (K : J pc' (l0 :: l1 :: l2 :: l3 :: l4 :: l5 :: l6 :: some (aI (x + w)) :: L) st μ k n) : J pc (l0 :: l1 :: l2 :: l3 :: l4 :: l5 :: l6 :: some (aI x) :: L) st μ k n :=
  mj_iincG C (i := 7) hdg hp hd rfl (by simp only [List.length_cons]; omega) hn9 (by intro j w hj h; obtain rfl : j = 6 := (by omega); exact jw_of hw (Option.some.inj h)) K

/-- what is no longer looked at -/
theorem mj_drop (C : jCtx l J cc nL own R rt md hh ret thr mc ms) {i : Nat} (K : J pc (L.set i none) st μ k n) : J pc L st μ k n := by
  obtain ⟨p, e, s, m, args, below, meth, c, D, cm, ad0, μ0, Q, rfl, hx, hb, hml, hrt, hown, hlk, hU, hE⟩ := C
  intro ad H locs ls hT hX hS hL hs hl
  refine K ad H locs ls hT hX hS (jl_setn hL) hs ⟨hl.1, hl.2.1, fun q hq => ?_⟩
  obtain ⟨j, w, hj, rfl⟩ := jLs_of ad _ 0 q hq
  by_cases e : j = i
  · subst e
    by_cases h9 : j < L.length
    · rw [List.getElem?_set_self h9] at hj
      cases hj
    · rw [List.getElem?_eq_none (by rw [List.length_set]; omega)] at hj
      cases hj
  · rw [List.getElem?_set_ne (Ne.symm e)] at hj
    exact hl.2.2 _ (jLs_mem ad L 0 j w hj)
/-- fewer tracked variables -/
theorem mj_less (C : jCtx l J cc nL own R rt md hh ret thr mc ms) {L' : List (Option jV)} (h : ∀ (i : Nat) (v : jV), L'[i]? = some (some v) → L[i]? = some (some v)) (K : J pc L' st μ k n) : J pc L st μ k n := by
  obtain ⟨p, e, s, m, args, below, meth, c, D, cm, ad0, μ0, Q, rfl, hx, hb, hml, hrt, hown, hlk, hU, hE⟩ := C
  intro ad H locs ls hT hX hS hL hs hl
  refine K ad H locs ls hT hX hS (fun v hv => ?_) hs ⟨hl.1, hl.2.1, fun q hq => ?_⟩
  · obtain ⟨i, hi⟩ := List.getElem?_of_mem hv
    exact hL v (List.mem_of_getElem? (h i v hi))
  · obtain ⟨j, w, hj, rfl⟩ := jLs_of ad _ 0 q hq
    exact hl.2.2 _ (jLs_mem ad L 0 j w (h j w hj))
theorem mj_widen (C : jCtx l J cc nL own R rt md hh ret thr mc ms) {k' n' : Nat} (hk : k ≤ k') (hn : n ≤ n') (K : J pc L st μ k' n') : J pc L st μ k n := by
  obtain ⟨p, e, s, m, args, below, meth, c, D, cm, ad0, μ0, Q, rfl, hx, hb, hml, hrt, hown, hlk, hU, hE⟩ := C
  intro ad H locs ls hT hX hS hL hs hl
  exact W.widen hk hn (K ad H locs ls hT hX hS hL hs hl)
end JROWS
end
section
/-! ROWS OF THE HEAP: fields, rows' elements, what is made -/
theorem jLay {ci : Nat} (h : ci < 7) : ∀ w ∈ u_ws (jNm ci) (jTx ci) (jNf ci), w ∈ jWL := by
  rcases (show ci = 0 ∨ ci = 1 ∨ ci = 2 ∨ ci = 3 ∨ ci = 4 ∨ ci = 5 ∨ ci = 6 by omega) with rfl | rfl | rfl | rfl | rfl | rfl | rfl <;> decide +kernel
section JHEAP
variable {l : Launch} {J : Nat → List (Option jV) → List jV → jM → Nat → Nat → Prop} {cc : ByteArray} {nL : Nat} {own : String} {R : Room} {rt : Option FieldType} {md : Nat} {hh : List (Nat × Nat × Nat × Nat)} {ret : Option jV → jM → Prop} {thr : String → jM → Prop} {mc ms : Nat}
variable {pc pc' : Nat} {L : List (Option jV)} {st : List jV} {μ : jM} {k n : Nat}
theorem jAt_obj {D : va_G} {cm : FieldType → ClassId} {ad : Nat → Nat → Nat} {H : Heap} {kd i ci : Nat} (h : jAt D cm ad μ H kd i) (hs : jSh kd = .inl ci) : t_OB (ad kd i) (D.1 ci) (jNf ci) (D.2 ci) H (fun k => jv ad μ (jFt ci k) kd i k) := by
  unfold jAt at h
  rw [hs] at h
  exact h
theorem jAt_row {D : va_G} {cm : FieldType → ClassId} {ad : Nat → Nat → Nat} {H : Heap} {kd i N : Nat} {ty : FieldType} (h : jAt D cm ad μ H kd i) (hs : jSh kd = .inr (ty, N)) : H[ad kd i]? = some (arrV (cm ty) N (fun k => jv ad μ ty kd i k)) := by
  unfold jAt at h
  rw [hs] at h
  exact h
theorem jAt_obj' {D : va_G} {cm : FieldType → ClassId} {ad : Nat → Nat → Nat} {H : Heap} {kd i ci : Nat} (hs : jSh kd = .inl ci) (h : t_OB (ad kd i) (D.1 ci) (jNf ci) (D.2 ci) H (fun k => jv ad μ (jFt ci k) kd i k)) : jAt D cm ad μ H kd i := by
  unfold jAt
  rw [hs]
  exact h
theorem jAt_row' {D : va_G} {cm : FieldType → ClassId} {ad : Nat → Nat → Nat} {H : Heap} {kd i N : Nat} {ty : FieldType} (hs : jSh kd = .inr (ty, N)) (h : H[ad kd i]? = some (arrV (cm ty) N (fun k => jv ad μ ty kd i k))) : jAt D cm ad μ H kd i := by
  unfold jAt
  rw [hs]
  exact h
theorem mj_getI (C : jCtx l J cc nL own R rt md hh ret thr mc ms) {idx kd i ci f : Nat} (hdg : decode cc pc = .ok (.getfield idx, 3)) (hp : pc + 3 = pc') (hs : jSh kd = .inl ci) (hc : ci < 7) (hf : f < jNf ci) (hty : ∀ ad, jv ad μ (jFt ci f) kd i f = .int (mI μ kd i f)) (h61 : kd ≠ 61) (hw : Cond.fieldLink own idx (jTx ci f).1 (jTx ci f).2.1 (jTx ci f).2.2.1 ∈ jWL) (hi : i < mN μ kd) (K : J pc' L (aI (mI μ kd i f) :: st) μ k n) : J pc L (aR kd i :: st) μ k n := by
  obtain ⟨p, e, s, m, args, below, meth, c, D, cm, ad0, μ0, Q, rfl, hx, hb, hml, hrt, hown, hlk, hU, hE⟩ := C
  subst hp
  intro ad H locs ls hT hX hS hL hs9 hl
  obtain ⟨cell, q1, q2, q3, q4⟩ := jAt_obj (hT.1 kd i h61 hi) hs
  obtain ⟨hSl, hfc, kC, hkC, hkind⟩ := hU.1.1 ci _ (jCl_at hc)
  obtain ⟨cf, kf, fi, fd, hfi, hsl⟩ := hSl f hf
  refine W.getf hx hb hown (hU.w hw) hfi (u_facts hfc hkC (u_lays (args := args) (fun w h => hU.w h) (jLay hc) hf) hfi).1 q1 (by rw [q3]; exact fun h => by cases h) (v := .int (mI μ kd i f)) ?_ rfl rfl hdg (K ad H locs ls hT hX hS hL (jst_c trivial (jst_t hs9)) hl)
  rw [hsl, q4 f hf]
  exact congrArg some (hty ad)
theorem mj_getR (C : jCtx l J cc nL own R rt md hh ret thr mc ms) {idx kd i ci f : Nat} {r : Option (Nat × Nat)} (hdg : decode cc pc = .ok (.getfield idx, 3)) (hp : pc + 3 = pc') (hs : jSh kd = .inl ci) (hc : ci < 7) (hf : f < jNf ci) (hty : ∀ ad, jv ad μ (jFt ci f) kd i f = jc ad (aO (mP μ kd i f))) (h61 : kd ≠ 61) (hw : Cond.fieldLink own idx (jTx ci f).1 (jTx ci f).2.1 (jTx ci f).2.2.1 ∈ jWL) (hi : i < mN μ kd) (hr : mP μ kd i f = r) (K : J pc' L (aO r :: st) μ k n) : J pc L (aR kd i :: st) μ k n := by
  obtain ⟨p, e, s, m, args, below, meth, c, D, cm, ad0, μ0, Q, rfl, hx, hb, hml, hrt, hown, hlk, hU, hE⟩ := C
  subst hp
  subst hr
  intro ad H locs ls hT hX hS hL hs9 hl
  obtain ⟨cell, q1, q2, q3, q4⟩ := jAt_obj (hT.1 kd i h61 hi) hs
  obtain ⟨hSl, hfc, kC, hkC, hkind⟩ := hU.1.1 ci _ (jCl_at hc)
  obtain ⟨cf, kf, fi, fd, hfi, hsl⟩ := hSl f hf
  refine W.getf hx hb hown (hU.w hw) hfi (u_facts hfc hkC (u_lays (args := args) (fun w h => hU.w h) (jLay hc) hf) hfi).1 q1 (by rw [q3]; exact fun h => by cases h) (v := jc ad (aO (mP μ kd i f))) ?_ rfl rfl hdg (K ad H locs ls hT hX hS hL (jst_c (jL_O (fun q hq => hT.2.2.1 kd i f q hi hq)) (jst_t hs9)) hl)
  rw [hsl, q4 f hf]
  exact congrArg some (hty ad)
/-- the slots of a make are apart -/
theorem japart {D : va_G} {cm : FieldType → ClassId} {A : Nat → Prop} {s : State} (hU : jU D cm A s) {ci : Nat} (hc : ci < 7) : ∀ x y, x < jNf ci → y < jNf ci → x ≠ y → (D.2 ci) x ≠ (D.2 ci) y := by
  intro x y hx hy hne
  obtain ⟨hS, -⟩ := hU.1.1 ci _ (jCl_at hc)
  obtain ⟨_, _, _, fa, hia, ea⟩ := hS x hx
  obtain ⟨_, _, _, fb, hib, eb⟩ := hS y hy
  rw [← ea, ← eb]
  refine u_apart (u_lays (args := #[]) (fun w h => hU.w h) (jLay hc) hx) (u_lays (args := #[]) (fun w h => hU.w h) (jLay hc) hy) hia hib ?_
  rw [(State.fieldFound?_type hia (jTy_ok hc x hx)).1, (State.fieldFound?_type hib (jTy_ok hc y hy)).1]
  exact jNm_ok hc x hx y hy hne
theorem jv_sI {ad : Nat → Nat → Nat} {ty : FieldType} {a b c x y z : Nat} {v : Int32} (h : ¬ (x = a ∧ y = b ∧ z = c)) : jv ad (sI μ a b c v) ty x y z = jv ad μ ty x y z := by
  unfold jv
  rw [mI_sI_n μ a b c v h]
  rfl
theorem jv_sP {ad : Nat → Nat → Nat} {ty : FieldType} {a b c x y z : Nat} {v : Option (Nat × Nat)} (h : ¬ (x = a ∧ y = b ∧ z = c)) : jv ad (sP μ a b c v) ty x y z = jv ad μ ty x y z := by
  unfold jv
  rw [mP_sP_n μ a b c v h]
  rfl
theorem jv_sG {ad : Nat → Nat → Nat} {ty : FieldType} {a b c x y z : Nat} {v : Int64} (h : ¬ (x = a ∧ y = b ∧ z = c)) : jv ad (sG μ a b c v) ty x y z = jv ad μ ty x y z := by
  unfold jv
  rw [mG_sG, if_neg h]
  rfl
theorem jT_sI {D : va_G} {cm : FieldType → ClassId} {ad : Nat → Nat → Nat} {H H1 : Heap} {kd i f : Nat} {x : Int32} (hT : jT D cm ad μ H) (hi : i < mN μ kd) (hz : H1.size = H.size) (oq : ∀ q : Nat, q ≠ ad kd i → H1[q]? = H[q]?) (hat : jAt D cm ad (sI μ kd i f x) H1 kd i) : jT D cm ad (sI μ kd i f x) H1 :=
  hT.put hi hz oq rfl (fun a b h z => ⟨mI_sI_n μ kd i f x (fun h9 => h ⟨h9.1, h9.2.1⟩), rfl, rfl⟩) hat (fun k q hq => hT.2.2.1 kd i k q hi hq)
theorem jT_sG {D : va_G} {cm : FieldType → ClassId} {ad : Nat → Nat → Nat} {H H1 : Heap} {kd i f : Nat} {x : Int64} (hT : jT D cm ad μ H) (hi : i < mN μ kd) (hz : H1.size = H.size) (oq : ∀ q : Nat, q ≠ ad kd i → H1[q]? = H[q]?) (hat : jAt D cm ad (sG μ kd i f x) H1 kd i) : jT D cm ad (sG μ kd i f x) H1 :=
  hT.put hi hz oq rfl (fun a b h z => ⟨rfl, rfl, by rw [mG_sG, if_neg (fun h9 => h ⟨h9.1, h9.2.1⟩)]⟩) hat (fun k q hq => hT.2.2.1 kd i k q hi hq)
theorem jT_sP {D : va_G} {cm : FieldType → ClassId} {ad : Nat → Nat → Nat} {H H1 : Heap} {kd i f : Nat} {r : Option (Nat × Nat)} (hT : jT D cm ad μ H) (hi : i < mN μ kd) (hr : jL μ (aO r)) (hz : H1.size = H.size) (oq : ∀ q : Nat, q ≠ ad kd i → H1[q]? = H[q]?) (hat : jAt D cm ad (sP μ kd i f r) H1 kd i) : jT D cm ad (sP μ kd i f r) H1 :=
  hT.put hi hz oq rfl (fun a b h z => ⟨rfl, mP_sP_n μ kd i f r (fun h9 => h ⟨h9.1, h9.2.1⟩), rfl⟩) hat (fun k q hq => by
    rw [mP_sP] at hq
    split at hq
    · subst hq
      exact hr
    · exact hT.2.2.1 kd i k q hi hq)
/-- a field is written: the object behind it -/
theorem jput_obj {D : va_G} {cm : FieldType → ClassId} {ad : Nat → Nat → Nat} {μ' : jM} {A : Nat → Prop} {s : State} (hU : jU D cm A s) {ci kd i f : Nat} (hc : ci < 7) (hf : f < jNf ci) (hs : jSh kd = .inl ci) {H1 : Heap} {cell : Cell} {v : Value} (e1 : H1[ad kd i]? = some (cell.setSlot (D.2 ci f) v)) (q2 : cell.cls = D.1 ci) (q3 : cell.vm = .none) (q4 : ∀ k, k < jNf ci → cell.slots[D.2 ci k]? = some (jv ad μ (jFt ci k) kd i k))
    (hv : jv ad μ' (jFt ci f) kd i f = v) (ho : ∀ z, z ≠ f → ∀ ty, jv ad μ' ty kd i z = jv ad μ ty kd i z) : jAt D cm ad μ' H1 kd i := by
  refine jAt_obj' hs (t_OB.to (V := updV (fun k => jv ad μ (jFt ci k) kd i k) f v) ⟨_, e1, q2, q3, t_set q4 (japart hU hc) hf v⟩ (fun z _ => ?_))
  by_cases e : z = f
  · subst e
    show updV _ z v z = _
    rw [hv]
    simp [updV]
  · rw [ho z e]
    simp [updV, e]
theorem mj_putI (C : jCtx l J cc nL own R rt md hh ret thr mc ms) {idx kd i ci f : Nat} {x : Int32} (hdg : decode cc pc = .ok (.putfield idx, 3)) (hp : pc + 3 = pc') (hs : jSh kd = .inl ci) (hc : ci < 7) (hf : f < jNf ci) (hfin : (jTx ci f).2.2.2 = false) (hty : ∀ (ad : Nat → Nat → Nat) (μ' : jM), jv ad μ' (jFt ci f) kd i f = .int (mI μ' kd i f)) (h61 : kd ≠ 61) (hw : Cond.fieldLink own idx (jTx ci f).1 (jTx ci f).2.1 (jTx ci f).2.2.1 ∈ jWL) (hn9 : narrow (jFt ci f) (.int x) = .int x) (hfit : fits (jFt ci f) (.int x) = true) (hi : i < mN μ kd) (K : J pc' L st (sI μ kd i f x) k n) : J pc L (aI x :: aR kd i :: st) μ k n := by
  obtain ⟨p, e, s, m, args, below, meth, c, D, cm, ad0, μ0, Q, rfl, hx, hb, hml, hrt, hown, hlk, hU, hE⟩ := C
  subst hp
  intro ad H locs ls hT hX hS hL hs9 hl
  obtain ⟨cell, q1, q2, q3, q4⟩ := jAt_obj (hT.1 kd i h61 hi) hs
  obtain ⟨hSl, hfc, kC, hkC, hkind⟩ := hU.1.1 ci _ (jCl_at hc)
  obtain ⟨cf, kf, fi, fd, hfi, hsl⟩ := hSl f hf
  have hlay := hU.w (args := args) (jLay hc _ (u_in_lay (C := jNm ci) (T := jTx ci) hf))
  unfold u_lay at hlay
  rw [if_neg (by rw [hfin]; decide)] at hlay
  have hst := (u_facts hfc hkC (u_lays (args := args) (fun w h => hU.w h) (jLay hc) hf) hfi).1
  have h6 := u_store hfc hkC hkind hlay hfi (jTy_ok hc f hf) hn9 hfit
  refine W.putK hx hb (f := fd) ⟨hown, hU.w hw, ⟨_, _, _, hfi⟩, hst⟩ (by rw [q2]; exact h6) q1 q3 (by rw [hsl]; exact k2_hasslot (q4 f hf)) rfl rfl hdg fun H' e1 e2 e3 => ?_
  rw [hsl] at e1 ⊢
  refine K ad H' _ ls (jT_sI hT hi e2 e3 ?_) (hX.N rfl) (hS.put e2 e3 (hX.A h61 hi)) (fun v hv => jL_mono (fun _ => Nat.le_refl _) v (hL v hv)) (fun v hv => jL_mono (fun _ => Nat.le_refl _) v (jst_t (jst_t hs9) v hv)) hl
  exact jput_obj hU hc hf hs e1 q2 q3 q4 (by rw [hty, mI_sI_s]; rfl) (fun z hz ty => jv_sI (fun h => hz h.2.2))
theorem mj_putIF (C : jCtx l J cc nL own R rt 1 hh ret thr mc ms) {idx kd i ci f : Nat} {x : Int32} (hdg : decode cc pc = .ok (.putfield idx, 3)) (hp : pc + 3 = pc') (hs : jSh kd = .inl ci) (hc : ci < 7) (hf : f < jNf ci) (hfin : (jTx ci f).2.2.2 = true) (hdecl : (jTx ci f).1 = own) (hty : ∀ (ad : Nat → Nat → Nat) (μ' : jM), jv ad μ' (jFt ci f) kd i f = .int (mI μ' kd i f)) (h61 : kd ≠ 61) (hw : Cond.fieldLink own idx (jTx ci f).1 (jTx ci f).2.1 (jTx ci f).2.2.1 ∈ jWL) (hn9 : narrow (jFt ci f) (.int x) = .int x) (hfit : fits (jFt ci f) (.int x) = true) (hi : i < mN μ kd) (K : J pc' L st (sI μ kd i f x) k n) : J pc L (aI x :: aR kd i :: st) μ k n := by
  obtain ⟨p, e, s, m, args, below, meth, c, D, cm, ad0, μ0, Q, rfl, hx, hb, hml, hrt, hown, hlk, hU, hE⟩ := C
  subst hp
  intro ad H locs ls hT hX hS hL hs9 hl
  obtain ⟨cell, q1, q2, q3, q4⟩ := jAt_obj (hT.1 kd i h61 hi) hs
  obtain ⟨hSl, hfc, kC, hkC, hkind⟩ := hU.1.1 ci _ (jCl_at hc)
  obtain ⟨cf, kf, fi, fd, hfi, hsl⟩ := hSl f hf
  have hlay := hU.w (args := args) (jLay hc _ (u_in_lay (C := jNm ci) (T := jTx ci) hf))
  unfold u_lay at hlay
  rw [if_pos hfin] at hlay
  have hst := (u_facts hfc hkC (u_lays (args := args) (fun w h => hU.w h) (jLay hc) hf) hfi).1
  have hcf : m.cls = cf := by
    obtain ⟨_, _, c', _, _, _, -, -, hf', -, -, -, hown2, -⟩ := Cond.laysFinal_spec hlay
    have e1 : c' = cf := by have := hfi.symm.trans hf'; simp at this; exact this.1.symm
    rw [hdecl] at hown2
    rw [← e1]; exact Option.some.inj (hown.symm.trans hown2)
  have h6 := u_fits hfc hkC hkind (Or.inr hlay) hfi (jTy_ok hc f hf) hn9 hfit
  refine W.putFinK hx hb hown (hU.w hw) hfi hst hcf hE.1 (by rw [q2]; exact h6) q1 q3 (by rw [hsl]; exact k2_hasslot (q4 f hf)) rfl rfl hdg fun H' e1 e2 e3 => ?_
  rw [hsl] at e1 ⊢
  refine K ad H' _ ls (jT_sI hT hi e2 e3 ?_) (hX.N rfl) (hS.put e2 e3 (hX.A h61 hi)) (fun v hv => jL_mono (fun _ => Nat.le_refl _) v (hL v hv)) (fun v hv => jL_mono (fun _ => Nat.le_refl _) v (jst_t (jst_t hs9) v hv)) hl
  exact jput_obj hU hc hf hs e1 q2 q3 q4 (by rw [hty, mI_sI_s]; rfl) (fun z hz ty => jv_sI (fun h => hz h.2.2))
theorem mj_putR (C : jCtx l J cc nL own R rt md hh ret thr mc ms) {idx kd i ci f : Nat} {r : Option (Nat × Nat)} (hdg : decode cc pc = .ok (.putfield idx, 3)) (hp : pc + 3 = pc') (hs : jSh kd = .inl ci) (hc : ci < 7) (hf : f < jNf ci) (hfin : (jTx ci f).2.2.2 = false) (hty : ∀ (ad : Nat → Nat → Nat) (μ' : jM), jv ad μ' (jFt ci f) kd i f = jc ad (aO (mP μ' kd i f))) (h61 : kd ≠ 61) (hw : Cond.fieldLink own idx (jTx ci f).1 (jTx ci f).2.1 (jTx ci f).2.2.1 ∈ jWL) (hn9 : ∀ v, narrow (jFt ci f) v = v) (hfit : fits (jFt ci f) .null = true ∧ ∀ q, fits (jFt ci f) (.ref q) = true) (hi : i < mN μ kd) (K : J pc' L st (sP μ kd i f r) k n) : J pc L (aO r :: aR kd i :: st) μ k n := by
  obtain ⟨p, e, s, m, args, below, meth, c, D, cm, ad0, μ0, Q, rfl, hx, hb, hml, hrt, hown, hlk, hU, hE⟩ := C
  subst hp
  intro ad H locs ls hT hX hS hL hs9 hl
  obtain ⟨cell, q1, q2, q3, q4⟩ := jAt_obj (hT.1 kd i h61 hi) hs
  obtain ⟨hSl, hfc, kC, hkC, hkind⟩ := hU.1.1 ci _ (jCl_at hc)
  obtain ⟨cf, kf, fi, fd, hfi, hsl⟩ := hSl f hf
  have hlay := hU.w (args := args) (jLay hc _ (u_in_lay (C := jNm ci) (T := jTx ci) hf))
  unfold u_lay at hlay
  rw [if_neg (by rw [hfin]; decide)] at hlay
  have hst := (u_facts hfc hkC (u_lays (args := args) (fun w h => hU.w h) (jLay hc) hf) hfi).1
  have hfit9 : fits (jFt ci f) (jc ad (aO r)) = true := by
    cases r with
    | none => exact hfit.1
    | some q => exact hfit.2 _
  have h6 := u_store hfc hkC hkind hlay hfi (jTy_ok hc f hf) (hn9 (jc ad (aO r))) hfit9
  refine W.putK hx hb (f := fd) ⟨hown, hU.w hw, ⟨_, _, _, hfi⟩, hst⟩ (by rw [q2]; exact h6) q1 q3 (by rw [hsl]; exact k2_hasslot (q4 f hf)) rfl rfl hdg fun H' e1 e2 e3 => ?_
  rw [hsl] at e1 ⊢
  refine K ad H' _ ls (jT_sP hT hi (jst_h hs9) e2 e3 ?_) (hX.N rfl) (hS.put e2 e3 (hX.A h61 hi)) (fun v hv => jL_mono (fun _ => Nat.le_refl _) v (hL v hv)) (fun v hv => jL_mono (fun _ => Nat.le_refl _) v (jst_t (jst_t hs9) v hv)) hl
  exact jput_obj hU hc hf hs e1 q2 q3 q4 (by rw [hty, mP_sP_s]) (fun z hz ty => jv_sP (fun h => hz h.2.2))
theorem mj_putRF (C : jCtx l J cc nL own R rt 1 hh ret thr mc ms) {idx kd i ci f : Nat} {r : Option (Nat × Nat)} (hdg : decode cc pc = .ok (.putfield idx, 3)) (hp : pc + 3 = pc') (hs : jSh kd = .inl ci) (hc : ci < 7) (hf : f < jNf ci) (hfin : (jTx ci f).2.2.2 = true) (hdecl : (jTx ci f).1 = own) (hty : ∀ (ad : Nat → Nat → Nat) (μ' : jM), jv ad μ' (jFt ci f) kd i f = jc ad (aO (mP μ' kd i f))) (h61 : kd ≠ 61) (hw : Cond.fieldLink own idx (jTx ci f).1 (jTx ci f).2.1 (jTx ci f).2.2.1 ∈ jWL) (hn9 : ∀ v, narrow (jFt ci f) v = v) (hfit : fits (jFt ci f) .null = true ∧ ∀ q, fits (jFt ci f) (.ref q) = true) (hi : i < mN μ kd) (K : J pc' L st (sP μ kd i f r) k n) : J pc L (aO r :: aR kd i :: st) μ k n := by
  obtain ⟨p, e, s, m, args, below, meth, c, D, cm, ad0, μ0, Q, rfl, hx, hb, hml, hrt, hown, hlk, hU, hE⟩ := C
  subst hp
  intro ad H locs ls hT hX hS hL hs9 hl
  obtain ⟨cell, q1, q2, q3, q4⟩ := jAt_obj (hT.1 kd i h61 hi) hs
  obtain ⟨hSl, hfc, kC, hkC, hkind⟩ := hU.1.1 ci _ (jCl_at hc)
  obtain ⟨cf, kf, fi, fd, hfi, hsl⟩ := hSl f hf
  have hlay := hU.w (args := args) (jLay hc _ (u_in_lay (C := jNm ci) (T := jTx ci) hf))
  unfold u_lay at hlay
  rw [if_pos hfin] at hlay
  have hst := (u_facts hfc hkC (u_lays (args := args) (fun w h => hU.w h) (jLay hc) hf) hfi).1
  have hcf : m.cls = cf := by
    obtain ⟨_, _, c', _, _, _, -, -, hf', -, -, -, hown2, -⟩ := Cond.laysFinal_spec hlay
    have e1 : c' = cf := by have := hfi.symm.trans hf'; simp at this; exact this.1.symm
    rw [hdecl] at hown2
    rw [← e1]; exact Option.some.inj (hown.symm.trans hown2)
  have hfit9 : fits (jFt ci f) (jc ad (aO r)) = true := by
    cases r with
    | none => exact hfit.1
    | some q => exact hfit.2 _
  have h6 := u_fits hfc hkC hkind (Or.inr hlay) hfi (jTy_ok hc f hf) (hn9 (jc ad (aO r))) hfit9
  refine W.putFinK hx hb hown (hU.w hw) hfi hst hcf hE.1 (by rw [q2]; exact h6) q1 q3 (by rw [hsl]; exact k2_hasslot (q4 f hf)) rfl rfl hdg fun H' e1 e2 e3 => ?_
  rw [hsl] at e1 ⊢
  refine K ad H' _ ls (jT_sP hT hi (jst_h hs9) e2 e3 ?_) (hX.N rfl) (hS.put e2 e3 (hX.A h61 hi)) (fun v hv => jL_mono (fun _ => Nat.le_refl _) v (hL v hv)) (fun v hv => jL_mono (fun _ => Nat.le_refl _) v (jst_t (jst_t hs9) v hv)) hl
  exact jput_obj hU hc hf hs e1 q2 q3 q4 (by rw [hty, mP_sP_s]) (fun z hz ty => jv_sP (fun h => hz h.2.2))
/-! rows' elements -/
theorem jin {j N : Nat} (h : j < N) (hN : N < 2 ^ 31) (cI : ClassId) (f : Nat → Value) : ¬ (nI j < 0 ∨ (arrV cI N f).slots.size ≤ (nI j).toNatClampNeg) := by
  rw [arrV_size]
  exact nI_in h hN
theorem mj_iald (C : jCtx l J cc nL own R rt md hh ret thr mc ms) {kd i N j : Nat} {x : Int32} (hdg : decode cc pc = .ok (.iaload, 1)) (hp : pc + 1 = pc') (hs : jSh kd = .inr (.int, N)) (h61 : kd ≠ 61) (hN : N < 2 ^ 31) (hi : i < mN μ kd) (hx9 : x = nI j) (hj : j < N) (K : J pc' L (aI (mI μ kd i j) :: st) μ k n) : J pc L (aI x :: aR kd i :: st) μ k n := by
  obtain ⟨p, e, s, m, args, below, meth, c, D, cm, ad0, μ0, Q, rfl, hx, hb, hml, hrt, hown, hlk, hU, hE⟩ := C
  subst hp
  subst hx9
  intro ad H locs ls hT hX hS hL hs9 hl
  have hat := jAt_row (hT.1 kd i h61 hi) hs
  exact W.iald (v := .int (mI μ kd i j)) hx hb hat ((hU.1.2 .int (by simp [jTys])).1 N _) (fun q => by cases q) (jin hj hN _ _) (by rw [nI_clamp (Nat.lt_trans hj hN), arrV_read _ _ hj]; rfl) rfl rfl hdg (K ad H locs ls hT hX hS hL (jst_c trivial (jst_t (jst_t hs9))) hl)
theorem mj_zald (C : jCtx l J cc nL own R rt md hh ret thr mc ms) {kd i N j : Nat} {x : Int32} (hdg : decode cc pc = .ok (.baload, 1)) (hp : pc + 1 = pc') (hs : jSh kd = .inr (.boolean, N)) (h61 : kd ≠ 61) (hN : N < 2 ^ 31) (hi : i < mN μ kd) (hx9 : x = nI j) (hj : j < N) (K : J pc' L (aI (mI μ kd i j) :: st) μ k n) : J pc L (aI x :: aR kd i :: st) μ k n := by
  obtain ⟨p, e, s, m, args, below, meth, c, D, cm, ad0, μ0, Q, rfl, hx, hb, hml, hrt, hown, hlk, hU, hE⟩ := C
  subst hp
  subst hx9
  intro ad H locs ls hT hX hS hL hs9 hl
  have hat := jAt_row (hT.1 kd i h61 hi) hs
  exact W.zald (v := .int (mI μ kd i j)) hx hb hat ((hU.1.2 .boolean (by simp [jTys])).1 N _) (fun q => by cases q) (jin hj hN _ _) (by rw [nI_clamp (Nat.lt_trans hj hN), arrV_read _ _ hj]; rfl) rfl rfl hdg (K ad H locs ls hT hX hS hL (jst_c trivial (jst_t (jst_t hs9))) hl)
theorem mj_lald (C : jCtx l J cc nL own R rt md hh ret thr mc ms) {kd i N j : Nat} {x : Int32} (hdg : decode cc pc = .ok (.laload, 1)) (hp : pc + 1 = pc') (hs : jSh kd = .inr (.long, N)) (h61 : kd ≠ 61) (hN : N < 2 ^ 31) (hi : i < mN μ kd) (hx9 : x = nI j) (hj : j < N) (K : J pc' L (aL (mG μ kd i j) :: st) μ k n) : J pc L (aI x :: aR kd i :: st) μ k n := by
  obtain ⟨p, e, s, m, args, below, meth, c, D, cm, ad0, μ0, Q, rfl, hx, hb, hml, hrt, hown, hlk, hU, hE⟩ := C
  subst hp
  subst hx9
  intro ad H locs ls hT hX hS hL hs9 hl
  have hat := jAt_row (hT.1 kd i h61 hi) hs
  exact W.lald (v := .long (mG μ kd i j)) hx hb hat ((hU.1.2 .long (by simp [jTys])).1 N _) (fun q => by cases q) (jin hj hN _ _) (by rw [nI_clamp (Nat.lt_trans hj hN), arrV_read _ _ hj]; rfl) rfl rfl hdg (K ad H locs ls hT hX hS hL (jst_c trivial (jst_t (jst_t hs9))) hl)
theorem mj_aald (C : jCtx l J cc nL own R rt md hh ret thr mc ms) {kd i N j : Nat} {x : Int32} {ty : FieldType} {r : Option (Nat × Nat)} (hdg : decode cc pc = .ok (.aaload, 1)) (hp : pc + 1 = pc') (hs : jSh kd = .inr (ty, N)) (hmem : ty ∈ jTys) (href : ty.isReference = true) (hty : ∀ ad z, jv ad μ ty kd i z = jc ad (aO (mP μ kd i z))) (h61 : kd ≠ 61) (hN : N < 2 ^ 31) (hi : i < mN μ kd) (hx9 : x = nI j) (hj : j < N) (hr : mP μ kd i j = r) (K : J pc' L (aO r :: st) μ k n) : J pc L (aI x :: aR kd i :: st) μ k n := by
  obtain ⟨p, e, s, m, args, below, meth, c, D, cm, ad0, μ0, Q, rfl, hx, hb, hml, hrt, hown, hlk, hU, hE⟩ := C
  subst hp
  subst hx9
  subst hr
  intro ad H locs ls hT hX hS hL hs9 hl
  have hat := jAt_row (hT.1 kd i h61 hi) hs
  exact W.aald (v := jc ad (aO (mP μ kd i j))) (ty := ty) hx hb hat ((hU.1.2 ty hmem).1 N _) href (fun q => by cases q) (jin hj hN _ _) (by rw [nI_clamp (Nat.lt_trans hj hN), arrV_read _ _ hj, hty ad j]) rfl rfl hdg (K ad H locs ls hT hX hS hL (jst_c (jL_O (fun q hq => hT.2.2.1 kd i j q hi hq)) (jst_t (jst_t hs9))) hl)
/-- an element is written: the row behind it -/
theorem jput_row {D : va_G} {cm : FieldType → ClassId} {ad : Nat → Nat → Nat} {μ' : jM} {kd i N j : Nat} {ty : FieldType} (hs : jSh kd = .inr (ty, N)) {H1 : Heap} {v : Value} (e1 : H1[ad kd i]? = some ((arrV (cm ty) N (fun k => jv ad μ ty kd i k)).setSlot j v)) (hv : jv ad μ' ty kd i j = v) (ho : ∀ z, z ≠ j → jv ad μ' ty kd i z = jv ad μ ty kd i z) : jAt D cm ad μ' H1 kd i := by
  refine jAt_row' hs ?_
  rw [e1, arrV_store]
  refine congrArg some (congrArg (arrV (cm ty) N) (funext fun z => ?_))
  by_cases e : z = j
  · subst e
    rw [hv]
    simp [updV]
  · rw [ho z e]
    simp [updV, e]
theorem mj_iast (C : jCtx l J cc nL own R rt md hh ret thr mc ms) {kd i N j : Nat} {x v : Int32} (hdg : decode cc pc = .ok (.iastore, 1)) (hp : pc + 1 = pc') (hs : jSh kd = .inr (.int, N)) (h61 : kd ≠ 61) (hN : N < 2 ^ 31) (hi : i < mN μ kd) (hx9 : x = nI j) (hj : j < N) (K : J pc' L st (sI μ kd i j v) k n) : J pc L (aI v :: aI x :: aR kd i :: st) μ k n := by
  obtain ⟨p, e, s, m, args, below, meth, c, D, cm, ad0, μ0, Q, rfl, hx, hb, hml, hrt, hown, hlk, hU, hE⟩ := C
  subst hp
  subst hx9
  intro ad H locs ls hT hX hS hL hs9 hl
  have hat := jAt_row (hT.1 kd i h61 hi) hs
  refine W.iast hx hb hat ((hU.1.2 .int (by simp [jTys])).1 N _) (fun q => by cases q) (jin hj hN _ _) rfl rfl hdg fun H1 e1 z oq => ?_
  rw [nI_clamp (Nat.lt_trans hj hN)] at e1 ⊢
  exact K ad H1 _ ls (jT_sI hT hi z oq (jput_row hs e1 (by show Value.int _ = _; rw [mI_sI_s]) (fun z hz => jv_sI (fun h => hz h.2.2)))) (hX.N rfl) (hS.put z oq (hX.A h61 hi)) (fun v hv => jL_mono (fun _ => Nat.le_refl _) v (hL v hv)) (fun v hv => jL_mono (fun _ => Nat.le_refl _) v (jst_t (jst_t (jst_t hs9)) v hv)) hl
theorem mj_zast (C : jCtx l J cc nL own R rt md hh ret thr mc ms) {kd i N j : Nat} {x v : Int32} (hdg : decode cc pc = .ok (.bastore, 1)) (hp : pc + 1 = pc') (hs : jSh kd = .inr (.boolean, N)) (h61 : kd ≠ 61) (hN : N < 2 ^ 31) (hv : v &&& 1 = v) (hi : i < mN μ kd) (hx9 : x = nI j) (hj : j < N) (K : J pc' L st (sI μ kd i j v) k n) : J pc L (aI v :: aI x :: aR kd i :: st) μ k n := by
  obtain ⟨p, e, s, m, args, below, meth, c, D, cm, ad0, μ0, Q, rfl, hx, hb, hml, hrt, hown, hlk, hU, hE⟩ := C
  subst hp
  subst hx9
  intro ad H locs ls hT hX hS hL hs9 hl
  have hat := jAt_row (hT.1 kd i h61 hi) hs
  refine W.zast hx hb hat ((hU.1.2 .boolean (by simp [jTys])).1 N _) (fun q => by cases q) (jin hj hN _ _) rfl rfl hdg fun H1 e1 z oq => ?_
  have hn : narrow .boolean (.int v) = .int v := by show Value.int (v &&& 1) = _; rw [hv]
  rw [nI_clamp (Nat.lt_trans hj hN), hn] at e1
  rw [nI_clamp (Nat.lt_trans hj hN)]
  exact K ad H1 _ ls (jT_sI hT hi z oq (jput_row hs e1 (by show Value.int _ = _; rw [mI_sI_s]) (fun z hz => jv_sI (fun h => hz h.2.2)))) (hX.N rfl) (hS.put z oq (hX.A h61 hi)) (fun v hv => jL_mono (fun _ => Nat.le_refl _) v (hL v hv)) (fun v hv => jL_mono (fun _ => Nat.le_refl _) v (jst_t (jst_t (jst_t hs9)) v hv)) hl
theorem mj_last (C : jCtx l J cc nL own R rt md hh ret thr mc ms) {kd i N j : Nat} {x : Int32} {v : Int64} (hdg : decode cc pc = .ok (.lastore, 1)) (hp : pc + 1 = pc') (hs : jSh kd = .inr (.long, N)) (h61 : kd ≠ 61) (hN : N < 2 ^ 31) (hi : i < mN μ kd) (hx9 : x = nI j) (hj : j < N) (K : J pc' L st (sG μ kd i j v) k n) : J pc L (aL v :: aI x :: aR kd i :: st) μ k n := by
  obtain ⟨p, e, s, m, args, below, meth, c, D, cm, ad0, μ0, Q, rfl, hx, hb, hml, hrt, hown, hlk, hU, hE⟩ := C
  subst hp
  subst hx9
  intro ad H locs ls hT hX hS hL hs9 hl
  have hat := jAt_row (hT.1 kd i h61 hi) hs
  refine W.last hx hb hat ((hU.1.2 .long (by simp [jTys])).1 N _) (fun q => by cases q) (jin hj hN _ _) rfl rfl hdg fun H1 e1 z oq => ?_
  rw [nI_clamp (Nat.lt_trans hj hN)] at e1 ⊢
  exact K ad H1 _ ls (jT_sG hT hi z oq (jput_row hs e1 (by show Value.long _ = _; rw [mG_sG, if_pos ⟨rfl, rfl, rfl⟩]) (fun z hz => jv_sG (fun h => hz h.2.2)))) (hX.N rfl) (hS.put z oq (hX.A h61 hi)) (fun v hv => jL_mono (fun _ => Nat.le_refl _) v (hL v hv)) (fun v hv => jL_mono (fun _ => Nat.le_refl _) v (jst_t (jst_t (jst_t hs9)) v hv)) hl
theorem mj_aast (C : jCtx l J cc nL own R rt md hh ret thr mc ms) {kd i N j kv iv ci : Nat} {x : Int32} (hdg : decode cc pc = .ok (.aastore, 1)) (hp : pc + 1 = pc') (hs : jSh kd = .inr (.object (jNm ci), N)) (hmem : FieldType.object (jNm ci) ∈ jTys) (hsv : jSh kv = .inl ci) (hc : ci < 7) (h61 : kd ≠ 61) (h62 : kv ≠ 61) (hN : N < 2 ^ 31) (hi : i < mN μ kd) (hiv : iv < mN μ kv) (hx9 : x = nI j) (hj : j < N) (K : J pc' L st (sP μ kd i j (some (kv, iv))) k n) : J pc L (aR kv iv :: aI x :: aR kd i :: st) μ k n := by
  obtain ⟨p, e, s, m, args, below, meth, c, D, cm, ad0, μ0, Q, rfl, hx, hb, hml, hrt, hown, hlk, hU, hE⟩ := C
  subst hp
  subst hx9
  intro ad H locs ls hT hX hS hL hs9 hl
  have hat := jAt_row (hT.1 kd i h61 hi) hs
  obtain ⟨cellV, g1, g2, g3, -⟩ := jAt_obj (hT.1 kv iv h62 hiv) hsv
  have hcls := (hU.1.1 ci _ (jCl_at hc)).2
  obtain ⟨kA, comp, k1, k2, k3, -⟩ := (hU.1.2 _ hmem).2
  have hcomp : comp = D.1 ci := Option.some.inj (k3.symm.trans hcls.1)
  subst hcomp
  obtain ⟨kC, hkC, -⟩ := hcls.2
  refine W.aast hx hb hat (fun q h => by cases h) (fun h => by cases h) k1 k2 rfl hkC ⟨nI_pos (Nat.lt_trans hj hN), by rw [arrV_size, nI_clamp (Nat.lt_trans hj hN)]; exact hj⟩ g1 (fun q h => by rw [g3] at h; cases h) (by rw [g2]; exact hkC) (by rw [g2]; exact va_assign hcls) rfl rfl hdg fun H1 e1 z oq => ?_
  rw [nI_clamp (Nat.lt_trans hj hN)] at e1 ⊢
  exact K ad H1 _ ls (jT_sP hT hi (jst_h hs9) z oq (jput_row hs e1 (by show jc ad (aO _) = _; rw [mP_sP_s]; rfl) (fun z hz => jv_sP (fun h => hz h.2.2)))) (hX.N rfl) (hS.put z oq (hX.A h61 hi)) (fun v hv => jL_mono (fun _ => Nat.le_refl _) v (hL v hv)) (fun v hv => jL_mono (fun _ => Nat.le_refl _) v (jst_t (jst_t (jst_t hs9)) v hv)) hl
end JHEAP
end
section
/-! WHAT IS MADE -/
section JMAKE
variable {l : Launch} {J : Nat → List (Option jV) → List jV → jM → Nat → Nat → Prop} {cc : ByteArray} {nL : Nat} {own : String} {R : Room} {rt : Option FieldType} {md : Nat} {hh : List (Nat × Nat × Nat × Nat)} {ret : Option jV → jM → Prop} {thr : String → jM → Prop} {mc ms : Nat}
variable {pc pc' : Nat} {L : List (Option jV)} {st : List jV} {μ : jM} {k n : Nat}
theorem jX.new {ad0 ad : Nat → Nat → Nat} {μ0 : jM} {sz kd h : Nat} (hX : jX ad0 μ0 sz ad μ) (hs : sz ≤ h) : jX ad0 μ0 sz (ua ad kd (mN μ kd) h) (nw μ kd) := by
  refine ⟨fun x => ?_, fun x y hy => ?_, fun x y h61 hy hy2 => ?_⟩
  · rw [mN_nw]
    have := hX.1 x
    split
    · rename_i e
      rw [e] at this ⊢
      omega
    · exact this
  · unfold ua
    rw [if_neg]
    · exact hX.2.1 x y hy
    · rintro ⟨rfl, rfl⟩
      have := hX.1 x
      omega
  · unfold ua
    split
    · exact hs
    · rename_i e
      refine hX.2.2 x y h61 hy ?_
      rw [mN_nw] at hy2
      split at hy2
      · rename_i e2
        subst e2
        have : y ≠ mN μ x := fun e3 => e ⟨rfl, e3⟩
        omega
      · exact hy2
theorem nw_mono (μ : jM) (kd : Nat) : ∀ x, mN μ x ≤ mN (nw μ kd) x := fun x => by
  rw [mN_nw]
  split
  · rename_i e
    rw [e]
    omega
  · exact Nat.le_refl _
theorem ua_same {ad : Nat → Nat → Nat} {kd h : Nat} : ∀ x y, y < mN μ x → ua ad kd (mN μ kd) h x y = ad x y := fun x y hy => by
  unfold ua
  rw [if_neg]
  rintro ⟨rfl, rfl⟩
  exact Nat.lt_irrefl _ hy
theorem va_S.grow {A : Nat → Prop} {H0 H H1 : Heap} {locs : List Loc} (h : va_S A H0 H locs) (z : H.size ≤ H1.size) (o : ∀ q, q < H.size → H1[q]? = H[q]?) : va_S A H0 H1 locs :=
  ⟨Nat.le_trans h.1 z, fun q h1 h2 => (o q (Nat.lt_of_lt_of_le h1 h.1)).trans (h.2.1 q h1 h2), h.2.2⟩
theorem jv_new {ad : Nat → Nat → Nat} {kd f : Nat} (ty : FieldType) (h1 : ty ≠ .float) (h2 : ty ≠ .double) : jv ad (nw μ kd) ty kd (mN μ kd) f = defaultValue ty := by
  have q1 : mI (nw μ kd) kd (mN μ kd) f = 0 := by rw [mI_nw, if_pos ⟨rfl, Nat.le_refl _⟩]
  have q2 : mP (nw μ kd) kd (mN μ kd) f = none := by rw [mP_nw, if_pos ⟨rfl, Nat.le_refl _⟩]
  have q3 : mG (nw μ kd) kd (mN μ kd) f = 0 := by rw [mG_nw, if_pos ⟨rfl, Nat.le_refl _⟩]
  unfold jv
  cases ty <;> simp_all [defaultValue, jc]
theorem mj_newa (C : jCtx l J cc nL own R rt md hh ret thr mc ms) {at9 : ArrayType} {ty : FieldType} {kd N : Nat} {x : Int32} (hdg : decode cc pc = .ok (.newarray at9, 2)) (hp : pc + 2 = pc') (hty : newarray.typeOf at9 = ty) (hs : jSh kd = .inr (ty, N)) (h61 : kd ≠ 61) (hmem : ty ∈ jTys) (hd : ty ≠ .float ∧ ty ≠ .double ∧ ∀ C9, ty ≠ .object C9) (hN : N < 2 ^ 31) (hx9 : x = nI N) (hw : Cond.arrayClass ty ∈ jWL) (hb9 : N * componentBytes ty ≤ 536870912) (hk : k + 1 ≤ R.cells) (hn : n + N ≤ R.slots)
    (K : J pc' L (aR kd (mN μ kd) :: st) (nw μ kd) (k + 1) (n + N)) : J pc L (aI x :: st) μ k n := by
  obtain ⟨p, e, s, m, args, below, meth, c, D, cm, ad0, μ0, Q, rfl, hx, hb, hml, hrt, hown, hlk, hU, hE⟩ := C
  subst hp
  subst hx9
  subst hty
  intro ad H locs ls hT hX hS hL hs9 hl
  refine va_newaK hx hb (hU.w hw) rfl hdg rfl (nI_pos hN) (nI_clamp hN) hb9 hk hn rfl fun H' cA f1 f2 f3 f4 f5 => ?_
  have hcA : cA = cm (newarray.typeOf at9) := by
    have h9 := (hU.1.2 _ hmem).2
    generalize newarray.typeOf at9 = ty at h9 f5 hd
    unfold va_RA at h9
    split at h9
    · rename_i C9
      exact absurd rfl (hd.2.2 C9)
    · exact Option.some.inj (f5.symm.trans h9)
  subst hcA
  have hst : aR kd (mN μ kd) :: st = aR kd (mN μ kd) :: st := rfl
  have hu := ua_same (μ := μ) (ad := ad) (kd := kd) (h := H.size)
  have hT' : jT D cm (ua ad kd (mN μ kd) H.size) (nw μ kd) H' := hT.push f2 f3 h61 (jAt_row' hs (by
    have e0 : ua ad kd (mN μ kd) H.size kd (mN μ kd) = H.size := if_pos ⟨rfl, rfl⟩
    rw [e0, f1]
    refine congrArg some (congrArg (arrV _ N) (funext fun z => (jv_new _ hd.1 hd.2.1).symm))))
  have k0 := K (ua ad kd (mN μ kd) H.size) H' locs ls hT' (hX.new hS.1) (hS.grow (by omega) f3) (fun v hv => jL_mono (nw_mono μ kd) v (hL v hv)) (jst_c (by show mN μ kd < mN (nw μ kd) kd; rw [mN_nw, if_pos rfl]; omega) (fun v hv => jL_mono (nw_mono μ kd) v (jst_t hs9 v hv))) (by rw [jLs_same hu L 0 hL]; exact hl)
  have e1 : (aR kd (mN μ kd) :: st).map (jc (ua ad kd (mN μ kd) H.size)) = .ref H.size :: st.map (jc ad) := by
    rw [List.map_cons, jcs_same hu (jst_t hs9)]
    refine congrArg (· :: _) ?_
    show Value.ref (ua ad kd (mN μ kd) H.size kd (mN μ kd)) = _
    rw [show ua ad kd (mN μ kd) H.size kd (mN μ kd) = H.size from if_pos ⟨rfl, rfl⟩]
  rw [e1] at k0
  exact k0
theorem mj_newr (C : jCtx l J cc nL own R rt md hh ret thr mc ms) {idx ci kd N : Nat} {x : Int32} (hdg : decode cc pc = .ok (.anewarray idx, 3)) (hp : pc + 3 = pc') (hs : jSh kd = .inr (.object (jNm ci), N)) (h61 : kd ≠ 61) (hmem : FieldType.object (jNm ci) ∈ jTys) (ho : ∀ U, jOver U → va_AO (jNm ci) U) (hN : N < 2 ^ 31) (hx9 : x = nI N) (hw : Cond.classLink own idx (jNm ci) ∈ jWL) (hb9 : N * 4 ≤ 536870912) (hk : k + 1 ≤ R.cells) (hn : n + N ≤ R.slots)
    (K : J pc' L (aR kd (mN μ kd) :: st) (nw μ kd) (k + 1) (n + N)) : J pc L (aI x :: st) μ k n := by
  obtain ⟨p, e, s, m, args, below, meth, c, D, cm, ad0, μ0, Q, rfl, hx, hb, hml, hrt, hown, hlk, hU, hE⟩ := C
  subst hp
  subst hx9
  intro ad H locs ls hT hX hS hL hs9 hl
  refine W.anew hx hb hown (hU.w hw) (va_AO.use (ho s hU.2.2.1)) rfl hdg rfl (nI_pos hN) (by rw [nI_clamp hN]; exact hb9) hk (by rw [nI_clamp hN]; exact hn) fun cA kA comp f1 f2 f3 f4 => ?_
  rw [nI_clamp hN]
  have hcA : cA = cm (.object (jNm ci)) := by
    obtain ⟨_, _, _, _, _, h9⟩ := (hU.1.2 _ hmem).2
    exact Option.some.inj (f1.symm.trans h9)
  subst hcA
  have hu := ua_same (μ := μ) (ad := ad) (kd := kd) (h := H.size)
  have hz : (H.push ({ cls := cm (.object (jNm ci)), slots := Array.replicate N .null, vm := .none } : Cell)).size = H.size + 1 := Array.size_push ..
  have f3 : ∀ q : Nat, q < H.size → (H.push ({ cls := cm (.object (jNm ci)), slots := Array.replicate N .null, vm := .none } : Cell))[q]? = H[q]? := fun q hq => by rw [Array.getElem?_push, if_neg (Nat.ne_of_lt hq)]
  have f0 : (H.push ({ cls := cm (.object (jNm ci)), slots := Array.replicate N .null, vm := .none } : Cell))[H.size]? = some (arrV (cm (.object (jNm ci))) N (fun _ => .null)) := by rw [← arrV_new]; simp
  generalize H.push ({ cls := cm (.object (jNm ci)), slots := Array.replicate N .null, vm := .none } : Cell) = H' at hz f3 f0
  have hT' : jT D cm (ua ad kd (mN μ kd) H.size) (nw μ kd) H' := hT.push hz f3 h61 (jAt_row' hs (by
    have e0 : ua ad kd (mN μ kd) H.size kd (mN μ kd) = H.size := if_pos ⟨rfl, rfl⟩
    rw [e0, f0]
    refine congrArg some (congrArg (arrV _ N) (funext fun z => (jv_new (FieldType.object (jNm ci)) (fun h => by cases h) (fun h => by cases h)).symm))))
  have k0 := K (ua ad kd (mN μ kd) H.size) H' locs ls hT' (hX.new hS.1) (hS.grow (by omega) f3) (fun v hv => jL_mono (nw_mono μ kd) v (hL v hv)) (jst_c (by show mN μ kd < mN (nw μ kd) kd; rw [mN_nw, if_pos rfl]; omega) (fun v hv => jL_mono (nw_mono μ kd) v (jst_t hs9 v hv))) (by rw [jLs_same hu L 0 hL]; exact hl)
  have e1 : (aR kd (mN μ kd) :: st).map (jc (ua ad kd (mN μ kd) H.size)) = .ref H.size :: st.map (jc ad) := by
    rw [List.map_cons, jcs_same hu (jst_t hs9)]
    refine congrArg (· :: _) ?_
    show Value.ref (ua ad kd (mN μ kd) H.size kd (mN μ kd)) = _
    rw [show ua ad kd (mN μ kd) H.size kd (mN μ kd) = H.size from if_pos ⟨rfl, rfl⟩]
  rw [e1] at k0
  exact k0
theorem jFt_nf {ci : Nat} (h : ci < 7) : ∀ f, f < jNf ci → jFt ci f ≠ .float ∧ jFt ci f ≠ .double := by
  rcases (show ci = 0 ∨ ci = 1 ∨ ci = 2 ∨ ci = 3 ∨ ci = 4 ∨ ci = 5 ∨ ci = 6 by omega) with rfl | rfl | rfl | rfl | rfl | rfl | rfl <;> decide +kernel
theorem mj_new (C : jCtx l J cc nL own R rt md hh ret thr mc ms) {idx ci kd : Nat} (hdg : decode cc pc = .ok (.new idx, 3)) (hp : pc + 3 = pc') (hs : jSh kd = .inl ci) (hc : ci < 7) (h61 : kd ≠ 61) (hw1 : Cond.classLink own idx (jNm ci) ∈ jWL) (hw2 : Cond.instantiable (jNm ci) (jNf ci) ∈ jWL) (hw3 : Cond.initialized (jNm ci) ∈ jWL) (hk : k + 1 ≤ R.cells) (hn : n + jNf ci ≤ R.slots)
    (K : J pc' L (aR kd (mN μ kd) :: st) (nw μ kd) (k + 1) (n + jNf ci)) : J pc L st μ k n := by
  obtain ⟨p, e, s, m, args, below, meth, c, D, cm, ad0, μ0, Q, rfl, hx, hb, hml, hrt, hown, hlk, hU, hE⟩ := C
  subst hp
  intro ad H locs ls hT hX hS hL hs9 hl
  have hKn := hU.1.1 ci _ (jCl_at hc)
  refine W.newcK hx hb hown (hU.w hw1) (hU.w hw2) (hU.w hw3) rfl hdg hk hn hKn.2.1 rfl fun H' kC hkC f1 f2 f3 => ?_
  have hu := ua_same (μ := μ) (ad := ad) (kd := kd) (h := H.size)
  have hob := u_born (jFt ci) (ws := jWL) (args := args) (fun w h => hU.w h) (jLay hc) hKn hkC f1 (jTy_ok hc)
  have hT' : jT D cm (ua ad kd (mN μ kd) H.size) (nw μ kd) H' := hT.push f2 f3 h61 (jAt_obj' hs (by
    have e0 : ua ad kd (mN μ kd) H.size kd (mN μ kd) = H.size := if_pos ⟨rfl, rfl⟩
    rw [e0]
    exact hob.to (fun z hz => (jv_new _ (jFt_nf hc z hz).1 (jFt_nf hc z hz).2).symm)))
  have k0 := K (ua ad kd (mN μ kd) H.size) H' locs ls hT' (hX.new hS.1) (hS.grow (by omega) f3) (fun v hv => jL_mono (nw_mono μ kd) v (hL v hv)) (jst_c (by show mN μ kd < mN (nw μ kd) kd; rw [mN_nw, if_pos rfl]; omega) (fun v hv => jL_mono (nw_mono μ kd) v (hs9 v hv))) (by rw [jLs_same hu L 0 hL]; exact hl)
  have e1 : (aR kd (mN μ kd) :: st).map (jc (ua ad kd (mN μ kd) H.size)) = .ref H.size :: st.map (jc ad) := by
    rw [List.map_cons, jcs_same hu hs9]
    refine congrArg (· :: _) ?_
    show Value.ref (ua ad kd (mN μ kd) H.size kd (mN μ kd)) = _
    rw [show ua ad kd (mN μ kd) H.size kd (mN μ kd) = H.size from if_pos ⟨rfl, rfl⟩]
  rw [e1] at k0
  exact k0
theorem mj_objInit (C : jCtx l J cc nL own R rt md hh ret thr mc ms) {idx kd i : Nat} (hdg : decode cc pc = .ok (.invokespecial idx, 3)) (hp : pc + 3 = pc') (hw1 : Cond.methodLink own idx Lib.objectInit ∈ jWL) (hw2 : Cond.instanceMethod Lib.objectInit ∈ jWL) (hw3 : Cond.code Lib.objectInit ⟨#[0xb1]⟩ 1 none ∈ jWL) (hf : 1 ≤ R.frames) (hlo : (st.map jcat).sum + 12 ≤ R.locals) (K : J pc' L st μ k n) : J pc L (aR kd i :: st) μ k n := by
  obtain ⟨p, e, s, m, args, below, meth, c, D, cm, ad0, μ0, Q, rfl, hx, hb, hml, hrt, hown, hlk, hU, hE⟩ := C
  subst hp
  intro ad H locs ls hT hX hS hL hs9 hl
  refine W.objInit hx hb hown (hU.w hw1) (hU.w hw2) (hU.w hw3) rfl (hl.1.trans hml.symm) rfl hdg hf ?_ (K ad H locs ls hT hX hS hL (jst_t hs9) hl)
  rw [jc_cats]
  show 2 * 0 + _ + 12 ≤ _
  omega
/-! new T[n][m] -/
def uam (ad : Nat → Nat → Nat) (kO iO kI iI h : Nat) : Nat → Nat → Nat := fun x y => if x = kO ∧ y = iO then h else if x = kI ∧ iI ≤ y then h + 1 + (y - iI) else ad x y
theorem mN_nwm (μ : jM) (a r c x : Nat) (hne : a ≠ r) : mN (nwm μ a r c) x = if x = r then mN μ r + c else if x = a then mN μ a + 1 else mN μ x := by
  show up1 (up1 (mN μ) a (mN μ a + 1)) r (mN μ r + c) x = _
  unfold up1
  rfl
theorem mI_nwm (μ : jM) (a r c x y z : Nat) : mI (nwm μ a r c) x y z = if x = r ∧ mN μ r ≤ y then 0 else if x = a ∧ mN μ a ≤ y then 0 else mI μ x y z := rfl
theorem mG_nwm (μ : jM) (a r c x y z : Nat) : mG (nwm μ a r c) x y z = if x = r ∧ mN μ r ≤ y then 0 else if x = a ∧ mN μ a ≤ y then 0 else mG μ x y z := rfl
theorem mP_nwm (μ : jM) (a r c x y z : Nat) : mP (nwm μ a r c) x y z = if x = a ∧ y = mN μ a ∧ z < c then some (r, mN μ r + z) else if x = r ∧ mN μ r ≤ y then none else if x = a ∧ mN μ a ≤ y then none else mP μ x y z := rfl
theorem nwm_mono (μ : jM) (a r c : Nat) (hne : a ≠ r) : ∀ x, mN μ x ≤ mN (nwm μ a r c) x := fun x => by
  rw [mN_nwm μ a r c x hne]
  split
  · rename_i e; rw [e]; omega
  · split
    · rename_i e; rw [e]; omega
    · omega
theorem uam_same {ad : Nat → Nat → Nat} {a r h : Nat} : ∀ x y, y < mN μ x → uam ad a (mN μ a) r (mN μ r) h x y = ad x y := fun x y hy => by
  unfold uam
  rw [if_neg, if_neg]
  · rintro ⟨rfl, h9⟩
    omega
  · rintro ⟨rfl, rfl⟩
    exact Nat.lt_irrefl _ hy
theorem jT.pushm {D : va_G} {cm : FieldType → ClassId} {ad : Nat → Nat → Nat} {H H1 : Heap} {a r c : Nat} (hT : jT D cm ad μ H) (hne : a ≠ r) (hz : H1.size = H.size + 1 + c) (oq : ∀ q : Nat, q < H.size → H1[q]? = H[q]?)
    (hO : jAt D cm (uam ad a (mN μ a) r (mN μ r) H.size) (nwm μ a r c) H1 a (mN μ a)) (hI : ∀ j, j < c → jAt D cm (uam ad a (mN μ a) r (mN μ r) H.size) (nwm μ a r c) H1 r (mN μ r + j)) : jT D cm (uam ad a (mN μ a) r (mN μ r) H.size) (nwm μ a r c) H1 := by
  obtain ⟨h1, h2, h3, h4⟩ := hT
  have hu := uam_same (μ := μ) (ad := ad) (a := a) (r := r) (h := H.size)
  have key : ∀ x y, y < mN (nwm μ a r c) x → (y < mN μ x ∧ uam ad a (mN μ a) r (mN μ r) H.size x y = ad x y ∧ ad x y < H.size) ∨ (x = a ∧ y = mN μ a ∧ uam ad a (mN μ a) r (mN μ r) H.size x y = H.size) ∨ (x = r ∧ ∃ j, j < c ∧ y = mN μ r + j ∧ uam ad a (mN μ a) r (mN μ r) H.size x y = H.size + 1 + j) := fun x y hy => by
    by_cases e : y < mN μ x
    · exact Or.inl ⟨e, hu x y e, h4 x y e⟩
    · rw [mN_nwm μ a r c x hne] at hy
      split at hy
      · rename_i e2
        subst e2
        refine Or.inr (Or.inr ⟨rfl, y - mN μ x, by omega, by omega, ?_⟩)
        unfold uam
        rw [if_neg (fun h => hne h.1.symm), if_pos ⟨rfl, by omega⟩]
      · split at hy
        · rename_i e2
          subst e2
          refine Or.inr (Or.inl ⟨rfl, by omega, ?_⟩)
          unfold uam
          rw [if_pos ⟨rfl, by omega⟩]
        · exact absurd hy e
  refine ⟨fun x y hx hy => ?_, fun x y x2 y2 ha hb hab => ?_, fun x y k q hy hq => ?_, fun x y hy => ?_⟩
  · rcases key x y hy with ⟨g1, g2, g3⟩ | ⟨rfl, rfl, -⟩ | ⟨rfl, j, hj, rfl, -⟩
    · refine ((h1 x y hx g1).kept (oq _ g3)).to g2 (fun ty k => ?_)
      have e1 : ¬ (x = r ∧ mN μ r ≤ y) := by rintro ⟨rfl, h9⟩; omega
      have e2 : ¬ (x = a ∧ mN μ a ≤ y) := by rintro ⟨rfl, h9⟩; omega
      have e3 : ¬ (x = a ∧ y = mN μ a ∧ k < c) := by rintro ⟨rfl, rfl, h9⟩; omega
      have q1 : mI (nwm μ a r c) x y k = mI μ x y k := by rw [mI_nwm, if_neg e1, if_neg e2]
      have q2 : mP (nwm μ a r c) x y k = mP μ x y k := by rw [mP_nwm, if_neg e3, if_neg e1, if_neg e2]
      have q3 : mG (nwm μ a r c) x y k = mG μ x y k := by rw [mG_nwm, if_neg e1, if_neg e2]
      have q4 := jc_same (μ := μ) hu (aO (mP μ x y k)) (jL_O (fun q hq => h3 x y k q g1 hq))
      unfold jv
      cases ty <;> simp [q1, q2, q3, q4]
    · exact hO
    · exact hI j hj
  · rcases key x y ha with ⟨g1, g2, g3⟩ | ⟨rfl, rfl, g3⟩ | ⟨rfl, j, hj, rfl, g3⟩ <;> rcases key x2 y2 hb with ⟨f1, f2, f3⟩ | ⟨rfl, rfl, f3⟩ | ⟨rfl, j2, hj2, rfl, f3⟩
    · rw [g2, f2] at hab
      exact h2 x y x2 y2 g1 f1 hab
    · rw [g2, f3] at hab
      omega
    · rw [g2, f3] at hab
      omega
    · rw [g3, f2] at hab
      omega
    · exact ⟨rfl, rfl⟩
    · rw [g3, f3] at hab
      omega
    · rw [g3, f2] at hab
      omega
    · rw [g3, f3] at hab
      omega
    · rw [g3, f3] at hab
      exact ⟨rfl, by omega⟩
  · have hmono := nwm_mono μ a r c hne
    rw [mP_nwm] at hq
    split at hq
    · rename_i e
      cases hq
      show mN μ r + k < mN (nwm μ a r c) r
      rw [mN_nwm μ a r c r hne, if_pos rfl]
      omega
    · split at hq
      · cases hq
      · split at hq
        · cases hq
        · rename_i e1 e2 e3
          have hy2 : y < mN μ x := by
            rcases key x y hy with ⟨g1, -⟩ | ⟨g1, g2, -⟩ | ⟨g1, j, -, g2, -⟩
            · exact g1
            · exact absurd ⟨g1, by omega⟩ e3
            · exact absurd ⟨g1, by omega⟩ e2
          exact Nat.lt_of_lt_of_le (h3 x y k q hy2 hq) (hmono q.1)
  · rw [hz]
    rcases key x y hy with ⟨g1, g2, g3⟩ | ⟨rfl, rfl, g3⟩ | ⟨rfl, j, hj, rfl, g3⟩
    · rw [g2]; omega
    · rw [g3]; omega
    · rw [g3]; omega
theorem jX.newm {ad0 ad : Nat → Nat → Nat} {μ0 : jM} {sz a r c h : Nat} (hX : jX ad0 μ0 sz ad μ) (hne : a ≠ r) (hs : sz ≤ h) : jX ad0 μ0 sz (uam ad a (mN μ a) r (mN μ r) h) (nwm μ a r c) := by
  refine ⟨fun x => Nat.le_trans (hX.1 x) (nwm_mono μ a r c hne x), fun x y hy => ?_, fun x y h61 hy hy2 => ?_⟩
  · rw [uam_same x y (Nat.lt_of_lt_of_le hy (hX.1 x))]
    exact hX.2.1 x y hy
  · by_cases e : y < mN μ x
    · rw [uam_same x y e]
      exact hX.2.2 x y h61 hy e
    · unfold uam
      split
      · exact hs
      · split
        · omega
        · rename_i e1 e2
          rw [mN_nwm μ a r c x hne] at hy2
          split at hy2
          · rename_i e3
            subst e3
            exact absurd ⟨rfl, by omega⟩ e2
          · split at hy2
            · rename_i e3
              subst e3
              exact absurd ⟨rfl, by omega⟩ e1
            · exact absurd hy2 e
theorem mj_mnew (C : jCtx l J cc nL own R rt md hh ret thr mc ms) {idx a r N M : Nat} {x y : Int32} (hdg : decode cc pc = .ok (.multianewarray idx 2, 4)) (hp : pc + 4 = pc') (hsO : jSh a = .inr (.array .int, N)) (hsI : jSh r = .inr (.int, M)) (hne : a ≠ r) (hN : N < 2 ^ 20) (hM : M < 2 ^ 20) (hx9 : x = nI N) (hy9 : y = nI M) (hw1 : Cond.classLink own idx ("[" ++ (FieldType.array .int).toString) ∈ jWL) (hw2 : Cond.arrayClass .int ∈ jWL) (hk : k + (1 + N) ≤ R.cells) (hn : n + (N + N * M) ≤ R.slots)
    (K : J pc' L (aR a (mN μ a) :: st) (nwm μ a r N) (k + 1 + N) (n + N + N * M)) : J pc L (aI y :: aI x :: st) μ k n := by
  obtain ⟨p, e, s, m, args, below, meth, c, D, cm, ad0, μ0, Q, rfl, hx, hb, hml, hrt, hown, hlk, hU, hE⟩ := C
  subst hp
  subst hx9
  subst hy9
  intro ad H locs ls hT hX hS hL hs9 hl
  have eN : (nI N).toNatClampNeg = N := nI_clamp (by omega)
  have eM : (nI M).toNatClampNeg = M := nI_clamp (by omega)
  intro T hT9 Xs
  obtain ⟨vm₁, cA, comp, -, fA, fC, -, -, X', step⟩ := Xs.multianewarray2F hx hown (hU.w hw1) (va_AOA.use hU.2.2.1.2.2.2.2) (hU.w hw2) (g := F0 m pc ls (.int (nI M) :: .int (nI N) :: st.map (jc ad))) rfl (by rw [hb]; exact hdg) rfl (nI_pos (by omega)) (nI_pos (by omega)) (by rw [eN]; omega) (by rw [eM]; show M * 4 ≤ _; omega) (by rw [eM]; omega) rfl rfl (by rw [eN]; exact hk) (by rw [eN, eM]; exact hn)
  rw [eN, eM] at X' step
  have hcO : cA = cm (.array .int) := by
    have h9 : s.vm.findClass ("[" ++ (FieldType.array .int).toString) = some (cm (.array .int)) := (hU.1.2 (.array .int) (by simp [jTys])).2
    exact Option.some.inj (fA.symm.trans h9)
  have hcI : comp = cm .int := by
    have h9 : s.vm.findClass ("[" ++ (FieldType.int).toString) = some (cm .int) := (hU.1.2 .int (by simp [jTys])).2
    exact Option.some.inj (fC.symm.trans h9)
  subst hcO
  subst hcI
  have hTh : (T.setVm vm₁).heap = H := hT9
  obtain ⟨f1, f2, -, -⟩ := Jvm.Free.Multi.fill_facts (T.setVm vm₁) (cm (.array .int)) (cm .int) N M (defaultValue .int) N
  have hold : ∀ q : Nat, q < H.size → (Jvm.Free.Multi.fill (T.setVm vm₁) (cm (.array .int)) (cm .int) N M (defaultValue .int) N).heap[q]? = H[q]? := fun q hq => by
    have := Jvm.Free.Multi.fill_old (T.setVm vm₁) (cm (.array .int)) (cm .int) N M (defaultValue .int) (a := q) (by rw [hTh]; exact hq) N
    rw [hTh] at this
    exact this
  have hrow : ∀ j : Nat, j < N → (Jvm.Free.Multi.fill (T.setVm vm₁) (cm (.array .int)) (cm .int) N M (defaultValue .int) N).heap[H.size + 1 + j]? = some (arrV (cm .int) M (fun _ => .int 0)) := fun j hj => by
    have := Jvm.Free.Multi.fill_inner (T.setVm vm₁) (cm (.array .int)) (cm .int) N M (defaultValue .int) N j hj
    rw [hTh] at this
    rw [← arrV_new]
    exact this
  rw [hTh] at f1 f2
  have hout := vr_outer (cm (.array .int)) N H.size N
  rw [hout] at f2
  generalize Jvm.Free.Multi.fill (T.setVm vm₁) (cm (.array .int)) (cm .int) N M (defaultValue .int) N = F at f1 f2 hold hrow X' step
  have hu := uam_same (μ := μ) (ad := ad) (a := a) (r := r) (h := H.size)
  have aO9 : uam ad a (mN μ a) r (mN μ r) H.size a (mN μ a) = H.size := if_pos ⟨rfl, rfl⟩
  have aI9 : ∀ j, uam ad a (mN μ a) r (mN μ r) H.size r (mN μ r + j) = H.size + 1 + j := fun j => by
    unfold uam
    rw [if_neg (fun h => hne h.1.symm), if_pos ⟨rfl, by omega⟩]
    omega
  have hT' : jT D cm (uam ad a (mN μ a) r (mN μ r) H.size) (nwm μ a r N) F.heap := by
    refine hT.pushm hne f1 hold (jAt_row' hsO ?_) (fun j hj => jAt_row' hsI ?_)
    · rw [aO9, f2]
      refine congrArg some (congrArg (arrV _ N) (funext fun z => ?_))
      show _ = jc _ (aO (mP (nwm μ a r N) a (mN μ a) z))
      rw [mP_nwm]
      by_cases hz : z < N
      · rw [if_pos hz, if_pos ⟨rfl, rfl, hz⟩]
        show Value.ref (H.size + 1 + z) = Value.ref (uam ad a (mN μ a) r (mN μ r) H.size r (mN μ r + z))
        rw [aI9]
      · rw [if_neg hz, if_neg (fun h => hz h.2.2), if_neg (fun h => hne h.1), if_pos ⟨rfl, Nat.le_refl _⟩]
        rfl
    · rw [aI9, hrow j hj]
      refine congrArg some (congrArg (arrV _ M) (funext fun z => ?_))
      show _ = Value.int (mI (nwm μ a r N) r (mN μ r + j) z)
      rw [mI_nwm, if_pos ⟨rfl, by omega⟩]
  have k0 := K _ F.heap locs ls hT' (hX.newm hne hS.1) (hS.grow (by omega) hold) (fun v hv => jL_mono (nwm_mono μ a r N hne) v (hL v hv)) (jst_c (by show mN μ a < mN (nwm μ a r N) a; rw [mN_nwm μ a r N a hne, if_neg hne, if_pos rfl]; omega) (fun v hv => jL_mono (nwm_mono μ a r N hne) v (jst_t (jst_t hs9) v hv))) (by rw [jLs_same hu L 0 hL]; exact hl)
  have e1 : (aR a (mN μ a) :: st).map (jc (uam ad a (mN μ a) r (mN μ r) H.size)) = .ref H.size :: st.map (jc ad) := by
    rw [List.map_cons, jcs_same hu (jst_t (jst_t hs9))]
    refine congrArg (· :: _) ?_
    show Value.ref (uam ad a (mN μ a) r (mN μ r) H.size a (mN μ a)) = _
    rw [aO9]
  rw [e1] at k0
  obtain ⟨t, a1, b1⟩ := k0 F rfl X'
  refine ⟨t, step t ?_, b1⟩
  have e : T.heap.size = H.size := by rw [hT9]
  rw [e]
  exact a1
end JMAKE
end
section
/-! CALLS BY CONTRACT, ENDS, THROWS, ENTRIES -/
section JCALL
variable {l : Launch} {J : Nat → List (Option jV) → List jV → jM → Nat → Nat → Prop} {cc : ByteArray} {nL : Nat} {own : String} {R : Room} {rt : Option FieldType} {md : Nat} {hh : List (Nat × Nat × Nat × Nat)} {ret : Option jV → jM → Prop} {thr : String → jM → Prop} {mc ms : Nat}
variable {pc pc' : Nat} {L : List (Option jV)} {st : List jV} {μ : jM} {k n : Nat}
theorem jPc_blind {D : va_G} {cm : FieldType → ClassId} {ad : Nat → Nat → Nat} {avs : List jV} {sz : Nat} : FrameBlind (jPc D cm ad μ avs sz) := fun a U g mk q => ⟨q.1, q.2.1, q.2.2.1, q.2.2.2.moved (U := U.calling g mk a) (State.WarmedH.refl U) (fun _ _ _ => rfl) (fun _ h => h)⟩
theorem jGoodIn {ws : List Cond} (h : ∀ w ∈ ws, w ∈ jWL ∧ goodWord w = true) : GoodIn jWL ws := fun w hw => ⟨(h w hw).1, good_of_word (h w hw).2⟩
section CORE
variable {p : Program} {e : Env} {s : State} {m : MethodId} {args : Array Value} {below : List Frame} {meth : Method} {c : Code} {H : Heap} {locs : List Loc} {Q : State → Prop} {D : va_G} {cm : FieldType → ClassId} {ad0 ad : Nat → Nat → Nat} {μ0 : jM} {ls : Array Slot} {st0 : List Value} {mc' ms' : Nat} {post : Option jV → jM → Prop} {thr' : String → jM → Prop} {a : Array Value}
theorem jx_back {st₀ t T' : State} {L9 : List Loc} {ad' : Nat → Nat → Nat} {μ' : jM} (h0 : st₀.heap = H) (e1 : T'.heap = t.heap) (hX : jX ad0 μ0 s.heap.size ad μ) (hS : va_S (jA ad0 μ0 s.heap.size) s.heap H locs) (hL9 : ∀ q ∈ L9, jA ad μ H.size q.base) (hT' : jT D cm ad' μ' t.heap) (hX' : jX ad μ st₀.heap.size ad' μ') (hF : va_F (jA ad μ st₀.heap.size) st₀ t) :
    jT D cm ad' μ' T'.heap ∧ jX ad0 μ0 s.heap.size ad' μ' ∧ va_S (jA ad0 μ0 s.heap.size) s.heap T'.heap (locs ++ L9) := by
  have hsub := hX.sub hS.1
  rw [h0] at hX'
  obtain ⟨k1, k2, k3⟩ := vx_keep h0 e1 hS (fun q _ h => hsub q (by rw [h0] at h; exact h)) hsub hL9 hF
  exact ⟨by rw [e1]; exact hT', hX.tr hX' hS.1, k3⟩
theorem jx_st {r : Option jV} {ad' : Nat → Nat → Nat} (ha : ∀ kd i, i < mN μ kd → ad' kd i = ad kd i) (hs : ∀ v ∈ st, jL μ v) : (r.toList ++ st).map (jc ad') = (r.map (jc ad')).toList ++ st.map (jc ad) := by
  rw [List.map_append, jcs_same ha hs]
  cases r <;> rfl
theorem jx_cl {r : Option jV} {μ' : jM} (hm : ∀ x, mN μ x ≤ mN μ' x) (hr : ∀ v ∈ r, jL μ' v) (hs : ∀ v ∈ st, jL μ v) : ∀ v ∈ r.toList ++ st, jL μ' v := fun v hv => by
  rcases List.mem_append.mp hv with h | h
  · exact hr v (by simpa using h)
  · exact jL_mono hm v (hs v h)
theorem jx_run (hr : va_Run p l e R s m args below meth c H locs k n mc' ms' (F0 m pc ls st0) (st.map (jc ad)) (jQ D cm ad μ post a) (jA ad μ H.size)) (hX : jX ad0 μ0 s.heap.size ad μ) (hS : va_S (jA ad0 μ0 s.heap.size) s.heap H locs) (hL : ∀ v, some v ∈ L → jL μ v) (hs : ∀ v ∈ st, jL μ v) (hl : lv_has ls nL (jLs ad 0 L))
    (K : ∀ r μ', post r μ' → (∀ x, mN μ x ≤ mN μ' x) → jJ p l e R s m args below meth c D cm ad0 μ0 nL Q (pc + 3) L (r.toList ++ st) μ' (k + mc') (n + ms')) : W p l e R s m args below meth c H locs k n Q (F0 m pc ls st0) := by
  intro T hT9 Xs
  obtain ⟨v, st₀, t, T', L9, h0, X', hL9, e1, e2, ⟨r, ad', μ', hv, hq, hT', hX', hr', hF⟩, stp⟩ := hr T hT9 Xs
  obtain ⟨k1, k2, k3⟩ := jx_back h0 e1 hX hS hL9 hT' hX' hF
  have ev : v = r.map (jc ad') := Outcome.returned.inj hv
  subst ev
  have k0 := K r μ' hq hX'.1 ad' T'.heap (locs ++ L9) ls k1 k2 k3 (fun v hv => jL_mono hX'.1 v (hL v hv)) (jx_cl hX'.1 hr' hs) (by rw [jLs_same hX'.2.1 L 0 hL]; exact hl)
  rw [jx_st hX'.2.1 hs] at k0
  obtain ⟨t2, a1, b1⟩ := k0 T' rfl X'
  exact ⟨t2, stp t2 a1, b1⟩
theorem jx_vrun (hr : vx_Run p l e R s m args below meth c H locs k n mc' ms' (F0 m pc ls st0) (st.map (jc ad)) (jQ D cm ad μ post a) (jXC D cm ad μ thr') (jA ad μ H.size)) (hX : jX ad0 μ0 s.heap.size ad μ) (hS : va_S (jA ad0 μ0 s.heap.size) s.heap H locs) (hL : ∀ v, some v ∈ L → jL μ v) (hs : ∀ v ∈ st, jL μ v) (hl : lv_has ls nL (jLs ad 0 L))
    (K : ∀ r μ', post r μ' → (∀ x, mN μ x ≤ mN μ' x) → jJ p l e R s m args below meth c D cm ad0 μ0 nL Q (pc + 3) L (r.toList ++ st) μ' (k + mc') (n + ms'))
    (KX : ∀ E ce q9 ad' μ' H1 locs1, thr' E μ' → jT D cm ad' μ' H1 → jX ad0 μ0 s.heap.size ad' μ' → va_S (jA ad0 μ0 s.heap.size) s.heap H1 locs1 → (∀ v, some v ∈ L → jL μ' v) → lv_has ls nL (jLs ad' 0 L) → H1[q9]? = some ce → ce.vm = .none → s.vm.findClass E = some ce.cls → vx_W p l e R s m args below meth c H1 locs1 (k + mc') (n + ms') Q (F0 m pc ls (st.map (jc ad))) q9) : W p l e R s m args below meth c H locs k n Q (F0 m pc ls st0) := by
  intro T hT9 Xs
  rcases hr T hT9 Xs with ⟨v, st₀, t, T', L9, h0, X', hL9, e1, e2, ⟨r, ad', μ', hv, hq, hT', hX', hr', hF⟩, stp⟩ | ⟨q9, st₀, t, T', L9, E, ce, h0, X', hL9, e1, e2, ⟨ad', μ', hq, hT', hX', hF⟩, hce, hcv, hcl, stp⟩
  · obtain ⟨k1, k2, k3⟩ := jx_back h0 e1 hX hS hL9 hT' hX' hF
    have ev : v = r.map (jc ad') := Outcome.returned.inj hv
    subst ev
    have k0 := K r μ' hq hX'.1 ad' T'.heap (locs ++ L9) ls k1 k2 k3 (fun v hv => jL_mono hX'.1 v (hL v hv)) (jx_cl hX'.1 hr' hs) (by rw [jLs_same hX'.2.1 L 0 hL]; exact hl)
    rw [jx_st hX'.2.1 hs] at k0
    obtain ⟨t2, a1, b1⟩ := k0 T' rfl X'
    exact ⟨t2, stp t2 a1, b1⟩
  · obtain ⟨k1, k2, k3⟩ := jx_back h0 e1 hX hS hL9 hT' hX' hF
    obtain ⟨t2, a1, b1⟩ := KX E ce q9 ad' μ' T'.heap (locs ++ L9) hq k1 k2 k3 (fun v hv => jL_mono hX'.1 v (hL v hv)) (by rw [jLs_same hX'.2.1 L 0 hL]; exact hl) (by rw [e1]; exact hce) hcv hcl T' rfl X'
    exact ⟨t2, stp.trans a1, b1⟩
theorem jx_pre (hU : jU D cm (jA ad0 μ0 s.heap.size) s) (hT : jT D cm ad μ H) (hX : jX ad0 μ0 s.heap.size ad μ) (hS : va_S (jA ad0 μ0 s.heap.size) s.heap H locs) (avs : List jV) : ∀ U : State, U.heap = H → s.WarmedH U.vm → jPc D cm ad μ avs H.size (avs.map (jc ad)).toArray U := fun U hUh hW =>
  ⟨rfl, by rw [hUh], by rw [hUh]; exact hT, hU.moved hW (fun q h1 h2 => by rw [hUh]; exact hS.2.1 q h1 h2) (hX.sub hS.1)⟩
theorem jx_out (hE : jEnd 0 hh l s args below meth c D cm ad0 μ0 Q ret thr mc ms) (hlk : meth.locks = false) {E : String} {ce : Cell} {q9 : Addr} {ad' : Nat → Nat → Nat} {μ' : jM} {H1 : Heap} {locs1 : List Loc} {k' n' : Nat} {st9 : List Value} (ht : thr E μ') (k1 : jT D cm ad' μ' H1) (k2 : jX ad0 μ0 s.heap.size ad' μ') (k3 : va_S (jA ad0 μ0 s.heap.size) s.heap H1 locs1) (hce : H1[q9]? = some ce) (hcv : ce.vm = .none) (hcl : s.vm.findClass E = some ce.cls) (hk : k' ≤ mc) (hn : n' ≤ ms) : vx_W p l e R s m args below meth c H1 locs1 k' n' Q (F0 m pc ls st9) q9 := by
  obtain ⟨-, htab, rfl⟩ := hE
  exact vx_out (fun x hx => (htab x hx).elim) hlk hce hcv hcl (fun t ht9 _ => ⟨ad', μ', ht, by rw [ht9]; exact k1, k2, k3.F ht9⟩) k3.2.2 hk hn
theorem jx_off {E nm : String} (hU : jOff s) (h : (E, nm) ∈ ([("java/lang/IllegalArgumentException", "java/lang/IndexOutOfBoundsException"), ("java/lang/IllegalStateException", "java/lang/IndexOutOfBoundsException"), ("java/lang/IllegalStateException", "java/lang/IllegalArgumentException")] : List (String × String))) : va_Nc E nm s := by
  simp only [List.mem_cons, Prod.mk.injEq, List.not_mem_nil, or_false] at h
  rcases h with ⟨rfl, rfl⟩ | ⟨rfl, rfl⟩ | ⟨rfl, rfl⟩
  · exact hU.1
  · exact hU.2.1
  · exact hU.2.2
end CORE
/-- how a throw of E at pc is caught here: the rows ahead that don't take it, the row that does, the store with which its handler begins, the walk from there -/
def jCatch (J : Nat → List (Option jV) → List jV → jM → Nat → Nat → Prop) (cc : ByteArray) (nL : Nat) (own : String) (hh : List (Nat × Nat × Nat × Nat)) (pc : Nat) (L : List (Option jV)) (k n : Nat) (E : String) (μ : jM) : Prop :=
  ∃ (pre : List (Nat × Nat × Nat × Nat)) (x : Nat × Nat × Nat × Nat) (suf : List (Nat × Nat × Nat × Nat)) (i len : Nat), hh = pre ++ x :: suf ∧ (∀ z ∈ pre, z.2.2.2 ≠ 0 ∧ ∃ nm : String, Cond.classLink own z.2.2.2 nm ∈ jWL ∧ (E, nm) ∈ ([("java/lang/IllegalArgumentException", "java/lang/IndexOutOfBoundsException"), ("java/lang/IllegalStateException", "java/lang/IndexOutOfBoundsException"), ("java/lang/IllegalStateException", "java/lang/IllegalArgumentException")] : List (String × String))) ∧
    (x.1 ≤ pc ∧ pc < x.2.1) ∧ x.2.2.2 ≠ 0 ∧ Cond.classLink own x.2.2.2 E ∈ jWL ∧ Cond.castable E E ∈ jWL ∧ i < nL ∧ i < L.length ∧ (∀ j w, j + 1 = i → L[j]? = some (some w) → jcat w ≠ 2) ∧
    ((decode cc x.2.2.1 = .ok (.astore i, 2) ∧ len = 2) ∨ (∃ k9 : Fin 4, decode cc x.2.2.1 = .ok (.astore_n k9, 1) ∧ (k9 : Nat) = i ∧ len = 1)) ∧ J (x.2.2.1 + len) (L.set i none) [] μ k n
theorem jx_catch {p : Program} {e : Env} {s : State} {m : MethodId} {args : Array Value} {below : List Frame} {meth : Method} {c : Code} {Q : State → Prop} {D : va_G} {cm : FieldType → ClassId} {ad0 : Nat → Nat → Nat} {μ0 : jM} {ls : Array Slot} (hx : p.tables.exec = Jvm.exec) (hb : c.code = cc) (hown : s.vm.findClass own = some m.cls) (hU : jU D cm (jA ad0 μ0 s.heap.size) s) (htab : c.exceptionTable.toList = tableOf hh)
    {E : String} {ce : Cell} {q9 : Addr} {ad' : Nat → Nat → Nat} {μ' : jM} {H1 : Heap} {locs1 : List Loc} {st9 : List Value} (k1 : jT D cm ad' μ' H1) (k2 : jX ad0 μ0 s.heap.size ad' μ') (k3 : va_S (jA ad0 μ0 s.heap.size) s.heap H1 locs1) (hL : ∀ v, some v ∈ L → jL μ' v) (hl : lv_has ls nL (jLs ad' 0 L)) (hce : H1[q9]? = some ce) (hcv : ce.vm = .none) (hcl : s.vm.findClass E = some ce.cls)
    (hK : jCatch (jJ p l e R s m args below meth c D cm ad0 μ0 nL Q) cc nL own hh pc L k n E μ') : vx_W p l e R s m args below meth c H1 locs1 k n Q (F0 m pc ls st9) q9 := by
  obtain ⟨pre, x, suf, i, len, e1, e2, e3, e4, e5, e6, e7, e8, e9, e10, K⟩ := hK
  refine vx_catch hown (pre.map fun q => ⟨q.1, q.2.1, q.2.2.1, q.2.2.2⟩) ⟨x.1, x.2.1, x.2.2.1, x.2.2.2⟩ (suf.map fun q => ⟨q.1, q.2.1, q.2.2.1, q.2.2.2⟩) (by rw [htab, e1]; unfold tableOf; rw [List.map_append, List.map_cons]) (fun z hz => ?_) (by simp [covers, e3.1, e3.2]) e4 (hU.w e5) (hU.w e6) hce hcv hcl ?_
  · obtain ⟨z0, hz0, rfl⟩ := List.mem_map.mp hz
    obtain ⟨h1, nm, h2, h3⟩ := e2 z0 hz0
    exact Or.inr ⟨h1, nm, hU.w h2, jx_off hU.2.2.2.1 h3⟩
  · have fin : ∀ ls' : Array Slot, lv_has ls' nL ((i, Value.ref q9) :: (jLs ad' 0 L).filter (fun q => !(q.1 == i) && !(q.1 + 1 == i && q.2.category == 2))) → lv_has ls' nL (jLs ad' 0 (L.set i none)) := fun ls' h => by
      refine ⟨h.1, h.2.1, fun q hq => h.2.2 q ?_⟩
      obtain ⟨j, w, hj, rfl⟩ := jLs_of ad' _ 0 q hq
      by_cases e : j = i
      · subst e
        rw [List.getElem?_set_self e8] at hj
        cases hj
      · rw [List.getElem?_set_ne (Ne.symm e)] at hj
        refine List.mem_cons_of_mem _ (List.mem_filter.mpr ⟨jLs_mem ad' L 0 j w hj, ?_⟩)
        have h2 : ¬ (j + 1 = i ∧ (jc ad' w).category = 2) := fun z => e9 j w z.1 hj (by rw [← jc_cat ad' w]; exact z.2)
        simp only [Nat.zero_add, Bool.and_eq_true, Bool.not_eq_true', beq_eq_false_iff_ne, Bool.and_eq_false_iff]
        refine ⟨e, ?_⟩
        by_cases e1 : j + 1 = i
        · exact Or.inr (fun z => h2 ⟨e1, z⟩)
        · exact Or.inl e1
    rcases e10 with ⟨hd, rfl⟩ | ⟨k9, hd, hk9, rfl⟩
    · exact lv_astore hx hb hd hl e7 rfl (fun ls' hl' => K ad' H1 locs1 ls' k1 k2 k3 (jl_setn hL) (fun v hv => nomatch hv) (fin ls' hl'))
    · exact lv_astore_n hx hb hd hk9 hl e7 rfl (fun ls' hl' => K ad' H1 locs1 ls' k1 k2 k3 (jl_setn hL) (fun v hv => nomatch hv) (fin ls' hl'))

theorem mj_callVXG (C : jCtx l J cc nL own R rt 0 hh ret thr mc ms) {y : MethodName} {bytes : ByteArray} {maxL : Nat} {rt' : Option FieldType} {fr lo mc' ms' : Nat} {pre : List jV → jM → Prop} {post : List jV → jM → Option jV → jM → Prop} {thr' : List jV → jM → String → jM → Prop} (hM : jMet l y bytes maxL rt' fr lo mc' ms' pre post thr') {idx kd i ci : Nat} {avs : List jV} (hdg : decode cc pc = .ok (.invokevirtual idx, 3)) (hp : pc + 3 = pc') (hw1 : Cond.methodLink own idx y ∈ jWL) (hw2 : Cond.instanceMethod y ∈ jWL) (hw3 : Cond.selects (jNm ci) y y ∈ jWL) (hw4 : Cond.initialized (jNm ci) ∈ jWL) (hw5 : Cond.code y bytes maxL rt' ∈ jWL) (hsh : jSh kd = .inl ci) (hc : ci < 7) (h61 : kd ≠ 61) (hd : y.cls = jNm ci ∧ y.cls ≠ "java/lang/invoke/MethodHandle" ∧ y.cls ≠ "java/lang/invoke/VarHandle" ∧ (parseMethodDescriptor y.desc).map (fun d => d.parameters.length) = some avs.length) (hR : fr + 1 ≤ R.frames ∧ 8 + (maxL + 11) + lo ≤ R.locals) (hcat : (st.map jcat).sum ≤ 8) (hroom : k + mc' ≤ R.cells ∧ n + ms' ≤ R.slots)
    (hpre : pre (aR kd i :: avs) μ) (K : ∀ r μ', post (aR kd i :: avs) μ r μ' → (∀ x, mN μ x ≤ mN μ' x) → J pc' L (r.toList ++ st) μ' (k + mc') (n + ms')) (KX : ∀ E μ', thr' (aR kd i :: avs) μ E μ' → thr E μ') (hmc : k + mc' ≤ mc) (hms : n + ms' ≤ ms) : J pc L (avs.reverse ++ aR kd i :: st) μ k n := by
  obtain ⟨p, e, s, m, args, below, meth, c, D, cm, ad0, μ0, Q, rfl, hx, hb, hml, hrt, hown, hlk, hU, hE⟩ := C
  subst hp
  intro ad H locs ls hT hX hS hL hs9 hl
  have hsp : ∀ v ∈ st, jL μ v := fun v hv => hs9 v (List.mem_append_right _ (List.mem_cons_of_mem _ hv))

  have hrec : i < mN μ kd := hs9 (aR kd i) (List.mem_append_right _ List.mem_cons_self)
  have hav : ∀ v ∈ aR kd i :: avs, jL μ v := fun v hv => by
    rcases List.mem_cons.mp hv with rfl | h
    · exact hrec
    · exact hs9 v (List.mem_append_left _ (List.mem_reverse.mpr h))
  obtain ⟨cell, q1, q2, q3, q4⟩ := jAt_obj (hT.1 kd i h61 hrec) hsh
  have hcls := (hU.1.1 ci _ (jCl_at hc)).2
  have hr := vx_runV (meth := meth) (below := below) (args := args) (e := e) (g := F0 m pc ls ((avs.reverse ++ aR kd i :: st).map (jc ad))) (locs := locs) (slots := n) (b := ad kd i) (As := avs.map (jc ad)) (rest := st.map (jc ad)) ⟨hx, hb, hml, hown, fun w h => hU.w h⟩ (hM D cm ad μ (aR kd i :: avs) H.size hav hpre) (cwV (own := own) (C := jNm ci) (index := idx) (y := y) (bytes := bytes) (maxL := maxL) (ret := rt') avs.length (fun w h => hU.w h) (jGoodIn (fun w hw => by
      simp only [wsV, List.cons_append, List.nil_append, List.mem_cons, List.not_mem_nil, or_false] at hw
      rcases hw with rfl | rfl | rfl | rfl | rfl
      · exact ⟨hw1, rfl⟩
      · exact ⟨hw2, rfl⟩
      · exact ⟨hw3, rfl⟩
      · exact ⟨hw4, rfl⟩
      · exact ⟨hw5, rfl⟩)) rfl rfl rfl hd hR) ⟨jPc_blind, ⟨cell, q1, by rw [q3]; rfl, by rw [q2]; exact hcls.1⟩, jx_pre hU hT hX hS (aR kd i :: avs)⟩ rfl (by simp) hl.1 (by simp [jc]) (lv_room (by rw [jc_cats]; exact hcat)) hdg hroom

  exact jx_vrun hr hX hS hL hsp hl (fun r μ' hq hm => K r μ' hq hm) (fun E ce q9 ad' μ' H1 locs1 ht k1 k2 k3 _ _ hce hcv hcl => jx_out hE hlk (KX E μ' ht) k1 k2 k3 hce hcv hcl hmc hms)

theorem mj_callVX_0 (C : jCtx l J cc nL own R rt 0 hh ret thr mc ms) {y : MethodName} {bytes : ByteArray} {maxL : Nat} {rt' : Option FieldType} {fr lo mc' ms' : Nat} {pre : List jV → jM → Prop} {post : List jV → jM → Option jV → jM → Prop} {thr' : List jV → jM → String → jM → Prop} (hM : jMet l y bytes maxL rt' fr lo mc' ms' pre post thr') {idx kd i ci : Nat}  (hdg : decode cc pc = .ok (.invokevirtual idx, 3)) (hp : pc + 3 = pc') (hw1 : Cond.methodLink own idx y ∈ jWL) (hw2 : Cond.instanceMethod y ∈ jWL) (hw3 : Cond.selects (jNm ci) y y ∈ jWL) (hw4 : Cond.initialized (jNm ci) ∈ jWL) (hw5 : Cond.code y bytes maxL rt' ∈ jWL) (hsh : jSh kd = .inl ci) (hc : ci < 7) (h61 : kd ≠ 61) (hd : y.cls = jNm ci ∧ y.cls ≠ "java/lang/invoke/MethodHandle" ∧ y.cls ≠ "java/lang/invoke/VarHandle" ∧ (parseMethodDescriptor y.desc).map (fun d => d.parameters.length) = some 0) (hR : fr + 1 ≤ R.frames ∧ 8 + (maxL + 11) + lo ≤ R.locals) (hcat : (st.map jcat).sum ≤ 8) (hroom : k + mc' ≤ R.cells ∧ n + ms' ≤ R.slots)
    (hpre : pre (aR kd i :: []) μ) (K : ∀ r μ', post (aR kd i :: []) μ r μ' → (∀ x, mN μ x ≤ mN μ' x) → J pc' L (r.toList ++ st) μ' (k + mc') (n + ms')) (KX : ∀ E μ', thr' (aR kd i :: []) μ E μ' → thr E μ') (hmc : k + mc' ≤ mc) (hms : n + ms' ≤ ms) : J pc L (aR kd i :: st) μ k n :=
  mj_callVXG C hM (avs := []) hdg hp hw1 hw2 hw3 hw4 hw5 hsh hc h61 hd hR hcat hroom hpre K KX hmc hms

theorem mj_callVX_1 (C : jCtx l J cc nL own R rt 0 hh ret thr mc ms) {y : MethodName} {bytes : ByteArray} {maxL : Nat} {rt' : Option FieldType} {fr lo mc' ms' : Nat} {pre : List jV → jM → Prop} {post : List jV → jM → Option jV → jM → Prop} {thr' : List jV → jM → String → jM → Prop} (hM : jMet l y bytes maxL rt' fr lo mc' ms' pre post thr') {idx kd i ci : Nat} {v1 : jV} (hdg : decode cc pc = .ok (.invokevirtual idx, 3)) (hp : pc + 3 = pc') (hw1 : Cond.methodLink own idx y ∈ jWL) (hw2 : Cond.instanceMethod y ∈ jWL) (hw3 : Cond.selects (jNm ci) y y ∈ jWL) (hw4 : Cond.initialized (jNm ci) ∈ jWL) (hw5 : Cond.code y bytes maxL rt' ∈ jWL) (hsh : jSh kd = .inl ci) (hc : ci < 7) (h61 : kd ≠ 61) (hd : y.cls = jNm ci ∧ y.cls ≠ "java/lang/invoke/MethodHandle" ∧ y.cls ≠ "java/lang/invoke/VarHandle" ∧ (parseMethodDescriptor y.desc).map (fun d => d.parameters.length) = some 1) (hR : fr + 1 ≤ R.frames ∧ 8 + (maxL + 11) + lo ≤ R.locals) (hcat : (st.map jcat).sum ≤ 8) (hroom : k + mc' ≤ R.cells ∧ n + ms' ≤ R.slots)
    (hpre : pre (aR kd i :: [v1]) μ) (K : ∀ r μ', post (aR kd i :: [v1]) μ r μ' → (∀ x, mN μ x ≤ mN μ' x) → J pc' L (r.toList ++ st) μ' (k + mc') (n + ms')) (KX : ∀ E μ', thr' (aR kd i :: [v1]) μ E μ' → thr E μ') (hmc : k + mc' ≤ mc) (hms : n + ms' ≤ ms) : J pc L (v1 :: aR kd i :: st) μ k n :=
  mj_callVXG C hM (avs := [v1]) hdg hp hw1 hw2 hw3 hw4 hw5 hsh hc h61 hd hR hcat hroom hpre K KX hmc hms

theorem mj_callVX_2 (C : jCtx l J cc nL own R rt 0 hh ret thr mc ms) {y : MethodName} {bytes : ByteArray} {maxL : Nat} {rt' : Option FieldType} {fr lo mc' ms' : Nat} {pre : List jV → jM → Prop} {post : List jV → jM → Option jV → jM → Prop} {thr' : List jV → jM → String → jM → Prop} (hM : jMet l y bytes maxL rt' fr lo mc' ms' pre post thr') {idx kd i ci : Nat} {v1 v2 : jV} (hdg : decode cc pc = .ok (.invokevirtual idx, 3)) (hp : pc + 3 = pc') (hw1 : Cond.methodLink own idx y ∈ jWL) (hw2 : Cond.instanceMethod y ∈ jWL) (hw3 : Cond.selects (jNm ci) y y ∈ jWL) (hw4 : Cond.initialized (jNm ci) ∈ jWL) (hw5 : Cond.code y bytes maxL rt' ∈ jWL) (hsh : jSh kd = .inl ci) (hc : ci < 7) (h61 : kd ≠ 61) (hd : y.cls = jNm ci ∧ y.cls ≠ "java/lang/invoke/MethodHandle" ∧ y.cls ≠ "java/lang/invoke/VarHandle" ∧ (parseMethodDescriptor y.desc).map (fun d => d.parameters.length) = some 2) (hR : fr + 1 ≤ R.frames ∧ 8 + (maxL + 11) + lo ≤ R.locals) (hcat : (st.map jcat).sum ≤ 8) (hroom : k + mc' ≤ R.cells ∧ n + ms' ≤ R.slots)
    (hpre : pre (aR kd i :: [v1, v2]) μ) (K : ∀ r μ', post (aR kd i :: [v1, v2]) μ r μ' → (∀ x, mN μ x ≤ mN μ' x) → J pc' L (r.toList ++ st) μ' (k + mc') (n + ms')) (KX : ∀ E μ', thr' (aR kd i :: [v1, v2]) μ E μ' → thr E μ') (hmc : k + mc' ≤ mc) (hms : n + ms' ≤ ms) : J pc L (v2 :: v1 :: aR kd i :: st) μ k n :=
  mj_callVXG C hM (avs := [v1, v2]) hdg hp hw1 hw2 hw3 hw4 hw5 hsh hc h61 hd hR hcat hroom hpre K KX hmc hms

theorem mj_callVX_3 (C : jCtx l J cc nL own R rt 0 hh ret thr mc ms) {y : MethodName} {bytes : ByteArray} {maxL : Nat} {rt' : Option FieldType} {fr lo mc' ms' : Nat} {pre : List jV → jM → Prop} {post : List jV → jM → Option jV → jM → Prop} {thr' : List jV → jM → String → jM → Prop} (hM : jMet l y bytes maxL rt' fr lo mc' ms' pre post thr') {idx kd i ci : Nat} {v1 v2 v3 : jV} (hdg : decode cc pc = .ok (.invokevirtual idx, 3)) (hp : pc + 3 = pc') (hw1 : Cond.methodLink own idx y ∈ jWL) (hw2 : Cond.instanceMethod y ∈ jWL) (hw3 : Cond.selects (jNm ci) y y ∈ jWL) (hw4 : Cond.initialized (jNm ci) ∈ jWL) (hw5 : Cond.code y bytes maxL rt' ∈ jWL) (hsh : jSh kd = .inl ci) (hc : ci < 7) (h61 : kd ≠ 61) (hd : y.cls = jNm ci ∧ y.cls ≠ "java/lang/invoke/MethodHandle" ∧ y.cls ≠ "java/lang/invoke/VarHandle" ∧ (parseMethodDescriptor y.desc).map (fun d => d.parameters.length) = some 3) (hR : fr + 1 ≤ R.frames ∧ 8 + (maxL + 11) + lo ≤ R.locals) (hcat : (st.map jcat).sum ≤ 8) (hroom : k + mc' ≤ R.cells ∧ n + ms' ≤ R.slots)
    (hpre : pre (aR kd i :: [v1, v2, v3]) μ) (K : ∀ r μ', post (aR kd i :: [v1, v2, v3]) μ r μ' → (∀ x, mN μ x ≤ mN μ' x) → J pc' L (r.toList ++ st) μ' (k + mc') (n + ms')) (KX : ∀ E μ', thr' (aR kd i :: [v1, v2, v3]) μ E μ' → thr E μ') (hmc : k + mc' ≤ mc) (hms : n + ms' ≤ ms) : J pc L (v3 :: v2 :: v1 :: aR kd i :: st) μ k n :=
  mj_callVXG C hM (avs := [v1, v2, v3]) hdg hp hw1 hw2 hw3 hw4 hw5 hsh hc h61 hd hR hcat hroom hpre K KX hmc hms

theorem mj_callVX_4 (C : jCtx l J cc nL own R rt 0 hh ret thr mc ms) {y : MethodName} {bytes : ByteArray} {maxL : Nat} {rt' : Option FieldType} {fr lo mc' ms' : Nat} {pre : List jV → jM → Prop} {post : List jV → jM → Option jV → jM → Prop} {thr' : List jV → jM → String → jM → Prop} (hM : jMet l y bytes maxL rt' fr lo mc' ms' pre post thr') {idx kd i ci : Nat} {v1 v2 v3 v4 : jV} (hdg : decode cc pc = .ok (.invokevirtual idx, 3)) (hp : pc + 3 = pc') (hw1 : Cond.methodLink own idx y ∈ jWL) (hw2 : Cond.instanceMethod y ∈ jWL) (hw3 : Cond.selects (jNm ci) y y ∈ jWL) (hw4 : Cond.initialized (jNm ci) ∈ jWL) (hw5 : Cond.code y bytes maxL rt' ∈ jWL) (hsh : jSh kd = .inl ci) (hc : ci < 7) (h61 : kd ≠ 61) (hd : y.cls = jNm ci ∧ y.cls ≠ "java/lang/invoke/MethodHandle" ∧ y.cls ≠ "java/lang/invoke/VarHandle" ∧ (parseMethodDescriptor y.desc).map (fun d => d.parameters.length) = some 4) (hR : fr + 1 ≤ R.frames ∧ 8 + (maxL + 11) + lo ≤ R.locals) (hcat : (st.map jcat).sum ≤ 8) (hroom : k + mc' ≤ R.cells ∧ n + ms' ≤ R.slots)
    (hpre : pre (aR kd i :: [v1, v2, v3, v4]) μ) (K : ∀ r μ', post (aR kd i :: [v1, v2, v3, v4]) μ r μ' → (∀ x, mN μ x ≤ mN μ' x) → J pc' L (r.toList ++ st) μ' (k + mc') (n + ms')) (KX : ∀ E μ', thr' (aR kd i :: [v1, v2, v3, v4]) μ E μ' → thr E μ') (hmc : k + mc' ≤ mc) (hms : n + ms' ≤ ms) : J pc L (v4 :: v3 :: v2 :: v1 :: aR kd i :: st) μ k n :=
  mj_callVXG C hM (avs := [v1, v2, v3, v4]) hdg hp hw1 hw2 hw3 hw4 hw5 hsh hc h61 hd hR hcat hroom hpre K KX hmc hms

theorem mj_callVX_5 (C : jCtx l J cc nL own R rt 0 hh ret thr mc ms) {y : MethodName} {bytes : ByteArray} {maxL : Nat} {rt' : Option FieldType} {fr lo mc' ms' : Nat} {pre : List jV → jM → Prop} {post : List jV → jM → Option jV → jM → Prop} {thr' : List jV → jM → String → jM → Prop} (hM : jMet l y bytes maxL rt' fr lo mc' ms' pre post thr') {idx kd i ci : Nat} {v1 v2 v3 v4 v5 : jV} (hdg : decode cc pc = .ok (.invokevirtual idx, 3)) (hp : pc + 3 = pc') (hw1 : Cond.methodLink own idx y ∈ jWL) (hw2 : Cond.instanceMethod y ∈ jWL) (hw3 : Cond.selects (jNm ci) y y ∈ jWL) (hw4 : Cond.initialized (jNm ci) ∈ jWL) (hw5 : Cond.code y bytes maxL rt' ∈ jWL) (hsh : jSh kd = .inl ci) (hc : ci < 7) (h61 : kd ≠ 61) (hd : y.cls = jNm ci ∧ y.cls ≠ "java/lang/invoke/MethodHandle" ∧ y.cls ≠ "java/lang/invoke/VarHandle" ∧ (parseMethodDescriptor y.desc).map (fun d => d.parameters.length) = some 5) (hR : fr + 1 ≤ R.frames ∧ 8 + (maxL + 11) + lo ≤ R.locals) (hcat : (st.map jcat).sum ≤ 8) (hroom : k + mc' ≤ R.cells ∧ n + ms' ≤ R.slots)
    (hpre : pre (aR kd i :: [v1, v2, v3, v4, v5]) μ) (K : ∀ r μ', post (aR kd i :: [v1, v2, v3, v4, v5]) μ r μ' → (∀ x, mN μ x ≤ mN μ' x) → J pc' L (r.toList ++ st) μ' (k + mc') (n + ms')) (KX : ∀ E μ', thr' (aR kd i :: [v1, v2, v3, v4, v5]) μ E μ' → thr E μ') (hmc : k + mc' ≤ mc) (hms : n + ms' ≤ ms) : J pc L (v5 :: v4 :: v3 :: v2 :: v1 :: aR kd i :: st) μ k n :=
  mj_callVXG C hM (avs := [v1, v2, v3, v4, v5]) hdg hp hw1 hw2 hw3 hw4 hw5 hsh hc h61 hd hR hcat hroom hpre K KX hmc hms

theorem mj_callVX_6 (C : jCtx l J cc nL own R rt 0 hh ret thr mc ms) {y : MethodName} {bytes : ByteArray} {maxL : Nat} {rt' : Option FieldType} {fr lo mc' ms' : Nat} {pre : List jV → jM → Prop} {post : List jV → jM → Option jV → jM → Prop} {thr' : List jV → jM → String → jM → Prop} (hM : jMet l y bytes maxL rt' fr lo mc' ms' pre post thr') {idx kd i ci : Nat} {v1 v2 v3 v4 v5 v6 : jV} (hdg : decode cc pc = .ok (.invokevirtual idx, 3)) (hp : pc + 3 = pc') (hw1 : Cond.methodLink own idx y ∈ jWL) (hw2 : Cond.instanceMethod y ∈ jWL) (hw3 : Cond.selects (jNm ci) y y ∈ jWL) (hw4 : Cond.initialized (jNm ci) ∈ jWL) (hw5 : Cond.code y bytes maxL rt' ∈ jWL) (hsh : jSh kd = .inl ci) (hc : ci < 7) (h61 : kd ≠ 61) (hd : y.cls = jNm ci ∧ y.cls ≠ "java/lang/invoke/MethodHandle" ∧ y.cls ≠ "java/lang/invoke/VarHandle" ∧ (parseMethodDescriptor y.desc).map (fun d => d.parameters.length) = some 6) (hR : fr + 1 ≤ R.frames ∧ 8 + (maxL + 11) + lo ≤ R.locals) (hcat : (st.map jcat).sum ≤ 8) (hroom : k + mc' ≤ R.cells ∧ n + ms' ≤ R.slots)
    (hpre : pre (aR kd i :: [v1, v2, v3, v4, v5, v6]) μ) (K : ∀ r μ', post (aR kd i :: [v1, v2, v3, v4, v5, v6]) μ r μ' → (∀ x, mN μ x ≤ mN μ' x) → J pc' L (r.toList ++ st) μ' (k + mc') (n + ms')) (KX : ∀ E μ', thr' (aR kd i :: [v1, v2, v3, v4, v5, v6]) μ E μ' → thr E μ') (hmc : k + mc' ≤ mc) (hms : n + ms' ≤ ms) : J pc L (v6 :: v5 :: v4 :: v3 :: v2 :: v1 :: aR kd i :: st) μ k n :=
  mj_callVXG C hM (avs := [v1, v2, v3, v4, v5, v6]) hdg hp hw1 hw2 hw3 hw4 hw5 hsh hc h61 hd hR hcat hroom hpre K KX hmc hms

theorem mj_callVNG (C : jCtx l J cc nL own R rt md hh ret thr mc ms) {y : MethodName} {bytes : ByteArray} {maxL : Nat} {rt' : Option FieldType} {fr lo mc' ms' : Nat} {pre : List jV → jM → Prop} {post : List jV → jM → Option jV → jM → Prop} {thr' : List jV → jM → String → jM → Prop} (hM : jMet l y bytes maxL rt' fr lo mc' ms' pre post thr') {idx kd i ci : Nat} {avs : List jV} (hdg : decode cc pc = .ok (.invokevirtual idx, 3)) (hp : pc + 3 = pc') (hw1 : Cond.methodLink own idx y ∈ jWL) (hw2 : Cond.instanceMethod y ∈ jWL) (hw3 : Cond.selects (jNm ci) y y ∈ jWL) (hw4 : Cond.initialized (jNm ci) ∈ jWL) (hw5 : Cond.code y bytes maxL rt' ∈ jWL) (hsh : jSh kd = .inl ci) (hc : ci < 7) (h61 : kd ≠ 61) (hd : y.cls = jNm ci ∧ y.cls ≠ "java/lang/invoke/MethodHandle" ∧ y.cls ≠ "java/lang/invoke/VarHandle" ∧ (parseMethodDescriptor y.desc).map (fun d => d.parameters.length) = some avs.length) (hR : fr + 1 ≤ R.frames ∧ 8 + (maxL + 11) + lo ≤ R.locals) (hcat : (st.map jcat).sum ≤ 8) (hroom : k + mc' ≤ R.cells ∧ n + ms' ≤ R.slots)
    (hpre : pre (aR kd i :: avs) μ) (K : ∀ r μ', post (aR kd i :: avs) μ r μ' → (∀ x, mN μ x ≤ mN μ' x) → J pc' L (r.toList ++ st) μ' (k + mc') (n + ms')) (KX : ∀ E μ', ¬ thr' (aR kd i :: avs) μ E μ') : J pc L (avs.reverse ++ aR kd i :: st) μ k n := by
  obtain ⟨p, e, s, m, args, below, meth, c, D, cm, ad0, μ0, Q, rfl, hx, hb, hml, hrt, hown, hlk, hU, hE⟩ := C
  subst hp
  intro ad H locs ls hT hX hS hL hs9 hl
  have hsp : ∀ v ∈ st, jL μ v := fun v hv => hs9 v (List.mem_append_right _ (List.mem_cons_of_mem _ hv))

  have hrec : i < mN μ kd := hs9 (aR kd i) (List.mem_append_right _ List.mem_cons_self)
  have hav : ∀ v ∈ aR kd i :: avs, jL μ v := fun v hv => by
    rcases List.mem_cons.mp hv with rfl | h
    · exact hrec
    · exact hs9 v (List.mem_append_left _ (List.mem_reverse.mpr h))
  obtain ⟨cell, q1, q2, q3, q4⟩ := jAt_obj (hT.1 kd i h61 hrec) hsh
  have hcls := (hU.1.1 ci _ (jCl_at hc)).2
  have hr := vx_runV (meth := meth) (below := below) (args := args) (e := e) (g := F0 m pc ls ((avs.reverse ++ aR kd i :: st).map (jc ad))) (locs := locs) (slots := n) (b := ad kd i) (As := avs.map (jc ad)) (rest := st.map (jc ad)) ⟨hx, hb, hml, hown, fun w h => hU.w h⟩ (hM D cm ad μ (aR kd i :: avs) H.size hav hpre) (cwV (own := own) (C := jNm ci) (index := idx) (y := y) (bytes := bytes) (maxL := maxL) (ret := rt') avs.length (fun w h => hU.w h) (jGoodIn (fun w hw => by
      simp only [wsV, List.cons_append, List.nil_append, List.mem_cons, List.not_mem_nil, or_false] at hw
      rcases hw with rfl | rfl | rfl | rfl | rfl
      · exact ⟨hw1, rfl⟩
      · exact ⟨hw2, rfl⟩
      · exact ⟨hw3, rfl⟩
      · exact ⟨hw4, rfl⟩
      · exact ⟨hw5, rfl⟩)) rfl rfl rfl hd hR) ⟨jPc_blind, ⟨cell, q1, by rw [q3]; rfl, by rw [q2]; exact hcls.1⟩, jx_pre hU hT hX hS (aR kd i :: avs)⟩ rfl (by simp) hl.1 (by simp [jc]) (lv_room (by rw [jc_cats]; exact hcat)) hdg hroom

  exact jx_vrun hr hX hS hL hsp hl (fun r μ' hq hm => K r μ' hq hm) (fun E ce q9 ad' μ' H1 locs1 ht _ _ _ _ _ _ _ _ => absurd ht (KX E μ'))

theorem mj_callVN_0 (C : jCtx l J cc nL own R rt md hh ret thr mc ms) {y : MethodName} {bytes : ByteArray} {maxL : Nat} {rt' : Option FieldType} {fr lo mc' ms' : Nat} {pre : List jV → jM → Prop} {post : List jV → jM → Option jV → jM → Prop} {thr' : List jV → jM → String → jM → Prop} (hM : jMet l y bytes maxL rt' fr lo mc' ms' pre post thr') {idx kd i ci : Nat}  (hdg : decode cc pc = .ok (.invokevirtual idx, 3)) (hp : pc + 3 = pc') (hw1 : Cond.methodLink own idx y ∈ jWL) (hw2 : Cond.instanceMethod y ∈ jWL) (hw3 : Cond.selects (jNm ci) y y ∈ jWL) (hw4 : Cond.initialized (jNm ci) ∈ jWL) (hw5 : Cond.code y bytes maxL rt' ∈ jWL) (hsh : jSh kd = .inl ci) (hc : ci < 7) (h61 : kd ≠ 61) (hd : y.cls = jNm ci ∧ y.cls ≠ "java/lang/invoke/MethodHandle" ∧ y.cls ≠ "java/lang/invoke/VarHandle" ∧ (parseMethodDescriptor y.desc).map (fun d => d.parameters.length) = some 0) (hR : fr + 1 ≤ R.frames ∧ 8 + (maxL + 11) + lo ≤ R.locals) (hcat : (st.map jcat).sum ≤ 8) (hroom : k + mc' ≤ R.cells ∧ n + ms' ≤ R.slots)
    (hpre : pre (aR kd i :: []) μ) (K : ∀ r μ', post (aR kd i :: []) μ r μ' → (∀ x, mN μ x ≤ mN μ' x) → J pc' L (r.toList ++ st) μ' (k + mc') (n + ms')) (KX : ∀ E μ', ¬ thr' (aR kd i :: []) μ E μ') : J pc L (aR kd i :: st) μ k n :=
  mj_callVNG C hM (avs := []) hdg hp hw1 hw2 hw3 hw4 hw5 hsh hc h61 hd hR hcat hroom hpre K KX

theorem mj_callVN_1 (C : jCtx l J cc nL own R rt md hh ret thr mc ms) {y : MethodName} {bytes : ByteArray} {maxL : Nat} {rt' : Option FieldType} {fr lo mc' ms' : Nat} {pre : List jV → jM → Prop} {post : List jV → jM → Option jV → jM → Prop} {thr' : List jV → jM → String → jM → Prop} (hM : jMet l y bytes maxL rt' fr lo mc' ms' pre post thr') {idx kd i ci : Nat} {v1 : jV} (hdg : decode cc pc = .ok (.invokevirtual idx, 3)) (hp : pc + 3 = pc') (hw1 : Cond.methodLink own idx y ∈ jWL) (hw2 : Cond.instanceMethod y ∈ jWL) (hw3 : Cond.selects (jNm ci) y y ∈ jWL) (hw4 : Cond.initialized (jNm ci) ∈ jWL) (hw5 : Cond.code y bytes maxL rt' ∈ jWL) (hsh : jSh kd = .inl ci) (hc : ci < 7) (h61 : kd ≠ 61) (hd : y.cls = jNm ci ∧ y.cls ≠ "java/lang/invoke/MethodHandle" ∧ y.cls ≠ "java/lang/invoke/VarHandle" ∧ (parseMethodDescriptor y.desc).map (fun d => d.parameters.length) = some 1) (hR : fr + 1 ≤ R.frames ∧ 8 + (maxL + 11) + lo ≤ R.locals) (hcat : (st.map jcat).sum ≤ 8) (hroom : k + mc' ≤ R.cells ∧ n + ms' ≤ R.slots)
    (hpre : pre (aR kd i :: [v1]) μ) (K : ∀ r μ', post (aR kd i :: [v1]) μ r μ' → (∀ x, mN μ x ≤ mN μ' x) → J pc' L (r.toList ++ st) μ' (k + mc') (n + ms')) (KX : ∀ E μ', ¬ thr' (aR kd i :: [v1]) μ E μ') : J pc L (v1 :: aR kd i :: st) μ k n :=
  mj_callVNG C hM (avs := [v1]) hdg hp hw1 hw2 hw3 hw4 hw5 hsh hc h61 hd hR hcat hroom hpre K KX

theorem mj_callVN_2 (C : jCtx l J cc nL own R rt md hh ret thr mc ms) {y : MethodName} {bytes : ByteArray} {maxL : Nat} {rt' : Option FieldType} {fr lo mc' ms' : Nat} {pre : List jV → jM → Prop} {post : List jV → jM → Option jV → jM → Prop} {thr' : List jV → jM → String → jM → Prop} (hM : jMet l y bytes maxL rt' fr lo mc' ms' pre post thr') {idx kd i ci : Nat} {v1 v2 : jV} (hdg : decode cc pc = .ok (.invokevirtual idx, 3)) (hp : pc + 3 = pc') (hw1 : Cond.methodLink own idx y ∈ jWL) (hw2 : Cond.instanceMethod y ∈ jWL) (hw3 : Cond.selects (jNm ci) y y ∈ jWL) (hw4 : Cond.initialized (jNm ci) ∈ jWL) (hw5 : Cond.code y bytes maxL rt' ∈ jWL) (hsh : jSh kd = .inl ci) (hc : ci < 7) (h61 : kd ≠ 61) (hd : y.cls = jNm ci ∧ y.cls ≠ "java/lang/invoke/MethodHandle" ∧ y.cls ≠ "java/lang/invoke/VarHandle" ∧ (parseMethodDescriptor y.desc).map (fun d => d.parameters.length) = some 2) (hR : fr + 1 ≤ R.frames ∧ 8 + (maxL + 11) + lo ≤ R.locals) (hcat : (st.map jcat).sum ≤ 8) (hroom : k + mc' ≤ R.cells ∧ n + ms' ≤ R.slots)
    (hpre : pre (aR kd i :: [v1, v2]) μ) (K : ∀ r μ', post (aR kd i :: [v1, v2]) μ r μ' → (∀ x, mN μ x ≤ mN μ' x) → J pc' L (r.toList ++ st) μ' (k + mc') (n + ms')) (KX : ∀ E μ', ¬ thr' (aR kd i :: [v1, v2]) μ E μ') : J pc L (v2 :: v1 :: aR kd i :: st) μ k n :=
  mj_callVNG C hM (avs := [v1, v2]) hdg hp hw1 hw2 hw3 hw4 hw5 hsh hc h61 hd hR hcat hroom hpre K KX

theorem mj_callVN_3 (C : jCtx l J cc nL own R rt md hh ret thr mc ms) {y : MethodName} {bytes : ByteArray} {maxL : Nat} {rt' : Option FieldType} {fr lo mc' ms' : Nat} {pre : List jV → jM → Prop} {post : List jV → jM → Option jV → jM → Prop} {thr' : List jV → jM → String → jM → Prop} (hM : jMet l y bytes maxL rt' fr lo mc' ms' pre post thr') {idx kd i ci : Nat} {v1 v2 v3 : jV} (hdg : decode cc pc = .ok (.invokevirtual idx, 3)) (hp : pc + 3 = pc') (hw1 : Cond.methodLink own idx y ∈ jWL) (hw2 : Cond.instanceMethod y ∈ jWL) (hw3 : Cond.selects (jNm ci) y y ∈ jWL) (hw4 : Cond.initialized (jNm ci) ∈ jWL) (hw5 : Cond.code y bytes maxL rt' ∈ jWL) (hsh : jSh kd = .inl ci) (hc : ci < 7) (h61 : kd ≠ 61) (hd : y.cls = jNm ci ∧ y.cls ≠ "java/lang/invoke/MethodHandle" ∧ y.cls ≠ "java/lang/invoke/VarHandle" ∧ (parseMethodDescriptor y.desc).map (fun d => d.parameters.length) = some 3) (hR : fr + 1 ≤ R.frames ∧ 8 + (maxL + 11) + lo ≤ R.locals) (hcat : (st.map jcat).sum ≤ 8) (hroom : k + mc' ≤ R.cells ∧ n + ms' ≤ R.slots)
    (hpre : pre (aR kd i :: [v1, v2, v3]) μ) (K : ∀ r μ', post (aR kd i :: [v1, v2, v3]) μ r μ' → (∀ x, mN μ x ≤ mN μ' x) → J pc' L (r.toList ++ st) μ' (k + mc') (n + ms')) (KX : ∀ E μ', ¬ thr' (aR kd i :: [v1, v2, v3]) μ E μ') : J pc L (v3 :: v2 :: v1 :: aR kd i :: st) μ k n :=
  mj_callVNG C hM (avs := [v1, v2, v3]) hdg hp hw1 hw2 hw3 hw4 hw5 hsh hc h61 hd hR hcat hroom hpre K KX

theorem mj_callVN_4 (C : jCtx l J cc nL own R rt md hh ret thr mc ms) {y : MethodName} {bytes : ByteArray} {maxL : Nat} {rt' : Option FieldType} {fr lo mc' ms' : Nat} {pre : List jV → jM → Prop} {post : List jV → jM → Option jV → jM → Prop} {thr' : List jV → jM → String → jM → Prop} (hM : jMet l y bytes maxL rt' fr lo mc' ms' pre post thr') {idx kd i ci : Nat} {v1 v2 v3 v4 : jV} (hdg : decode cc pc = .ok (.invokevirtual idx, 3)) (hp : pc + 3 = pc') (hw1 : Cond.methodLink own idx y ∈ jWL) (hw2 : Cond.instanceMethod y ∈ jWL) (hw3 : Cond.selects (jNm ci) y y ∈ jWL) (hw4 : Cond.initialized (jNm ci) ∈ jWL) (hw5 : Cond.code y bytes maxL rt' ∈ jWL) (hsh : jSh kd = .inl ci) (hc : ci < 7) (h61 : kd ≠ 61) (hd : y.cls = jNm ci ∧ y.cls ≠ "java/lang/invoke/MethodHandle" ∧ y.cls ≠ "java/lang/invoke/VarHandle" ∧ (parseMethodDescriptor y.desc).map (fun d => d.parameters.length) = some 4) (hR : fr + 1 ≤ R.frames ∧ 8 + (maxL + 11) + lo ≤ R.locals) (hcat : (st.map jcat).sum ≤ 8) (hroom : k + mc' ≤ R.cells ∧ n + ms' ≤ R.slots)
    (hpre : pre (aR kd i :: [v1, v2, v3, v4]) μ) (K : ∀ r μ', post (aR kd i :: [v1, v2, v3, v4]) μ r μ' → (∀ x, mN μ x ≤ mN μ' x) → J pc' L (r.toList ++ st) μ' (k + mc') (n + ms')) (KX : ∀ E μ', ¬ thr' (aR kd i :: [v1, v2, v3, v4]) μ E μ') : J pc L (v4 :: v3 :: v2 :: v1 :: aR kd i :: st) μ k n :=
  mj_callVNG C hM (avs := [v1, v2, v3, v4]) hdg hp hw1 hw2 hw3 hw4 hw5 hsh hc h61 hd hR hcat hroom hpre K KX

theorem mj_callVN_5 (C : jCtx l J cc nL own R rt md hh ret thr mc ms) {y : MethodName} {bytes : ByteArray} {maxL : Nat} {rt' : Option FieldType} {fr lo mc' ms' : Nat} {pre : List jV → jM → Prop} {post : List jV → jM → Option jV → jM → Prop} {thr' : List jV → jM → String → jM → Prop} (hM : jMet l y bytes maxL rt' fr lo mc' ms' pre post thr') {idx kd i ci : Nat} {v1 v2 v3 v4 v5 : jV} (hdg : decode cc pc = .ok (.invokevirtual idx, 3)) (hp : pc + 3 = pc') (hw1 : Cond.methodLink own idx y ∈ jWL) (hw2 : Cond.instanceMethod y ∈ jWL) (hw3 : Cond.selects (jNm ci) y y ∈ jWL) (hw4 : Cond.initialized (jNm ci) ∈ jWL) (hw5 : Cond.code y bytes maxL rt' ∈ jWL) (hsh : jSh kd = .inl ci) (hc : ci < 7) (h61 : kd ≠ 61) (hd : y.cls = jNm ci ∧ y.cls ≠ "java/lang/invoke/MethodHandle" ∧ y.cls ≠ "java/lang/invoke/VarHandle" ∧ (parseMethodDescriptor y.desc).map (fun d => d.parameters.length) = some 5) (hR : fr + 1 ≤ R.frames ∧ 8 + (maxL + 11) + lo ≤ R.locals) (hcat : (st.map jcat).sum ≤ 8) (hroom : k + mc' ≤ R.cells ∧ n + ms' ≤ R.slots)
    (hpre : pre (aR kd i :: [v1, v2, v3, v4, v5]) μ) (K : ∀ r μ', post (aR kd i :: [v1, v2, v3, v4, v5]) μ r μ' → (∀ x, mN μ x ≤ mN μ' x) → J pc' L (r.toList ++ st) μ' (k + mc') (n + ms')) (KX : ∀ E μ', ¬ thr' (aR kd i :: [v1, v2, v3, v4, v5]) μ E μ') : J pc L (v5 :: v4 :: v3 :: v2 :: v1 :: aR kd i :: st) μ k n :=
  mj_callVNG C hM (avs := [v1, v2, v3, v4, v5]) hdg hp hw1 hw2 hw3 hw4 hw5 hsh hc h61 hd hR hcat hroom hpre K KX

theorem mj_callVN_6 (C : jCtx l J cc nL own R rt md hh ret thr mc ms) {y : MethodName} {bytes : ByteArray} {maxL : Nat} {rt' : Option FieldType} {fr lo mc' ms' : Nat} {pre : List jV → jM → Prop} {post : List jV → jM → Option jV → jM → Prop} {thr' : List jV → jM → String → jM → Prop} (hM : jMet l y bytes maxL rt' fr lo mc' ms' pre post thr') {idx kd i ci : Nat} {v1 v2 v3 v4 v5 v6 : jV} (hdg : decode cc pc = .ok (.invokevirtual idx, 3)) (hp : pc + 3 = pc') (hw1 : Cond.methodLink own idx y ∈ jWL) (hw2 : Cond.instanceMethod y ∈ jWL) (hw3 : Cond.selects (jNm ci) y y ∈ jWL) (hw4 : Cond.initialized (jNm ci) ∈ jWL) (hw5 : Cond.code y bytes maxL rt' ∈ jWL) (hsh : jSh kd = .inl ci) (hc : ci < 7) (h61 : kd ≠ 61) (hd : y.cls = jNm ci ∧ y.cls ≠ "java/lang/invoke/MethodHandle" ∧ y.cls ≠ "java/lang/invoke/VarHandle" ∧ (parseMethodDescriptor y.desc).map (fun d => d.parameters.length) = some 6) (hR : fr + 1 ≤ R.frames ∧ 8 + (maxL + 11) + lo ≤ R.locals) (hcat : (st.map jcat).sum ≤ 8) (hroom : k + mc' ≤ R.cells ∧ n + ms' ≤ R.slots)
    (hpre : pre (aR kd i :: [v1, v2, v3, v4, v5, v6]) μ) (K : ∀ r μ', post (aR kd i :: [v1, v2, v3, v4, v5, v6]) μ r μ' → (∀ x, mN μ x ≤ mN μ' x) → J pc' L (r.toList ++ st) μ' (k + mc') (n + ms')) (KX : ∀ E μ', ¬ thr' (aR kd i :: [v1, v2, v3, v4, v5, v6]) μ E μ') : J pc L (v6 :: v5 :: v4 :: v3 :: v2 :: v1 :: aR kd i :: st) μ k n :=
  mj_callVNG C hM (avs := [v1, v2, v3, v4, v5, v6]) hdg hp hw1 hw2 hw3 hw4 hw5 hsh hc h61 hd hR hcat hroom hpre K KX

theorem mj_callSXG (C : jCtx l J cc nL own R rt 0 hh ret thr mc ms) {y : MethodName} {bytes : ByteArray} {maxL : Nat} {rt' : Option FieldType} {fr lo mc' ms' : Nat} {pre : List jV → jM → Prop} {post : List jV → jM → Option jV → jM → Prop} {thr' : List jV → jM → String → jM → Prop} (hM : jMet l y bytes maxL rt' fr lo mc' ms' pre post thr') {idx : Nat} {avs : List jV} (hdg : decode cc pc = .ok (.invokestatic idx, 3)) (hp : pc + 3 = pc') (hw1 : Cond.methodLink own idx y ∈ jWL) (hw2 : Cond.static y ∈ jWL) (hw4 : Cond.initialized y.cls ∈ jWL) (hw5 : Cond.code y bytes maxL rt' ∈ jWL)  (hd : y.cls ≠ "java/lang/invoke/MethodHandle" ∧ y.cls ≠ "java/lang/invoke/VarHandle" ∧ (parseMethodDescriptor y.desc).map (fun d => d.parameters.length) = some avs.length) (hR : fr + 1 ≤ R.frames ∧ 8 + (maxL + 11) + lo ≤ R.locals) (hcat : (st.map jcat).sum ≤ 8) (hroom : k + mc' ≤ R.cells ∧ n + ms' ≤ R.slots)
    (hpre : pre avs μ) (K : ∀ r μ', post avs μ r μ' → (∀ x, mN μ x ≤ mN μ' x) → J pc' L (r.toList ++ st) μ' (k + mc') (n + ms')) (KX : ∀ E μ', thr' avs μ E μ' → thr E μ') (hmc : k + mc' ≤ mc) (hms : n + ms' ≤ ms) : J pc L (avs.reverse ++ st) μ k n := by
  obtain ⟨p, e, s, m, args, below, meth, c, D, cm, ad0, μ0, Q, rfl, hx, hb, hml, hrt, hown, hlk, hU, hE⟩ := C
  subst hp
  intro ad H locs ls hT hX hS hL hs9 hl
  have hsp : ∀ v ∈ st, jL μ v := fun v hv => hs9 v (List.mem_append_right _ hv)

  have hav : ∀ v ∈ avs, jL μ v := fun v hv => hs9 v (List.mem_append_left _ (List.mem_reverse.mpr hv))
  have hr := vx_runS (meth := meth) (below := below) (args := args) (e := e) (g := F0 m pc ls ((avs.reverse ++ st).map (jc ad))) (locs := locs) (slots := n) (As := avs.map (jc ad)) (rest := st.map (jc ad)) ⟨hx, hb, hml, hown, fun w h => hU.w h⟩ (hM D cm ad μ avs H.size hav hpre) ⟨callB_of (own := own) (index := idx) (y := y) (bytes := bytes) (maxL := maxL) (ret := rt') avs.length (fun w h => hU.w h) (jGoodIn (fun w hw => by
      simp only [List.mem_cons, List.not_mem_nil, or_false] at hw
      subst hw
      exact ⟨hw5, rfl⟩)) rfl rfl rfl (hU.w hw4) (hU.w hw1) hd hR, hU.w hw2⟩ ⟨jPc_blind, jx_pre hU hT hX hS avs⟩ rfl (by simp) hl.1 (by simp [jc]) (lv_room (by rw [jc_cats]; exact hcat)) hdg hroom

  exact jx_vrun hr hX hS hL hsp hl (fun r μ' hq hm => K r μ' hq hm) (fun E ce q9 ad' μ' H1 locs1 ht k1 k2 k3 _ _ hce hcv hcl => jx_out hE hlk (KX E μ' ht) k1 k2 k3 hce hcv hcl hmc hms)

theorem mj_callSX_1 (C : jCtx l J cc nL own R rt 0 hh ret thr mc ms) {y : MethodName} {bytes : ByteArray} {maxL : Nat} {rt' : Option FieldType} {fr lo mc' ms' : Nat} {pre : List jV → jM → Prop} {post : List jV → jM → Option jV → jM → Prop} {thr' : List jV → jM → String → jM → Prop} (hM : jMet l y bytes maxL rt' fr lo mc' ms' pre post thr') {idx : Nat} {v1 : jV} (hdg : decode cc pc = .ok (.invokestatic idx, 3)) (hp : pc + 3 = pc') (hw1 : Cond.methodLink own idx y ∈ jWL) (hw2 : Cond.static y ∈ jWL) (hw4 : Cond.initialized y.cls ∈ jWL) (hw5 : Cond.code y bytes maxL rt' ∈ jWL)  (hd : y.cls ≠ "java/lang/invoke/MethodHandle" ∧ y.cls ≠ "java/lang/invoke/VarHandle" ∧ (parseMethodDescriptor y.desc).map (fun d => d.parameters.length) = some 1) (hR : fr + 1 ≤ R.frames ∧ 8 + (maxL + 11) + lo ≤ R.locals) (hcat : (st.map jcat).sum ≤ 8) (hroom : k + mc' ≤ R.cells ∧ n + ms' ≤ R.slots)
    (hpre : pre [v1] μ) (K : ∀ r μ', post [v1] μ r μ' → (∀ x, mN μ x ≤ mN μ' x) → J pc' L (r.toList ++ st) μ' (k + mc') (n + ms')) (KX : ∀ E μ', thr' [v1] μ E μ' → thr E μ') (hmc : k + mc' ≤ mc) (hms : n + ms' ≤ ms) : J pc L (v1 :: st) μ k n :=
  mj_callSXG C hM (avs := [v1]) hdg hp hw1 hw2 hw4 hw5  hd hR hcat hroom hpre K KX hmc hms

theorem mj_callSX_2 (C : jCtx l J cc nL own R rt 0 hh ret thr mc ms) {y : MethodName} {bytes : ByteArray} {maxL : Nat} {rt' : Option FieldType} {fr lo mc' ms' : Nat} {pre : List jV → jM → Prop} {post : List jV → jM → Option jV → jM → Prop} {thr' : List jV → jM → String → jM → Prop} (hM : jMet l y bytes maxL rt' fr lo mc' ms' pre post thr') {idx : Nat} {v1 v2 : jV} (hdg : decode cc pc = .ok (.invokestatic idx, 3)) (hp : pc + 3 = pc') (hw1 : Cond.methodLink own idx y ∈ jWL) (hw2 : Cond.static y ∈ jWL) (hw4 : Cond.initialized y.cls ∈ jWL) (hw5 : Cond.code y bytes maxL rt' ∈ jWL)  (hd : y.cls ≠ "java/lang/invoke/MethodHandle" ∧ y.cls ≠ "java/lang/invoke/VarHandle" ∧ (parseMethodDescriptor y.desc).map (fun d => d.parameters.length) = some 2) (hR : fr + 1 ≤ R.frames ∧ 8 + (maxL + 11) + lo ≤ R.locals) (hcat : (st.map jcat).sum ≤ 8) (hroom : k + mc' ≤ R.cells ∧ n + ms' ≤ R.slots)
    (hpre : pre [v1, v2] μ) (K : ∀ r μ', post [v1, v2] μ r μ' → (∀ x, mN μ x ≤ mN μ' x) → J pc' L (r.toList ++ st) μ' (k + mc') (n + ms')) (KX : ∀ E μ', thr' [v1, v2] μ E μ' → thr E μ') (hmc : k + mc' ≤ mc) (hms : n + ms' ≤ ms) : J pc L (v2 :: v1 :: st) μ k n :=
  mj_callSXG C hM (avs := [v1, v2]) hdg hp hw1 hw2 hw4 hw5  hd hR hcat hroom hpre K KX hmc hms

theorem mj_callSX_3 (C : jCtx l J cc nL own R rt 0 hh ret thr mc ms) {y : MethodName} {bytes : ByteArray} {maxL : Nat} {rt' : Option FieldType} {fr lo mc' ms' : Nat} {pre : List jV → jM → Prop} {post : List jV → jM → Option jV → jM → Prop} {thr' : List jV → jM → String → jM → Prop} (hM : jMet l y bytes maxL rt' fr lo mc' ms' pre post thr') {idx : Nat} {v1 v2 v3 : jV} (hdg : decode cc pc = .ok (.invokestatic idx, 3)) (hp : pc + 3 = pc') (hw1 : Cond.methodLink own idx y ∈ jWL) (hw2 : Cond.static y ∈ jWL) (hw4 : Cond.initialized y.cls ∈ jWL) (hw5 : Cond.code y bytes maxL rt' ∈ jWL)  (hd : y.cls ≠ "java/lang/invoke/MethodHandle" ∧ y.cls ≠ "java/lang/invoke/VarHandle" ∧ (parseMethodDescriptor y.desc).map (fun d => d.parameters.length) = some 3) (hR : fr + 1 ≤ R.frames ∧ 8 + (maxL + 11) + lo ≤ R.locals) (hcat : (st.map jcat).sum ≤ 8) (hroom : k + mc' ≤ R.cells ∧ n + ms' ≤ R.slots)
    (hpre : pre [v1, v2, v3] μ) (K : ∀ r μ', post [v1, v2, v3] μ r μ' → (∀ x, mN μ x ≤ mN μ' x) → J pc' L (r.toList ++ st) μ' (k + mc') (n + ms')) (KX : ∀ E μ', thr' [v1, v2, v3] μ E μ' → thr E μ') (hmc : k + mc' ≤ mc) (hms : n + ms' ≤ ms) : J pc L (v3 :: v2 :: v1 :: st) μ k n :=
  mj_callSXG C hM (avs := [v1, v2, v3]) hdg hp hw1 hw2 hw4 hw5  hd hR hcat hroom hpre K KX hmc hms

theorem mj_callSX_4 (C : jCtx l J cc nL own R rt 0 hh ret thr mc ms) {y : MethodName} {bytes : ByteArray} {maxL : Nat} {rt' : Option FieldType} {fr lo mc' ms' : Nat} {pre : List jV → jM → Prop} {post : List jV → jM → Option jV → jM → Prop} {thr' : List jV → jM → String → jM → Prop} (hM : jMet l y bytes maxL rt' fr lo mc' ms' pre post thr') {idx : Nat} {v1 v2 v3 v4 : jV} (hdg : decode cc pc = .ok (.invokestatic idx, 3)) (hp : pc + 3 = pc') (hw1 : Cond.methodLink own idx y ∈ jWL) (hw2 : Cond.static y ∈ jWL) (hw4 : Cond.initialized y.cls ∈ jWL) (hw5 : Cond.code y bytes maxL rt' ∈ jWL)  (hd : y.cls ≠ "java/lang/invoke/MethodHandle" ∧ y.cls ≠ "java/lang/invoke/VarHandle" ∧ (parseMethodDescriptor y.desc).map (fun d => d.parameters.length) = some 4) (hR : fr + 1 ≤ R.frames ∧ 8 + (maxL + 11) + lo ≤ R.locals) (hcat : (st.map jcat).sum ≤ 8) (hroom : k + mc' ≤ R.cells ∧ n + ms' ≤ R.slots)
    (hpre : pre [v1, v2, v3, v4] μ) (K : ∀ r μ', post [v1, v2, v3, v4] μ r μ' → (∀ x, mN μ x ≤ mN μ' x) → J pc' L (r.toList ++ st) μ' (k + mc') (n + ms')) (KX : ∀ E μ', thr' [v1, v2, v3, v4] μ E μ' → thr E μ') (hmc : k + mc' ≤ mc) (hms : n + ms' ≤ ms) : J pc L (v4 :: v3 :: v2 :: v1 :: st) μ k n :=
  mj_callSXG C hM (avs := [v1, v2, v3, v4]) hdg hp hw1 hw2 hw4 hw5  hd hR hcat hroom hpre K KX hmc hms

theorem mj_callSX_5 (C : jCtx l J cc nL own R rt 0 hh ret thr mc ms) {y : MethodName} {bytes : ByteArray} {maxL : Nat} {rt' : Option FieldType} {fr lo mc' ms' : Nat} {pre : List jV → jM → Prop} {post : List jV → jM → Option jV → jM → Prop} {thr' : List jV → jM → String → jM → Prop} (hM : jMet l y bytes maxL rt' fr lo mc' ms' pre post thr') {idx : Nat} {v1 v2 v3 v4 v5 : jV} (hdg : decode cc pc = .ok (.invokestatic idx, 3)) (hp : pc + 3 = pc') (hw1 : Cond.methodLink own idx y ∈ jWL) (hw2 : Cond.static y ∈ jWL) (hw4 : Cond.initialized y.cls ∈ jWL) (hw5 : Cond.code y bytes maxL rt' ∈ jWL)  (hd : y.cls ≠ "java/lang/invoke/MethodHandle" ∧ y.cls ≠ "java/lang/invoke/VarHandle" ∧ (parseMethodDescriptor y.desc).map (fun d => d.parameters.length) = some 5) (hR : fr + 1 ≤ R.frames ∧ 8 + (maxL + 11) + lo ≤ R.locals) (hcat : (st.map jcat).sum ≤ 8) (hroom : k + mc' ≤ R.cells ∧ n + ms' ≤ R.slots)
    (hpre : pre [v1, v2, v3, v4, v5] μ) (K : ∀ r μ', post [v1, v2, v3, v4, v5] μ r μ' → (∀ x, mN μ x ≤ mN μ' x) → J pc' L (r.toList ++ st) μ' (k + mc') (n + ms')) (KX : ∀ E μ', thr' [v1, v2, v3, v4, v5] μ E μ' → thr E μ') (hmc : k + mc' ≤ mc) (hms : n + ms' ≤ ms) : J pc L (v5 :: v4 :: v3 :: v2 :: v1 :: st) μ k n :=
  mj_callSXG C hM (avs := [v1, v2, v3, v4, v5]) hdg hp hw1 hw2 hw4 hw5  hd hR hcat hroom hpre K KX hmc hms

theorem mj_callSX_6 (C : jCtx l J cc nL own R rt 0 hh ret thr mc ms) {y : MethodName} {bytes : ByteArray} {maxL : Nat} {rt' : Option FieldType} {fr lo mc' ms' : Nat} {pre : List jV → jM → Prop} {post : List jV → jM → Option jV → jM → Prop} {thr' : List jV → jM → String → jM → Prop} (hM : jMet l y bytes maxL rt' fr lo mc' ms' pre post thr') {idx : Nat} {v1 v2 v3 v4 v5 v6 : jV} (hdg : decode cc pc = .ok (.invokestatic idx, 3)) (hp : pc + 3 = pc') (hw1 : Cond.methodLink own idx y ∈ jWL) (hw2 : Cond.static y ∈ jWL) (hw4 : Cond.initialized y.cls ∈ jWL) (hw5 : Cond.code y bytes maxL rt' ∈ jWL)  (hd : y.cls ≠ "java/lang/invoke/MethodHandle" ∧ y.cls ≠ "java/lang/invoke/VarHandle" ∧ (parseMethodDescriptor y.desc).map (fun d => d.parameters.length) = some 6) (hR : fr + 1 ≤ R.frames ∧ 8 + (maxL + 11) + lo ≤ R.locals) (hcat : (st.map jcat).sum ≤ 8) (hroom : k + mc' ≤ R.cells ∧ n + ms' ≤ R.slots)
    (hpre : pre [v1, v2, v3, v4, v5, v6] μ) (K : ∀ r μ', post [v1, v2, v3, v4, v5, v6] μ r μ' → (∀ x, mN μ x ≤ mN μ' x) → J pc' L (r.toList ++ st) μ' (k + mc') (n + ms')) (KX : ∀ E μ', thr' [v1, v2, v3, v4, v5, v6] μ E μ' → thr E μ') (hmc : k + mc' ≤ mc) (hms : n + ms' ≤ ms) : J pc L (v6 :: v5 :: v4 :: v3 :: v2 :: v1 :: st) μ k n :=
  mj_callSXG C hM (avs := [v1, v2, v3, v4, v5, v6]) hdg hp hw1 hw2 hw4 hw5  hd hR hcat hroom hpre K KX hmc hms

theorem mj_callSX_7 (C : jCtx l J cc nL own R rt 0 hh ret thr mc ms) {y : MethodName} {bytes : ByteArray} {maxL : Nat} {rt' : Option FieldType} {fr lo mc' ms' : Nat} {pre : List jV → jM → Prop} {post : List jV → jM → Option jV → jM → Prop} {thr' : List jV → jM → String → jM → Prop} (hM : jMet l y bytes maxL rt' fr lo mc' ms' pre post thr') {idx : Nat} {v1 v2 v3 v4 v5 v6 v7 : jV} (hdg : decode cc pc = .ok (.invokestatic idx, 3)) (hp : pc + 3 = pc') (hw1 : Cond.methodLink own idx y ∈ jWL) (hw2 : Cond.static y ∈ jWL) (hw4 : Cond.initialized y.cls ∈ jWL) (hw5 : Cond.code y bytes maxL rt' ∈ jWL)  (hd : y.cls ≠ "java/lang/invoke/MethodHandle" ∧ y.cls ≠ "java/lang/invoke/VarHandle" ∧ (parseMethodDescriptor y.desc).map (fun d => d.parameters.length) = some 7) (hR : fr + 1 ≤ R.frames ∧ 8 + (maxL + 11) + lo ≤ R.locals) (hcat : (st.map jcat).sum ≤ 8) (hroom : k + mc' ≤ R.cells ∧ n + ms' ≤ R.slots)
    (hpre : pre [v1, v2, v3, v4, v5, v6, v7] μ) (K : ∀ r μ', post [v1, v2, v3, v4, v5, v6, v7] μ r μ' → (∀ x, mN μ x ≤ mN μ' x) → J pc' L (r.toList ++ st) μ' (k + mc') (n + ms')) (KX : ∀ E μ', thr' [v1, v2, v3, v4, v5, v6, v7] μ E μ' → thr E μ') (hmc : k + mc' ≤ mc) (hms : n + ms' ≤ ms) : J pc L (v7 :: v6 :: v5 :: v4 :: v3 :: v2 :: v1 :: st) μ k n :=
  mj_callSXG C hM (avs := [v1, v2, v3, v4, v5, v6, v7]) hdg hp hw1 hw2 hw4 hw5  hd hR hcat hroom hpre K KX hmc hms

theorem mj_callSX_8 (C : jCtx l J cc nL own R rt 0 hh ret thr mc ms) {y : MethodName} {bytes : ByteArray} {maxL : Nat} {rt' : Option FieldType} {fr lo mc' ms' : Nat} {pre : List jV → jM → Prop} {post : List jV → jM → Option jV → jM → Prop} {thr' : List jV → jM → String → jM → Prop} (hM : jMet l y bytes maxL rt' fr lo mc' ms' pre post thr') {idx : Nat} {v1 v2 v3 v4 v5 v6 v7 v8 : jV} (hdg : decode cc pc = .ok (.invokestatic idx, 3)) (hp : pc + 3 = pc') (hw1 : Cond.methodLink own idx y ∈ jWL) (hw2 : Cond.static y ∈ jWL) (hw4 : Cond.initialized y.cls ∈ jWL) (hw5 : Cond.code y bytes maxL rt' ∈ jWL)  (hd : y.cls ≠ "java/lang/invoke/MethodHandle" ∧ y.cls ≠ "java/lang/invoke/VarHandle" ∧ (parseMethodDescriptor y.desc).map (fun d => d.parameters.length) = some 8) (hR : fr + 1 ≤ R.frames ∧ 8 + (maxL + 11) + lo ≤ R.locals) (hcat : (st.map jcat).sum ≤ 8) (hroom : k + mc' ≤ R.cells ∧ n + ms' ≤ R.slots)
    (hpre : pre [v1, v2, v3, v4, v5, v6, v7, v8] μ) (K : ∀ r μ', post [v1, v2, v3, v4, v5, v6, v7, v8] μ r μ' → (∀ x, mN μ x ≤ mN μ' x) → J pc' L (r.toList ++ st) μ' (k + mc') (n + ms')) (KX : ∀ E μ', thr' [v1, v2, v3, v4, v5, v6, v7, v8] μ E μ' → thr E μ') (hmc : k + mc' ≤ mc) (hms : n + ms' ≤ ms) : J pc L (v8 :: v7 :: v6 :: v5 :: v4 :: v3 :: v2 :: v1 :: st) μ k n :=
  mj_callSXG C hM (avs := [v1, v2, v3, v4, v5, v6, v7, v8]) hdg hp hw1 hw2 hw4 hw5  hd hR hcat hroom hpre K KX hmc hms

theorem mj_callSNG (C : jCtx l J cc nL own R rt md hh ret thr mc ms) {y : MethodName} {bytes : ByteArray} {maxL : Nat} {rt' : Option FieldType} {fr lo mc' ms' : Nat} {pre : List jV → jM → Prop} {post : List jV → jM → Option jV → jM → Prop} {thr' : List jV → jM → String → jM → Prop} (hM : jMet l y bytes maxL rt' fr lo mc' ms' pre post thr') {idx : Nat} {avs : List jV} (hdg : decode cc pc = .ok (.invokestatic idx, 3)) (hp : pc + 3 = pc') (hw1 : Cond.methodLink own idx y ∈ jWL) (hw2 : Cond.static y ∈ jWL) (hw4 : Cond.initialized y.cls ∈ jWL) (hw5 : Cond.code y bytes maxL rt' ∈ jWL)  (hd : y.cls ≠ "java/lang/invoke/MethodHandle" ∧ y.cls ≠ "java/lang/invoke/VarHandle" ∧ (parseMethodDescriptor y.desc).map (fun d => d.parameters.length) = some avs.length) (hR : fr + 1 ≤ R.frames ∧ 8 + (maxL + 11) + lo ≤ R.locals) (hcat : (st.map jcat).sum ≤ 8) (hroom : k + mc' ≤ R.cells ∧ n + ms' ≤ R.slots)
    (hpre : pre avs μ) (K : ∀ r μ', post avs μ r μ' → (∀ x, mN μ x ≤ mN μ' x) → J pc' L (r.toList ++ st) μ' (k + mc') (n + ms')) (KX : ∀ E μ', ¬ thr' avs μ E μ') : J pc L (avs.reverse ++ st) μ k n := by
  obtain ⟨p, e, s, m, args, below, meth, c, D, cm, ad0, μ0, Q, rfl, hx, hb, hml, hrt, hown, hlk, hU, hE⟩ := C
  subst hp
  intro ad H locs ls hT hX hS hL hs9 hl
  have hsp : ∀ v ∈ st, jL μ v := fun v hv => hs9 v (List.mem_append_right _ hv)

  have hav : ∀ v ∈ avs, jL μ v := fun v hv => hs9 v (List.mem_append_left _ (List.mem_reverse.mpr hv))
  have hr := vx_runS (meth := meth) (below := below) (args := args) (e := e) (g := F0 m pc ls ((avs.reverse ++ st).map (jc ad))) (locs := locs) (slots := n) (As := avs.map (jc ad)) (rest := st.map (jc ad)) ⟨hx, hb, hml, hown, fun w h => hU.w h⟩ (hM D cm ad μ avs H.size hav hpre) ⟨callB_of (own := own) (index := idx) (y := y) (bytes := bytes) (maxL := maxL) (ret := rt') avs.length (fun w h => hU.w h) (jGoodIn (fun w hw => by
      simp only [List.mem_cons, List.not_mem_nil, or_false] at hw
      subst hw
      exact ⟨hw5, rfl⟩)) rfl rfl rfl (hU.w hw4) (hU.w hw1) hd hR, hU.w hw2⟩ ⟨jPc_blind, jx_pre hU hT hX hS avs⟩ rfl (by simp) hl.1 (by simp [jc]) (lv_room (by rw [jc_cats]; exact hcat)) hdg hroom

  exact jx_vrun hr hX hS hL hsp hl (fun r μ' hq hm => K r μ' hq hm) (fun E ce q9 ad' μ' H1 locs1 ht _ _ _ _ _ _ _ _ => absurd ht (KX E μ'))

theorem mj_callSN_1 (C : jCtx l J cc nL own R rt md hh ret thr mc ms) {y : MethodName} {bytes : ByteArray} {maxL : Nat} {rt' : Option FieldType} {fr lo mc' ms' : Nat} {pre : List jV → jM → Prop} {post : List jV → jM → Option jV → jM → Prop} {thr' : List jV → jM → String → jM → Prop} (hM : jMet l y bytes maxL rt' fr lo mc' ms' pre post thr') {idx : Nat} {v1 : jV} (hdg : decode cc pc = .ok (.invokestatic idx, 3)) (hp : pc + 3 = pc') (hw1 : Cond.methodLink own idx y ∈ jWL) (hw2 : Cond.static y ∈ jWL) (hw4 : Cond.initialized y.cls ∈ jWL) (hw5 : Cond.code y bytes maxL rt' ∈ jWL)  (hd : y.cls ≠ "java/lang/invoke/MethodHandle" ∧ y.cls ≠ "java/lang/invoke/VarHandle" ∧ (parseMethodDescriptor y.desc).map (fun d => d.parameters.length) = some 1) (hR : fr + 1 ≤ R.frames ∧ 8 + (maxL + 11) + lo ≤ R.locals) (hcat : (st.map jcat).sum ≤ 8) (hroom : k + mc' ≤ R.cells ∧ n + ms' ≤ R.slots)
    (hpre : pre [v1] μ) (K : ∀ r μ', post [v1] μ r μ' → (∀ x, mN μ x ≤ mN μ' x) → J pc' L (r.toList ++ st) μ' (k + mc') (n + ms')) (KX : ∀ E μ', ¬ thr' [v1] μ E μ') : J pc L (v1 :: st) μ k n :=
  mj_callSNG C hM (avs := [v1]) hdg hp hw1 hw2 hw4 hw5  hd hR hcat hroom hpre K KX

theorem mj_callSN_2 (C : jCtx l J cc nL own R rt md hh ret thr mc ms) {y : MethodName} {bytes : ByteArray} {maxL : Nat} {rt' : Option FieldType} {fr lo mc' ms' : Nat} {pre : List jV → jM → Prop} {post : List jV → jM → Option jV → jM → Prop} {thr' : List jV → jM → String → jM → Prop} (hM : jMet l y bytes maxL rt' fr lo mc' ms' pre post thr') {idx : Nat} {v1 v2 : jV} (hdg : decode cc pc = .ok (.invokestatic idx, 3)) (hp : pc + 3 = pc') (hw1 : Cond.methodLink own idx y ∈ jWL) (hw2 : Cond.static y ∈ jWL) (hw4 : Cond.initialized y.cls ∈ jWL) (hw5 : Cond.code y bytes maxL rt' ∈ jWL)  (hd : y.cls ≠ "java/lang/invoke/MethodHandle" ∧ y.cls ≠ "java/lang/invoke/VarHandle" ∧ (parseMethodDescriptor y.desc).map (fun d => d.parameters.length) = some 2) (hR : fr + 1 ≤ R.frames ∧ 8 + (maxL + 11) + lo ≤ R.locals) (hcat : (st.map jcat).sum ≤ 8) (hroom : k + mc' ≤ R.cells ∧ n + ms' ≤ R.slots)
    (hpre : pre [v1, v2] μ) (K : ∀ r μ', post [v1, v2] μ r μ' → (∀ x, mN μ x ≤ mN μ' x) → J pc' L (r.toList ++ st) μ' (k + mc') (n + ms')) (KX : ∀ E μ', ¬ thr' [v1, v2] μ E μ') : J pc L (v2 :: v1 :: st) μ k n :=
  mj_callSNG C hM (avs := [v1, v2]) hdg hp hw1 hw2 hw4 hw5  hd hR hcat hroom hpre K KX

theorem mj_callSN_3 (C : jCtx l J cc nL own R rt md hh ret thr mc ms) {y : MethodName} {bytes : ByteArray} {maxL : Nat} {rt' : Option FieldType} {fr lo mc' ms' : Nat} {pre : List jV → jM → Prop} {post : List jV → jM → Option jV → jM → Prop} {thr' : List jV → jM → String → jM → Prop} (hM : jMet l y bytes maxL rt' fr lo mc' ms' pre post thr') {idx : Nat} {v1 v2 v3 : jV} (hdg : decode cc pc = .ok (.invokestatic idx, 3)) (hp : pc + 3 = pc') (hw1 : Cond.methodLink own idx y ∈ jWL) (hw2 : Cond.static y ∈ jWL) (hw4 : Cond.initialized y.cls ∈ jWL) (hw5 : Cond.code y bytes maxL rt' ∈ jWL)  (hd : y.cls ≠ "java/lang/invoke/MethodHandle" ∧ y.cls ≠ "java/lang/invoke/VarHandle" ∧ (parseMethodDescriptor y.desc).map (fun d => d.parameters.length) = some 3) (hR : fr + 1 ≤ R.frames ∧ 8 + (maxL + 11) + lo ≤ R.locals) (hcat : (st.map jcat).sum ≤ 8) (hroom : k + mc' ≤ R.cells ∧ n + ms' ≤ R.slots)
    (hpre : pre [v1, v2, v3] μ) (K : ∀ r μ', post [v1, v2, v3] μ r μ' → (∀ x, mN μ x ≤ mN μ' x) → J pc' L (r.toList ++ st) μ' (k + mc') (n + ms')) (KX : ∀ E μ', ¬ thr' [v1, v2, v3] μ E μ') : J pc L (v3 :: v2 :: v1 :: st) μ k n :=
  mj_callSNG C hM (avs := [v1, v2, v3]) hdg hp hw1 hw2 hw4 hw5  hd hR hcat hroom hpre K KX

theorem mj_callSN_4 (C : jCtx l J cc nL own R rt md hh ret thr mc ms) {y : MethodName} {bytes : ByteArray} {maxL : Nat} {rt' : Option FieldType} {fr lo mc' ms' : Nat} {pre : List jV → jM → Prop} {post : List jV → jM → Option jV → jM → Prop} {thr' : List jV → jM → String → jM → Prop} (hM : jMet l y bytes maxL rt' fr lo mc' ms' pre post thr') {idx : Nat} {v1 v2 v3 v4 : jV} (hdg : decode cc pc = .ok (.invokestatic idx, 3)) (hp : pc + 3 = pc') (hw1 : Cond.methodLink own idx y ∈ jWL) (hw2 : Cond.static y ∈ jWL) (hw4 : Cond.initialized y.cls ∈ jWL) (hw5 : Cond.code y bytes maxL rt' ∈ jWL)  (hd : y.cls ≠ "java/lang/invoke/MethodHandle" ∧ y.cls ≠ "java/lang/invoke/VarHandle" ∧ (parseMethodDescriptor y.desc).map (fun d => d.parameters.length) = some 4) (hR : fr + 1 ≤ R.frames ∧ 8 + (maxL + 11) + lo ≤ R.locals) (hcat : (st.map jcat).sum ≤ 8) (hroom : k + mc' ≤ R.cells ∧ n + ms' ≤ R.slots)
    (hpre : pre [v1, v2, v3, v4] μ) (K : ∀ r μ', post [v1, v2, v3, v4] μ r μ' → (∀ x, mN μ x ≤ mN μ' x) → J pc' L (r.toList ++ st) μ' (k + mc') (n + ms')) (KX : ∀ E μ', ¬ thr' [v1, v2, v3, v4] μ E μ') : J pc L (v4 :: v3 :: v2 :: v1 :: st) μ k n :=
  mj_callSNG C hM (avs := [v1, v2, v3, v4]) hdg hp hw1 hw2 hw4 hw5  hd hR hcat hroom hpre K KX

theorem mj_callSN_5 (C : jCtx l J cc nL own R rt md hh ret thr mc ms) {y : MethodName} {bytes : ByteArray} {maxL : Nat} {rt' : Option FieldType} {fr lo mc' ms' : Nat} {pre : List jV → jM → Prop} {post : List jV → jM → Option jV → jM → Prop} {thr' : List jV → jM → String → jM → Prop} (hM : jMet l y bytes maxL rt' fr lo mc' ms' pre post thr') {idx : Nat} {v1 v2 v3 v4 v5 : jV} (hdg : decode cc pc = .ok (.invokestatic idx, 3)) (hp : pc + 3 = pc') (hw1 : Cond.methodLink own idx y ∈ jWL) (hw2 : Cond.static y ∈ jWL) (hw4 : Cond.initialized y.cls ∈ jWL) (hw5 : Cond.code y bytes maxL rt' ∈ jWL)  (hd : y.cls ≠ "java/lang/invoke/MethodHandle" ∧ y.cls ≠ "java/lang/invoke/VarHandle" ∧ (parseMethodDescriptor y.desc).map (fun d => d.parameters.length) = some 5) (hR : fr + 1 ≤ R.frames ∧ 8 + (maxL + 11) + lo ≤ R.locals) (hcat : (st.map jcat).sum ≤ 8) (hroom : k + mc' ≤ R.cells ∧ n + ms' ≤ R.slots)
    (hpre : pre [v1, v2, v3, v4, v5] μ) (K : ∀ r μ', post [v1, v2, v3, v4, v5] μ r μ' → (∀ x, mN μ x ≤ mN μ' x) → J pc' L (r.toList ++ st) μ' (k + mc') (n + ms')) (KX : ∀ E μ', ¬ thr' [v1, v2, v3, v4, v5] μ E μ') : J pc L (v5 :: v4 :: v3 :: v2 :: v1 :: st) μ k n :=
  mj_callSNG C hM (avs := [v1, v2, v3, v4, v5]) hdg hp hw1 hw2 hw4 hw5  hd hR hcat hroom hpre K KX

theorem mj_callSN_6 (C : jCtx l J cc nL own R rt md hh ret thr mc ms) {y : MethodName} {bytes : ByteArray} {maxL : Nat} {rt' : Option FieldType} {fr lo mc' ms' : Nat} {pre : List jV → jM → Prop} {post : List jV → jM → Option jV → jM → Prop} {thr' : List jV → jM → String → jM → Prop} (hM : jMet l y bytes maxL rt' fr lo mc' ms' pre post thr') {idx : Nat} {v1 v2 v3 v4 v5 v6 : jV} (hdg : decode cc pc = .ok (.invokestatic idx, 3)) (hp : pc + 3 = pc') (hw1 : Cond.methodLink own idx y ∈ jWL) (hw2 : Cond.static y ∈ jWL) (hw4 : Cond.initialized y.cls ∈ jWL) (hw5 : Cond.code y bytes maxL rt' ∈ jWL)  (hd : y.cls ≠ "java/lang/invoke/MethodHandle" ∧ y.cls ≠ "java/lang/invoke/VarHandle" ∧ (parseMethodDescriptor y.desc).map (fun d => d.parameters.length) = some 6) (hR : fr + 1 ≤ R.frames ∧ 8 + (maxL + 11) + lo ≤ R.locals) (hcat : (st.map jcat).sum ≤ 8) (hroom : k + mc' ≤ R.cells ∧ n + ms' ≤ R.slots)
    (hpre : pre [v1, v2, v3, v4, v5, v6] μ) (K : ∀ r μ', post [v1, v2, v3, v4, v5, v6] μ r μ' → (∀ x, mN μ x ≤ mN μ' x) → J pc' L (r.toList ++ st) μ' (k + mc') (n + ms')) (KX : ∀ E μ', ¬ thr' [v1, v2, v3, v4, v5, v6] μ E μ') : J pc L (v6 :: v5 :: v4 :: v3 :: v2 :: v1 :: st) μ k n :=
  mj_callSNG C hM (avs := [v1, v2, v3, v4, v5, v6]) hdg hp hw1 hw2 hw4 hw5  hd hR hcat hroom hpre K KX

theorem mj_callSN_7 (C : jCtx l J cc nL own R rt md hh ret thr mc ms) {y : MethodName} {bytes : ByteArray} {maxL : Nat} {rt' : Option FieldType} {fr lo mc' ms' : Nat} {pre : List jV → jM → Prop} {post : List jV → jM → Option jV → jM → Prop} {thr' : List jV → jM → String → jM → Prop} (hM : jMet l y bytes maxL rt' fr lo mc' ms' pre post thr') {idx : Nat} {v1 v2 v3 v4 v5 v6 v7 : jV} (hdg : decode cc pc = .ok (.invokestatic idx, 3)) (hp : pc + 3 = pc') (hw1 : Cond.methodLink own idx y ∈ jWL) (hw2 : Cond.static y ∈ jWL) (hw4 : Cond.initialized y.cls ∈ jWL) (hw5 : Cond.code y bytes maxL rt' ∈ jWL)  (hd : y.cls ≠ "java/lang/invoke/MethodHandle" ∧ y.cls ≠ "java/lang/invoke/VarHandle" ∧ (parseMethodDescriptor y.desc).map (fun d => d.parameters.length) = some 7) (hR : fr + 1 ≤ R.frames ∧ 8 + (maxL + 11) + lo ≤ R.locals) (hcat : (st.map jcat).sum ≤ 8) (hroom : k + mc' ≤ R.cells ∧ n + ms' ≤ R.slots)
    (hpre : pre [v1, v2, v3, v4, v5, v6, v7] μ) (K : ∀ r μ', post [v1, v2, v3, v4, v5, v6, v7] μ r μ' → (∀ x, mN μ x ≤ mN μ' x) → J pc' L (r.toList ++ st) μ' (k + mc') (n + ms')) (KX : ∀ E μ', ¬ thr' [v1, v2, v3, v4, v5, v6, v7] μ E μ') : J pc L (v7 :: v6 :: v5 :: v4 :: v3 :: v2 :: v1 :: st) μ k n :=
  mj_callSNG C hM (avs := [v1, v2, v3, v4, v5, v6, v7]) hdg hp hw1 hw2 hw4 hw5  hd hR hcat hroom hpre K KX

theorem mj_callSN_8 (C : jCtx l J cc nL own R rt md hh ret thr mc ms) {y : MethodName} {bytes : ByteArray} {maxL : Nat} {rt' : Option FieldType} {fr lo mc' ms' : Nat} {pre : List jV → jM → Prop} {post : List jV → jM → Option jV → jM → Prop} {thr' : List jV → jM → String → jM → Prop} (hM : jMet l y bytes maxL rt' fr lo mc' ms' pre post thr') {idx : Nat} {v1 v2 v3 v4 v5 v6 v7 v8 : jV} (hdg : decode cc pc = .ok (.invokestatic idx, 3)) (hp : pc + 3 = pc') (hw1 : Cond.methodLink own idx y ∈ jWL) (hw2 : Cond.static y ∈ jWL) (hw4 : Cond.initialized y.cls ∈ jWL) (hw5 : Cond.code y bytes maxL rt' ∈ jWL)  (hd : y.cls ≠ "java/lang/invoke/MethodHandle" ∧ y.cls ≠ "java/lang/invoke/VarHandle" ∧ (parseMethodDescriptor y.desc).map (fun d => d.parameters.length) = some 8) (hR : fr + 1 ≤ R.frames ∧ 8 + (maxL + 11) + lo ≤ R.locals) (hcat : (st.map jcat).sum ≤ 8) (hroom : k + mc' ≤ R.cells ∧ n + ms' ≤ R.slots)
    (hpre : pre [v1, v2, v3, v4, v5, v6, v7, v8] μ) (K : ∀ r μ', post [v1, v2, v3, v4, v5, v6, v7, v8] μ r μ' → (∀ x, mN μ x ≤ mN μ' x) → J pc' L (r.toList ++ st) μ' (k + mc') (n + ms')) (KX : ∀ E μ', ¬ thr' [v1, v2, v3, v4, v5, v6, v7, v8] μ E μ') : J pc L (v8 :: v7 :: v6 :: v5 :: v4 :: v3 :: v2 :: v1 :: st) μ k n :=
  mj_callSNG C hM (avs := [v1, v2, v3, v4, v5, v6, v7, v8]) hdg hp hw1 hw2 hw4 hw5  hd hR hcat hroom hpre K KX

theorem mj_callVCG (C : jCtx l J cc nL own R rt 2 hh ret thr mc ms) {y : MethodName} {bytes : ByteArray} {maxL : Nat} {rt' : Option FieldType} {fr lo mc' ms' : Nat} {pre : List jV → jM → Prop} {post : List jV → jM → Option jV → jM → Prop} {thr' : List jV → jM → String → jM → Prop} (hM : jMet l y bytes maxL rt' fr lo mc' ms' pre post thr') {idx kd i ci : Nat} {avs : List jV} (hdg : decode cc pc = .ok (.invokevirtual idx, 3)) (hp : pc + 3 = pc') (hw1 : Cond.methodLink own idx y ∈ jWL) (hw2 : Cond.instanceMethod y ∈ jWL) (hw3 : Cond.selects (jNm ci) y y ∈ jWL) (hw4 : Cond.initialized (jNm ci) ∈ jWL) (hw5 : Cond.code y bytes maxL rt' ∈ jWL) (hsh : jSh kd = .inl ci) (hc : ci < 7) (h61 : kd ≠ 61) (hd : y.cls = jNm ci ∧ y.cls ≠ "java/lang/invoke/MethodHandle" ∧ y.cls ≠ "java/lang/invoke/VarHandle" ∧ (parseMethodDescriptor y.desc).map (fun d => d.parameters.length) = some avs.length) (hR : fr + 1 ≤ R.frames ∧ 8 + (maxL + 11) + lo ≤ R.locals) (hcat : (st.map jcat).sum ≤ 8) (hroom : k + mc' ≤ R.cells ∧ n + ms' ≤ R.slots)
    (hpre : pre (aR kd i :: avs) μ) (K : ∀ r μ', post (aR kd i :: avs) μ r μ' → (∀ x, mN μ x ≤ mN μ' x) → J pc' L (r.toList ++ st) μ' (k + mc') (n + ms')) (KX : ∀ E μ', thr' (aR kd i :: avs) μ E μ' → jCatch J cc nL own hh pc L (k + mc') (n + ms') E μ') : J pc L (avs.reverse ++ aR kd i :: st) μ k n := by
  obtain ⟨p, e, s, m, args, below, meth, c, D, cm, ad0, μ0, Q, rfl, hx, hb, hml, hrt, hown, hlk, hU, hE⟩ := C
  subst hp
  intro ad H locs ls hT hX hS hL hs9 hl
  have hsp : ∀ v ∈ st, jL μ v := fun v hv => hs9 v (List.mem_append_right _ (List.mem_cons_of_mem _ hv))

  have hrec : i < mN μ kd := hs9 (aR kd i) (List.mem_append_right _ List.mem_cons_self)
  have hav : ∀ v ∈ aR kd i :: avs, jL μ v := fun v hv => by
    rcases List.mem_cons.mp hv with rfl | h
    · exact hrec
    · exact hs9 v (List.mem_append_left _ (List.mem_reverse.mpr h))
  obtain ⟨cell, q1, q2, q3, q4⟩ := jAt_obj (hT.1 kd i h61 hrec) hsh
  have hcls := (hU.1.1 ci _ (jCl_at hc)).2
  have hr := vx_runV (meth := meth) (below := below) (args := args) (e := e) (g := F0 m pc ls ((avs.reverse ++ aR kd i :: st).map (jc ad))) (locs := locs) (slots := n) (b := ad kd i) (As := avs.map (jc ad)) (rest := st.map (jc ad)) ⟨hx, hb, hml, hown, fun w h => hU.w h⟩ (hM D cm ad μ (aR kd i :: avs) H.size hav hpre) (cwV (own := own) (C := jNm ci) (index := idx) (y := y) (bytes := bytes) (maxL := maxL) (ret := rt') avs.length (fun w h => hU.w h) (jGoodIn (fun w hw => by
      simp only [wsV, List.cons_append, List.nil_append, List.mem_cons, List.not_mem_nil, or_false] at hw
      rcases hw with rfl | rfl | rfl | rfl | rfl
      · exact ⟨hw1, rfl⟩
      · exact ⟨hw2, rfl⟩
      · exact ⟨hw3, rfl⟩
      · exact ⟨hw4, rfl⟩
      · exact ⟨hw5, rfl⟩)) rfl rfl rfl hd hR) ⟨jPc_blind, ⟨cell, q1, by rw [q3]; rfl, by rw [q2]; exact hcls.1⟩, jx_pre hU hT hX hS (aR kd i :: avs)⟩ rfl (by simp) hl.1 (by simp [jc]) (lv_room (by rw [jc_cats]; exact hcat)) hdg hroom

  exact jx_vrun hr hX hS hL hsp hl (fun r μ' hq hm => K r μ' hq hm) (fun E ce q9 ad' μ' H1 locs1 ht k1 k2 k3 hL' hl' hce hcv hcl => jx_catch hx hb hown hU hE.1 k1 k2 k3 hL' hl' hce hcv hcl (KX E μ' ht))

theorem mj_callVC_0 (C : jCtx l J cc nL own R rt 2 hh ret thr mc ms) {y : MethodName} {bytes : ByteArray} {maxL : Nat} {rt' : Option FieldType} {fr lo mc' ms' : Nat} {pre : List jV → jM → Prop} {post : List jV → jM → Option jV → jM → Prop} {thr' : List jV → jM → String → jM → Prop} (hM : jMet l y bytes maxL rt' fr lo mc' ms' pre post thr') {idx kd i ci : Nat}  (hdg : decode cc pc = .ok (.invokevirtual idx, 3)) (hp : pc + 3 = pc') (hw1 : Cond.methodLink own idx y ∈ jWL) (hw2 : Cond.instanceMethod y ∈ jWL) (hw3 : Cond.selects (jNm ci) y y ∈ jWL) (hw4 : Cond.initialized (jNm ci) ∈ jWL) (hw5 : Cond.code y bytes maxL rt' ∈ jWL) (hsh : jSh kd = .inl ci) (hc : ci < 7) (h61 : kd ≠ 61) (hd : y.cls = jNm ci ∧ y.cls ≠ "java/lang/invoke/MethodHandle" ∧ y.cls ≠ "java/lang/invoke/VarHandle" ∧ (parseMethodDescriptor y.desc).map (fun d => d.parameters.length) = some 0) (hR : fr + 1 ≤ R.frames ∧ 8 + (maxL + 11) + lo ≤ R.locals) (hcat : (st.map jcat).sum ≤ 8) (hroom : k + mc' ≤ R.cells ∧ n + ms' ≤ R.slots)
    (hpre : pre (aR kd i :: []) μ) (K : ∀ r μ', post (aR kd i :: []) μ r μ' → (∀ x, mN μ x ≤ mN μ' x) → J pc' L (r.toList ++ st) μ' (k + mc') (n + ms')) (KX : ∀ E μ', thr' (aR kd i :: []) μ E μ' → jCatch J cc nL own hh pc L (k + mc') (n + ms') E μ') : J pc L (aR kd i :: st) μ k n :=
  mj_callVCG C hM (avs := []) hdg hp hw1 hw2 hw3 hw4 hw5 hsh hc h61 hd hR hcat hroom hpre K KX

theorem mj_callVC_1 (C : jCtx l J cc nL own R rt 2 hh ret thr mc ms) {y : MethodName} {bytes : ByteArray} {maxL : Nat} {rt' : Option FieldType} {fr lo mc' ms' : Nat} {pre : List jV → jM → Prop} {post : List jV → jM → Option jV → jM → Prop} {thr' : List jV → jM → String → jM → Prop} (hM : jMet l y bytes maxL rt' fr lo mc' ms' pre post thr') {idx kd i ci : Nat} {v1 : jV} (hdg : decode cc pc = .ok (.invokevirtual idx, 3)) (hp : pc + 3 = pc') (hw1 : Cond.methodLink own idx y ∈ jWL) (hw2 : Cond.instanceMethod y ∈ jWL) (hw3 : Cond.selects (jNm ci) y y ∈ jWL) (hw4 : Cond.initialized (jNm ci) ∈ jWL) (hw5 : Cond.code y bytes maxL rt' ∈ jWL) (hsh : jSh kd = .inl ci) (hc : ci < 7) (h61 : kd ≠ 61) (hd : y.cls = jNm ci ∧ y.cls ≠ "java/lang/invoke/MethodHandle" ∧ y.cls ≠ "java/lang/invoke/VarHandle" ∧ (parseMethodDescriptor y.desc).map (fun d => d.parameters.length) = some 1) (hR : fr + 1 ≤ R.frames ∧ 8 + (maxL + 11) + lo ≤ R.locals) (hcat : (st.map jcat).sum ≤ 8) (hroom : k + mc' ≤ R.cells ∧ n + ms' ≤ R.slots)
    (hpre : pre (aR kd i :: [v1]) μ) (K : ∀ r μ', post (aR kd i :: [v1]) μ r μ' → (∀ x, mN μ x ≤ mN μ' x) → J pc' L (r.toList ++ st) μ' (k + mc') (n + ms')) (KX : ∀ E μ', thr' (aR kd i :: [v1]) μ E μ' → jCatch J cc nL own hh pc L (k + mc') (n + ms') E μ') : J pc L (v1 :: aR kd i :: st) μ k n :=
  mj_callVCG C hM (avs := [v1]) hdg hp hw1 hw2 hw3 hw4 hw5 hsh hc h61 hd hR hcat hroom hpre K KX

theorem mj_callVC_2 (C : jCtx l J cc nL own R rt 2 hh ret thr mc ms) {y : MethodName} {bytes : ByteArray} {maxL : Nat} {rt' : Option FieldType} {fr lo mc' ms' : Nat} {pre : List jV → jM → Prop} {post : List jV → jM → Option jV → jM → Prop} {thr' : List jV → jM → String → jM → Prop} (hM : jMet l y bytes maxL rt' fr lo mc' ms' pre post thr') {idx kd i ci : Nat} {v1 v2 : jV} (hdg : decode cc pc = .ok (.invokevirtual idx, 3)) (hp : pc + 3 = pc') (hw1 : Cond.methodLink own idx y ∈ jWL) (hw2 : Cond.instanceMethod y ∈ jWL) (hw3 : Cond.selects (jNm ci) y y ∈ jWL) (hw4 : Cond.initialized (jNm ci) ∈ jWL) (hw5 : Cond.code y bytes maxL rt' ∈ jWL) (hsh : jSh kd = .inl ci) (hc : ci < 7) (h61 : kd ≠ 61) (hd : y.cls = jNm ci ∧ y.cls ≠ "java/lang/invoke/MethodHandle" ∧ y.cls ≠ "java/lang/invoke/VarHandle" ∧ (parseMethodDescriptor y.desc).map (fun d => d.parameters.length) = some 2) (hR : fr + 1 ≤ R.frames ∧ 8 + (maxL + 11) + lo ≤ R.locals) (hcat : (st.map jcat).sum ≤ 8) (hroom : k + mc' ≤ R.cells ∧ n + ms' ≤ R.slots)
    (hpre : pre (aR kd i :: [v1, v2]) μ) (K : ∀ r μ', post (aR kd i :: [v1, v2]) μ r μ' → (∀ x, mN μ x ≤ mN μ' x) → J pc' L (r.toList ++ st) μ' (k + mc') (n + ms')) (KX : ∀ E μ', thr' (aR kd i :: [v1, v2]) μ E μ' → jCatch J cc nL own hh pc L (k + mc') (n + ms') E μ') : J pc L (v2 :: v1 :: aR kd i :: st) μ k n :=
  mj_callVCG C hM (avs := [v1, v2]) hdg hp hw1 hw2 hw3 hw4 hw5 hsh hc h61 hd hR hcat hroom hpre K KX

theorem mj_callVC_3 (C : jCtx l J cc nL own R rt 2 hh ret thr mc ms) {y : MethodName} {bytes : ByteArray} {maxL : Nat} {rt' : Option FieldType} {fr lo mc' ms' : Nat} {pre : List jV → jM → Prop} {post : List jV → jM → Option jV → jM → Prop} {thr' : List jV → jM → String → jM → Prop} (hM : jMet l y bytes maxL rt' fr lo mc' ms' pre post thr') {idx kd i ci : Nat} {v1 v2 v3 : jV} (hdg : decode cc pc = .ok (.invokevirtual idx, 3)) (hp : pc + 3 = pc') (hw1 : Cond.methodLink own idx y ∈ jWL) (hw2 : Cond.instanceMethod y ∈ jWL) (hw3 : Cond.selects (jNm ci) y y ∈ jWL) (hw4 : Cond.initialized (jNm ci) ∈ jWL) (hw5 : Cond.code y bytes maxL rt' ∈ jWL) (hsh : jSh kd = .inl ci) (hc : ci < 7) (h61 : kd ≠ 61) (hd : y.cls = jNm ci ∧ y.cls ≠ "java/lang/invoke/MethodHandle" ∧ y.cls ≠ "java/lang/invoke/VarHandle" ∧ (parseMethodDescriptor y.desc).map (fun d => d.parameters.length) = some 3) (hR : fr + 1 ≤ R.frames ∧ 8 + (maxL + 11) + lo ≤ R.locals) (hcat : (st.map jcat).sum ≤ 8) (hroom : k + mc' ≤ R.cells ∧ n + ms' ≤ R.slots)
    (hpre : pre (aR kd i :: [v1, v2, v3]) μ) (K : ∀ r μ', post (aR kd i :: [v1, v2, v3]) μ r μ' → (∀ x, mN μ x ≤ mN μ' x) → J pc' L (r.toList ++ st) μ' (k + mc') (n + ms')) (KX : ∀ E μ', thr' (aR kd i :: [v1, v2, v3]) μ E μ' → jCatch J cc nL own hh pc L (k + mc') (n + ms') E μ') : J pc L (v3 :: v2 :: v1 :: aR kd i :: st) μ k n :=
  mj_callVCG C hM (avs := [v1, v2, v3]) hdg hp hw1 hw2 hw3 hw4 hw5 hsh hc h61 hd hR hcat hroom hpre K KX

theorem mj_callVC_4 (C : jCtx l J cc nL own R rt 2 hh ret thr mc ms) {y : MethodName} {bytes : ByteArray} {maxL : Nat} {rt' : Option FieldType} {fr lo mc' ms' : Nat} {pre : List jV → jM → Prop} {post : List jV → jM → Option jV → jM → Prop} {thr' : List jV → jM → String → jM → Prop} (hM : jMet l y bytes maxL rt' fr lo mc' ms' pre post thr') {idx kd i ci : Nat} {v1 v2 v3 v4 : jV} (hdg : decode cc pc = .ok (.invokevirtual idx, 3)) (hp : pc + 3 = pc') (hw1 : Cond.methodLink own idx y ∈ jWL) (hw2 : Cond.instanceMethod y ∈ jWL) (hw3 : Cond.selects (jNm ci) y y ∈ jWL) (hw4 : Cond.initialized (jNm ci) ∈ jWL) (hw5 : Cond.code y bytes maxL rt' ∈ jWL) (hsh : jSh kd = .inl ci) (hc : ci < 7) (h61 : kd ≠ 61) (hd : y.cls = jNm ci ∧ y.cls ≠ "java/lang/invoke/MethodHandle" ∧ y.cls ≠ "java/lang/invoke/VarHandle" ∧ (parseMethodDescriptor y.desc).map (fun d => d.parameters.length) = some 4) (hR : fr + 1 ≤ R.frames ∧ 8 + (maxL + 11) + lo ≤ R.locals) (hcat : (st.map jcat).sum ≤ 8) (hroom : k + mc' ≤ R.cells ∧ n + ms' ≤ R.slots)
    (hpre : pre (aR kd i :: [v1, v2, v3, v4]) μ) (K : ∀ r μ', post (aR kd i :: [v1, v2, v3, v4]) μ r μ' → (∀ x, mN μ x ≤ mN μ' x) → J pc' L (r.toList ++ st) μ' (k + mc') (n + ms')) (KX : ∀ E μ', thr' (aR kd i :: [v1, v2, v3, v4]) μ E μ' → jCatch J cc nL own hh pc L (k + mc') (n + ms') E μ') : J pc L (v4 :: v3 :: v2 :: v1 :: aR kd i :: st) μ k n :=
  mj_callVCG C hM (avs := [v1, v2, v3, v4]) hdg hp hw1 hw2 hw3 hw4 hw5 hsh hc h61 hd hR hcat hroom hpre K KX

theorem mj_callVC_5 (C : jCtx l J cc nL own R rt 2 hh ret thr mc ms) {y : MethodName} {bytes : ByteArray} {maxL : Nat} {rt' : Option FieldType} {fr lo mc' ms' : Nat} {pre : List jV → jM → Prop} {post : List jV → jM → Option jV → jM → Prop} {thr' : List jV → jM → String → jM → Prop} (hM : jMet l y bytes maxL rt' fr lo mc' ms' pre post thr') {idx kd i ci : Nat} {v1 v2 v3 v4 v5 : jV} (hdg : decode cc pc = .ok (.invokevirtual idx, 3)) (hp : pc + 3 = pc') (hw1 : Cond.methodLink own idx y ∈ jWL) (hw2 : Cond.instanceMethod y ∈ jWL) (hw3 : Cond.selects (jNm ci) y y ∈ jWL) (hw4 : Cond.initialized (jNm ci) ∈ jWL) (hw5 : Cond.code y bytes maxL rt' ∈ jWL) (hsh : jSh kd = .inl ci) (hc : ci < 7) (h61 : kd ≠ 61) (hd : y.cls = jNm ci ∧ y.cls ≠ "java/lang/invoke/MethodHandle" ∧ y.cls ≠ "java/lang/invoke/VarHandle" ∧ (parseMethodDescriptor y.desc).map (fun d => d.parameters.length) = some 5) (hR : fr + 1 ≤ R.frames ∧ 8 + (maxL + 11) + lo ≤ R.locals) (hcat : (st.map jcat).sum ≤ 8) (hroom : k + mc' ≤ R.cells ∧ n + ms' ≤ R.slots)
    (hpre : pre (aR kd i :: [v1, v2, v3, v4, v5]) μ) (K : ∀ r μ', post (aR kd i :: [v1, v2, v3, v4, v5]) μ r μ' → (∀ x, mN μ x ≤ mN μ' x) → J pc' L (r.toList ++ st) μ' (k + mc') (n + ms')) (KX : ∀ E μ', thr' (aR kd i :: [v1, v2, v3, v4, v5]) μ E μ' → jCatch J cc nL own hh pc L (k + mc') (n + ms') E μ') : J pc L (v5 :: v4 :: v3 :: v2 :: v1 :: aR kd i :: st) μ k n :=
  mj_callVCG C hM (avs := [v1, v2, v3, v4, v5]) hdg hp hw1 hw2 hw3 hw4 hw5 hsh hc h61 hd hR hcat hroom hpre K KX

theorem mj_callVC_6 (C : jCtx l J cc nL own R rt 2 hh ret thr mc ms) {y : MethodName} {bytes : ByteArray} {maxL : Nat} {rt' : Option FieldType} {fr lo mc' ms' : Nat} {pre : List jV → jM → Prop} {post : List jV → jM → Option jV → jM → Prop} {thr' : List jV → jM → String → jM → Prop} (hM : jMet l y bytes maxL rt' fr lo mc' ms' pre post thr') {idx kd i ci : Nat} {v1 v2 v3 v4 v5 v6 : jV} (hdg : decode cc pc = .ok (.invokevirtual idx, 3)) (hp : pc + 3 = pc') (hw1 : Cond.methodLink own idx y ∈ jWL) (hw2 : Cond.instanceMethod y ∈ jWL) (hw3 : Cond.selects (jNm ci) y y ∈ jWL) (hw4 : Cond.initialized (jNm ci) ∈ jWL) (hw5 : Cond.code y bytes maxL rt' ∈ jWL) (hsh : jSh kd = .inl ci) (hc : ci < 7) (h61 : kd ≠ 61) (hd : y.cls = jNm ci ∧ y.cls ≠ "java/lang/invoke/MethodHandle" ∧ y.cls ≠ "java/lang/invoke/VarHandle" ∧ (parseMethodDescriptor y.desc).map (fun d => d.parameters.length) = some 6) (hR : fr + 1 ≤ R.frames ∧ 8 + (maxL + 11) + lo ≤ R.locals) (hcat : (st.map jcat).sum ≤ 8) (hroom : k + mc' ≤ R.cells ∧ n + ms' ≤ R.slots)
    (hpre : pre (aR kd i :: [v1, v2, v3, v4, v5, v6]) μ) (K : ∀ r μ', post (aR kd i :: [v1, v2, v3, v4, v5, v6]) μ r μ' → (∀ x, mN μ x ≤ mN μ' x) → J pc' L (r.toList ++ st) μ' (k + mc') (n + ms')) (KX : ∀ E μ', thr' (aR kd i :: [v1, v2, v3, v4, v5, v6]) μ E μ' → jCatch J cc nL own hh pc L (k + mc') (n + ms') E μ') : J pc L (v6 :: v5 :: v4 :: v3 :: v2 :: v1 :: aR kd i :: st) μ k n :=
  mj_callVCG C hM (avs := [v1, v2, v3, v4, v5, v6]) hdg hp hw1 hw2 hw3 hw4 hw5 hsh hc h61 hd hR hcat hroom hpre K KX

theorem mj_callIG (C : jCtx l J cc nL own R rt md hh ret thr mc ms) {y : MethodName} {bytes : ByteArray} {maxL : Nat} {fr lo mc' ms' : Nat} {pre : List jV → jM → Prop} {post : List jV → jM → Option jV → jM → Prop} (hM : jMetN l y (.code y bytes maxL none) fr lo mc' ms' pre post) {idx kd i : Nat} {avs : List jV} (hdg : decode cc pc = .ok (.invokespecial idx, 3)) (hp : pc + 3 = pc') (hw1 : Cond.methodLink own idx y ∈ jWL) (hw2 : Cond.instanceMethod y ∈ jWL) (hw4 : Cond.initialized y.cls ∈ jWL) (hw5 : Cond.code y bytes maxL none ∈ jWL) (hy1 : y.name = "<init>") (hd : y.cls ≠ "java/lang/invoke/MethodHandle" ∧ y.cls ≠ "java/lang/invoke/VarHandle" ∧ (parseMethodDescriptor y.desc).map (fun d => d.parameters.length) = some avs.length) (hR : fr + 1 ≤ R.frames ∧ 8 + (maxL + 11) + lo ≤ R.locals) (hcat : (st.map jcat).sum ≤ 8) (hroom : k + mc' ≤ R.cells ∧ n + ms' ≤ R.slots)
    (hpre : pre (aR kd i :: avs) μ) (K : ∀ r μ', post (aR kd i :: avs) μ r μ' → (∀ x, mN μ x ≤ mN μ' x) → J pc' L (r.toList ++ st) μ' (k + mc') (n + ms')) : J pc L (avs.reverse ++ aR kd i :: st) μ k n := by
  obtain ⟨p, e, s, m, args, below, meth, c, D, cm, ad0, μ0, Q, rfl, hx, hb, hml, hrt, hown, hlk, hU, hE⟩ := C
  subst hp
  intro ad H locs ls hT hX hS hL hs9 hl
  have hsp : ∀ v ∈ st, jL μ v := fun v hv => hs9 v (List.mem_append_right _ (List.mem_cons_of_mem _ hv))
  have hrec : i < mN μ kd := hs9 (aR kd i) (List.mem_append_right _ List.mem_cons_self)
  have hav : ∀ v ∈ aR kd i :: avs, jL μ v := fun v hv => by
    rcases List.mem_cons.mp hv with rfl | h
    · exact hrec
    · exact hs9 v (List.mem_append_left _ (List.mem_reverse.mpr h))
  have hr := va_runI (meth := meth) (below := below) (args := args) (e := e) (g := F0 m pc ls ((avs.reverse ++ aR kd i :: st).map (jc ad))) (locs := locs) (slots := n) (b := ad kd i) (As := avs.map (jc ad)) (rest := st.map (jc ad)) ⟨hx, hb, hml, hown, fun w h => hU.w h⟩ (hM D cm ad μ (aR kd i :: avs) H.size hav hpre) (cwI (own := own) (index := idx) (y := y) (bytes := bytes) (maxL := maxL) avs.length (fun w h => hU.w h) (jGoodIn (fun w hw => by
      simp only [List.mem_cons, List.not_mem_nil, or_false] at hw
      subst hw
      exact ⟨hw5, rfl⟩)) rfl rfl rfl (hU.w hw4) (hU.w hw1) (hU.w hw2) hy1 hd hR) ⟨jPc_blind, jx_pre hU hT hX hS (aR kd i :: avs)⟩ rfl (by simp) hl.1 (by simp [jc]) (lv_room (by rw [jc_cats]; exact hcat)) hdg hroom
  exact jx_run hr hX hS hL hsp hl (fun r μ' hq hm => K r μ' hq hm)

theorem mj_callI_0 (C : jCtx l J cc nL own R rt md hh ret thr mc ms) {y : MethodName} {bytes : ByteArray} {maxL : Nat} {fr lo mc' ms' : Nat} {pre : List jV → jM → Prop} {post : List jV → jM → Option jV → jM → Prop} (hM : jMetN l y (.code y bytes maxL none) fr lo mc' ms' pre post) {idx kd i : Nat}  (hdg : decode cc pc = .ok (.invokespecial idx, 3)) (hp : pc + 3 = pc') (hw1 : Cond.methodLink own idx y ∈ jWL) (hw2 : Cond.instanceMethod y ∈ jWL) (hw4 : Cond.initialized y.cls ∈ jWL) (hw5 : Cond.code y bytes maxL none ∈ jWL) (hy1 : y.name = "<init>") (hd : y.cls ≠ "java/lang/invoke/MethodHandle" ∧ y.cls ≠ "java/lang/invoke/VarHandle" ∧ (parseMethodDescriptor y.desc).map (fun d => d.parameters.length) = some 0) (hR : fr + 1 ≤ R.frames ∧ 8 + (maxL + 11) + lo ≤ R.locals) (hcat : (st.map jcat).sum ≤ 8) (hroom : k + mc' ≤ R.cells ∧ n + ms' ≤ R.slots)
    (hpre : pre (aR kd i :: []) μ) (K : ∀ r μ', post (aR kd i :: []) μ r μ' → (∀ x, mN μ x ≤ mN μ' x) → J pc' L (r.toList ++ st) μ' (k + mc') (n + ms')) : J pc L (aR kd i :: st) μ k n :=
  mj_callIG C hM (avs := []) hdg hp hw1 hw2 hw4 hw5 hy1 hd hR hcat hroom hpre K

theorem mj_callI_1 (C : jCtx l J cc nL own R rt md hh ret thr mc ms) {y : MethodName} {bytes : ByteArray} {maxL : Nat} {fr lo mc' ms' : Nat} {pre : List jV → jM → Prop} {post : List jV → jM → Option jV → jM → Prop} (hM : jMetN l y (.code y bytes maxL none) fr lo mc' ms' pre post) {idx kd i : Nat} {v1 : jV} (hdg : decode cc pc = .ok (.invokespecial idx, 3)) (hp : pc + 3 = pc') (hw1 : Cond.methodLink own idx y ∈ jWL) (hw2 : Cond.instanceMethod y ∈ jWL) (hw4 : Cond.initialized y.cls ∈ jWL) (hw5 : Cond.code y bytes maxL none ∈ jWL) (hy1 : y.name = "<init>") (hd : y.cls ≠ "java/lang/invoke/MethodHandle" ∧ y.cls ≠ "java/lang/invoke/VarHandle" ∧ (parseMethodDescriptor y.desc).map (fun d => d.parameters.length) = some 1) (hR : fr + 1 ≤ R.frames ∧ 8 + (maxL + 11) + lo ≤ R.locals) (hcat : (st.map jcat).sum ≤ 8) (hroom : k + mc' ≤ R.cells ∧ n + ms' ≤ R.slots)
    (hpre : pre (aR kd i :: [v1]) μ) (K : ∀ r μ', post (aR kd i :: [v1]) μ r μ' → (∀ x, mN μ x ≤ mN μ' x) → J pc' L (r.toList ++ st) μ' (k + mc') (n + ms')) : J pc L (v1 :: aR kd i :: st) μ k n :=
  mj_callIG C hM (avs := [v1]) hdg hp hw1 hw2 hw4 hw5 hy1 hd hR hcat hroom hpre K

theorem mj_callI_2 (C : jCtx l J cc nL own R rt md hh ret thr mc ms) {y : MethodName} {bytes : ByteArray} {maxL : Nat} {fr lo mc' ms' : Nat} {pre : List jV → jM → Prop} {post : List jV → jM → Option jV → jM → Prop} (hM : jMetN l y (.code y bytes maxL none) fr lo mc' ms' pre post) {idx kd i : Nat} {v1 v2 : jV} (hdg : decode cc pc = .ok (.invokespecial idx, 3)) (hp : pc + 3 = pc') (hw1 : Cond.methodLink own idx y ∈ jWL) (hw2 : Cond.instanceMethod y ∈ jWL) (hw4 : Cond.initialized y.cls ∈ jWL) (hw5 : Cond.code y bytes maxL none ∈ jWL) (hy1 : y.name = "<init>") (hd : y.cls ≠ "java/lang/invoke/MethodHandle" ∧ y.cls ≠ "java/lang/invoke/VarHandle" ∧ (parseMethodDescriptor y.desc).map (fun d => d.parameters.length) = some 2) (hR : fr + 1 ≤ R.frames ∧ 8 + (maxL + 11) + lo ≤ R.locals) (hcat : (st.map jcat).sum ≤ 8) (hroom : k + mc' ≤ R.cells ∧ n + ms' ≤ R.slots)
    (hpre : pre (aR kd i :: [v1, v2]) μ) (K : ∀ r μ', post (aR kd i :: [v1, v2]) μ r μ' → (∀ x, mN μ x ≤ mN μ' x) → J pc' L (r.toList ++ st) μ' (k + mc') (n + ms')) : J pc L (v2 :: v1 :: aR kd i :: st) μ k n :=
  mj_callIG C hM (avs := [v1, v2]) hdg hp hw1 hw2 hw4 hw5 hy1 hd hR hcat hroom hpre K

theorem mj_callI_3 (C : jCtx l J cc nL own R rt md hh ret thr mc ms) {y : MethodName} {bytes : ByteArray} {maxL : Nat} {fr lo mc' ms' : Nat} {pre : List jV → jM → Prop} {post : List jV → jM → Option jV → jM → Prop} (hM : jMetN l y (.code y bytes maxL none) fr lo mc' ms' pre post) {idx kd i : Nat} {v1 v2 v3 : jV} (hdg : decode cc pc = .ok (.invokespecial idx, 3)) (hp : pc + 3 = pc') (hw1 : Cond.methodLink own idx y ∈ jWL) (hw2 : Cond.instanceMethod y ∈ jWL) (hw4 : Cond.initialized y.cls ∈ jWL) (hw5 : Cond.code y bytes maxL none ∈ jWL) (hy1 : y.name = "<init>") (hd : y.cls ≠ "java/lang/invoke/MethodHandle" ∧ y.cls ≠ "java/lang/invoke/VarHandle" ∧ (parseMethodDescriptor y.desc).map (fun d => d.parameters.length) = some 3) (hR : fr + 1 ≤ R.frames ∧ 8 + (maxL + 11) + lo ≤ R.locals) (hcat : (st.map jcat).sum ≤ 8) (hroom : k + mc' ≤ R.cells ∧ n + ms' ≤ R.slots)
    (hpre : pre (aR kd i :: [v1, v2, v3]) μ) (K : ∀ r μ', post (aR kd i :: [v1, v2, v3]) μ r μ' → (∀ x, mN μ x ≤ mN μ' x) → J pc' L (r.toList ++ st) μ' (k + mc') (n + ms')) : J pc L (v3 :: v2 :: v1 :: aR kd i :: st) μ k n :=
  mj_callIG C hM (avs := [v1, v2, v3]) hdg hp hw1 hw2 hw4 hw5 hy1 hd hR hcat hroom hpre K

theorem mj_callI_4 (C : jCtx l J cc nL own R rt md hh ret thr mc ms) {y : MethodName} {bytes : ByteArray} {maxL : Nat} {fr lo mc' ms' : Nat} {pre : List jV → jM → Prop} {post : List jV → jM → Option jV → jM → Prop} (hM : jMetN l y (.code y bytes maxL none) fr lo mc' ms' pre post) {idx kd i : Nat} {v1 v2 v3 v4 : jV} (hdg : decode cc pc = .ok (.invokespecial idx, 3)) (hp : pc + 3 = pc') (hw1 : Cond.methodLink own idx y ∈ jWL) (hw2 : Cond.instanceMethod y ∈ jWL) (hw4 : Cond.initialized y.cls ∈ jWL) (hw5 : Cond.code y bytes maxL none ∈ jWL) (hy1 : y.name = "<init>") (hd : y.cls ≠ "java/lang/invoke/MethodHandle" ∧ y.cls ≠ "java/lang/invoke/VarHandle" ∧ (parseMethodDescriptor y.desc).map (fun d => d.parameters.length) = some 4) (hR : fr + 1 ≤ R.frames ∧ 8 + (maxL + 11) + lo ≤ R.locals) (hcat : (st.map jcat).sum ≤ 8) (hroom : k + mc' ≤ R.cells ∧ n + ms' ≤ R.slots)
    (hpre : pre (aR kd i :: [v1, v2, v3, v4]) μ) (K : ∀ r μ', post (aR kd i :: [v1, v2, v3, v4]) μ r μ' → (∀ x, mN μ x ≤ mN μ' x) → J pc' L (r.toList ++ st) μ' (k + mc') (n + ms')) : J pc L (v4 :: v3 :: v2 :: v1 :: aR kd i :: st) μ k n :=
  mj_callIG C hM (avs := [v1, v2, v3, v4]) hdg hp hw1 hw2 hw4 hw5 hy1 hd hR hcat hroom hpre K

theorem mj_callI_5 (C : jCtx l J cc nL own R rt md hh ret thr mc ms) {y : MethodName} {bytes : ByteArray} {maxL : Nat} {fr lo mc' ms' : Nat} {pre : List jV → jM → Prop} {post : List jV → jM → Option jV → jM → Prop} (hM : jMetN l y (.code y bytes maxL none) fr lo mc' ms' pre post) {idx kd i : Nat} {v1 v2 v3 v4 v5 : jV} (hdg : decode cc pc = .ok (.invokespecial idx, 3)) (hp : pc + 3 = pc') (hw1 : Cond.methodLink own idx y ∈ jWL) (hw2 : Cond.instanceMethod y ∈ jWL) (hw4 : Cond.initialized y.cls ∈ jWL) (hw5 : Cond.code y bytes maxL none ∈ jWL) (hy1 : y.name = "<init>") (hd : y.cls ≠ "java/lang/invoke/MethodHandle" ∧ y.cls ≠ "java/lang/invoke/VarHandle" ∧ (parseMethodDescriptor y.desc).map (fun d => d.parameters.length) = some 5) (hR : fr + 1 ≤ R.frames ∧ 8 + (maxL + 11) + lo ≤ R.locals) (hcat : (st.map jcat).sum ≤ 8) (hroom : k + mc' ≤ R.cells ∧ n + ms' ≤ R.slots)
    (hpre : pre (aR kd i :: [v1, v2, v3, v4, v5]) μ) (K : ∀ r μ', post (aR kd i :: [v1, v2, v3, v4, v5]) μ r μ' → (∀ x, mN μ x ≤ mN μ' x) → J pc' L (r.toList ++ st) μ' (k + mc') (n + ms')) : J pc L (v5 :: v4 :: v3 :: v2 :: v1 :: aR kd i :: st) μ k n :=
  mj_callIG C hM (avs := [v1, v2, v3, v4, v5]) hdg hp hw1 hw2 hw4 hw5 hy1 hd hR hcat hroom hpre K

theorem mj_callWG (C : jCtx l J cc nL own R rt md hh ret thr mc ms) {y : MethodName} {bytes : ByteArray} {maxL : Nat} {rt' : Option FieldType} {h9 : List (Nat × Nat × Nat × Nat)} {fr lo mc' ms' : Nat} {pre : List jV → jM → Prop} {post : List jV → jM → Option jV → jM → Prop} (hM : jMetN l y (.codeWith y bytes maxL rt' h9) fr lo mc' ms' pre post) {idx : Nat} {avs : List jV} (hdg : decode cc pc = .ok (.invokestatic idx, 3)) (hp : pc + 3 = pc') (hw1 : Cond.methodLink own idx y ∈ jWL) (hw2 : Cond.static y ∈ jWL) (hw4 : Cond.initialized y.cls ∈ jWL) (hw5 : Cond.codeWith y bytes maxL rt' h9 ∈ jWL) (hd : y.cls ≠ "java/lang/invoke/MethodHandle" ∧ y.cls ≠ "java/lang/invoke/VarHandle" ∧ (parseMethodDescriptor y.desc).map (fun d => d.parameters.length) = some avs.length) (hR : fr + 1 ≤ R.frames ∧ 8 + (maxL + 11) + lo ≤ R.locals) (hcat : (st.map jcat).sum ≤ 8) (hroom : k + mc' ≤ R.cells ∧ n + ms' ≤ R.slots)
    (hpre : pre avs μ) (K : ∀ r μ', post avs μ r μ' → (∀ x, mN μ x ≤ mN μ' x) → J pc' L (r.toList ++ st) μ' (k + mc') (n + ms')) : J pc L (avs.reverse ++ st) μ k n := by
  obtain ⟨p, e, s, m, args, below, meth, c, D, cm, ad0, μ0, Q, rfl, hx, hb, hml, hrt, hown, hlk, hU, hE⟩ := C
  subst hp
  intro ad H locs ls hT hX hS hL hs9 hl
  have hsp : ∀ v ∈ st, jL μ v := fun v hv => hs9 v (List.mem_append_right _ hv)
  have hav : ∀ v ∈ avs, jL μ v := fun v hv => hs9 v (List.mem_append_left _ (List.mem_reverse.mpr hv))
  have hr := vx_runSW (meth := meth) (below := below) (args := args) (e := e) (g := F0 m pc ls ((avs.reverse ++ st).map (jc ad))) (locs := locs) (slots := n) (As := avs.map (jc ad)) (rest := st.map (jc ad)) ⟨hx, hb, hml, hown, fun w h => hU.w h⟩ (hM D cm ad μ avs H.size hav hpre) (vx_cwSW (own := own) (index := idx) (y := y) (bytes := bytes) (maxL := maxL) (ret := rt') (hh := h9) avs.length (fun w h => hU.w h) (jGoodIn (fun w hw => by
      simp only [va_wsS, List.cons_append, List.nil_append, List.mem_cons, List.not_mem_nil, or_false] at hw
      rcases hw with rfl | rfl | rfl | rfl
      · exact ⟨hw1, rfl⟩
      · exact ⟨hw2, rfl⟩
      · exact ⟨hw4, rfl⟩
      · exact ⟨hw5, rfl⟩)) rfl rfl rfl hd hR) ⟨jPc_blind, jx_pre hU hT hX hS avs⟩ rfl (by simp) hl.1 (by simp [jc]) (lv_room (by rw [jc_cats]; exact hcat)) hdg hroom
  exact jx_run hr hX hS hL hsp hl (fun r μ' hq hm => K r μ' hq hm)

theorem mj_callW_1 (C : jCtx l J cc nL own R rt md hh ret thr mc ms) {y : MethodName} {bytes : ByteArray} {maxL : Nat} {rt' : Option FieldType} {h9 : List (Nat × Nat × Nat × Nat)} {fr lo mc' ms' : Nat} {pre : List jV → jM → Prop} {post : List jV → jM → Option jV → jM → Prop} (hM : jMetN l y (.codeWith y bytes maxL rt' h9) fr lo mc' ms' pre post) {idx : Nat} {v1 : jV} (hdg : decode cc pc = .ok (.invokestatic idx, 3)) (hp : pc + 3 = pc') (hw1 : Cond.methodLink own idx y ∈ jWL) (hw2 : Cond.static y ∈ jWL) (hw4 : Cond.initialized y.cls ∈ jWL) (hw5 : Cond.codeWith y bytes maxL rt' h9 ∈ jWL) (hd : y.cls ≠ "java/lang/invoke/MethodHandle" ∧ y.cls ≠ "java/lang/invoke/VarHandle" ∧ (parseMethodDescriptor y.desc).map (fun d => d.parameters.length) = some 1) (hR : fr + 1 ≤ R.frames ∧ 8 + (maxL + 11) + lo ≤ R.locals) (hcat : (st.map jcat).sum ≤ 8) (hroom : k + mc' ≤ R.cells ∧ n + ms' ≤ R.slots)
    (hpre : pre [v1] μ) (K : ∀ r μ', post [v1] μ r μ' → (∀ x, mN μ x ≤ mN μ' x) → J pc' L (r.toList ++ st) μ' (k + mc') (n + ms')) : J pc L (v1 :: st) μ k n :=
  mj_callWG C hM (avs := [v1]) hdg hp hw1 hw2 hw4 hw5 hd hR hcat hroom hpre K

theorem mj_callW_2 (C : jCtx l J cc nL own R rt md hh ret thr mc ms) {y : MethodName} {bytes : ByteArray} {maxL : Nat} {rt' : Option FieldType} {h9 : List (Nat × Nat × Nat × Nat)} {fr lo mc' ms' : Nat} {pre : List jV → jM → Prop} {post : List jV → jM → Option jV → jM → Prop} (hM : jMetN l y (.codeWith y bytes maxL rt' h9) fr lo mc' ms' pre post) {idx : Nat} {v1 v2 : jV} (hdg : decode cc pc = .ok (.invokestatic idx, 3)) (hp : pc + 3 = pc') (hw1 : Cond.methodLink own idx y ∈ jWL) (hw2 : Cond.static y ∈ jWL) (hw4 : Cond.initialized y.cls ∈ jWL) (hw5 : Cond.codeWith y bytes maxL rt' h9 ∈ jWL) (hd : y.cls ≠ "java/lang/invoke/MethodHandle" ∧ y.cls ≠ "java/lang/invoke/VarHandle" ∧ (parseMethodDescriptor y.desc).map (fun d => d.parameters.length) = some 2) (hR : fr + 1 ≤ R.frames ∧ 8 + (maxL + 11) + lo ≤ R.locals) (hcat : (st.map jcat).sum ≤ 8) (hroom : k + mc' ≤ R.cells ∧ n + ms' ≤ R.slots)
    (hpre : pre [v1, v2] μ) (K : ∀ r μ', post [v1, v2] μ r μ' → (∀ x, mN μ x ≤ mN μ' x) → J pc' L (r.toList ++ st) μ' (k + mc') (n + ms')) : J pc L (v2 :: v1 :: st) μ k n :=
  mj_callWG C hM (avs := [v1, v2]) hdg hp hw1 hw2 hw4 hw5 hd hR hcat hroom hpre K

theorem mj_callW_3 (C : jCtx l J cc nL own R rt md hh ret thr mc ms) {y : MethodName} {bytes : ByteArray} {maxL : Nat} {rt' : Option FieldType} {h9 : List (Nat × Nat × Nat × Nat)} {fr lo mc' ms' : Nat} {pre : List jV → jM → Prop} {post : List jV → jM → Option jV → jM → Prop} (hM : jMetN l y (.codeWith y bytes maxL rt' h9) fr lo mc' ms' pre post) {idx : Nat} {v1 v2 v3 : jV} (hdg : decode cc pc = .ok (.invokestatic idx, 3)) (hp : pc + 3 = pc') (hw1 : Cond.methodLink own idx y ∈ jWL) (hw2 : Cond.static y ∈ jWL) (hw4 : Cond.initialized y.cls ∈ jWL) (hw5 : Cond.codeWith y bytes maxL rt' h9 ∈ jWL) (hd : y.cls ≠ "java/lang/invoke/MethodHandle" ∧ y.cls ≠ "java/lang/invoke/VarHandle" ∧ (parseMethodDescriptor y.desc).map (fun d => d.parameters.length) = some 3) (hR : fr + 1 ≤ R.frames ∧ 8 + (maxL + 11) + lo ≤ R.locals) (hcat : (st.map jcat).sum ≤ 8) (hroom : k + mc' ≤ R.cells ∧ n + ms' ≤ R.slots)
    (hpre : pre [v1, v2, v3] μ) (K : ∀ r μ', post [v1, v2, v3] μ r μ' → (∀ x, mN μ x ≤ mN μ' x) → J pc' L (r.toList ++ st) μ' (k + mc') (n + ms')) : J pc L (v3 :: v2 :: v1 :: st) μ k n :=
  mj_callWG C hM (avs := [v1, v2, v3]) hdg hp hw1 hw2 hw4 hw5 hd hR hcat hroom hpre K

theorem mj_callW_4 (C : jCtx l J cc nL own R rt md hh ret thr mc ms) {y : MethodName} {bytes : ByteArray} {maxL : Nat} {rt' : Option FieldType} {h9 : List (Nat × Nat × Nat × Nat)} {fr lo mc' ms' : Nat} {pre : List jV → jM → Prop} {post : List jV → jM → Option jV → jM → Prop} (hM : jMetN l y (.codeWith y bytes maxL rt' h9) fr lo mc' ms' pre post) {idx : Nat} {v1 v2 v3 v4 : jV} (hdg : decode cc pc = .ok (.invokestatic idx, 3)) (hp : pc + 3 = pc') (hw1 : Cond.methodLink own idx y ∈ jWL) (hw2 : Cond.static y ∈ jWL) (hw4 : Cond.initialized y.cls ∈ jWL) (hw5 : Cond.codeWith y bytes maxL rt' h9 ∈ jWL) (hd : y.cls ≠ "java/lang/invoke/MethodHandle" ∧ y.cls ≠ "java/lang/invoke/VarHandle" ∧ (parseMethodDescriptor y.desc).map (fun d => d.parameters.length) = some 4) (hR : fr + 1 ≤ R.frames ∧ 8 + (maxL + 11) + lo ≤ R.locals) (hcat : (st.map jcat).sum ≤ 8) (hroom : k + mc' ≤ R.cells ∧ n + ms' ≤ R.slots)
    (hpre : pre [v1, v2, v3, v4] μ) (K : ∀ r μ', post [v1, v2, v3, v4] μ r μ' → (∀ x, mN μ x ≤ mN μ' x) → J pc' L (r.toList ++ st) μ' (k + mc') (n + ms')) : J pc L (v4 :: v3 :: v2 :: v1 :: st) μ k n :=
  mj_callWG C hM (avs := [v1, v2, v3, v4]) hdg hp hw1 hw2 hw4 hw5 hd hR hcat hroom hpre K

theorem mj_callW_5 (C : jCtx l J cc nL own R rt md hh ret thr mc ms) {y : MethodName} {bytes : ByteArray} {maxL : Nat} {rt' : Option FieldType} {h9 : List (Nat × Nat × Nat × Nat)} {fr lo mc' ms' : Nat} {pre : List jV → jM → Prop} {post : List jV → jM → Option jV → jM → Prop} (hM : jMetN l y (.codeWith y bytes maxL rt' h9) fr lo mc' ms' pre post) {idx : Nat} {v1 v2 v3 v4 v5 : jV} (hdg : decode cc pc = .ok (.invokestatic idx, 3)) (hp : pc + 3 = pc') (hw1 : Cond.methodLink own idx y ∈ jWL) (hw2 : Cond.static y ∈ jWL) (hw4 : Cond.initialized y.cls ∈ jWL) (hw5 : Cond.codeWith y bytes maxL rt' h9 ∈ jWL) (hd : y.cls ≠ "java/lang/invoke/MethodHandle" ∧ y.cls ≠ "java/lang/invoke/VarHandle" ∧ (parseMethodDescriptor y.desc).map (fun d => d.parameters.length) = some 5) (hR : fr + 1 ≤ R.frames ∧ 8 + (maxL + 11) + lo ≤ R.locals) (hcat : (st.map jcat).sum ≤ 8) (hroom : k + mc' ≤ R.cells ∧ n + ms' ≤ R.slots)
    (hpre : pre [v1, v2, v3, v4, v5] μ) (K : ∀ r μ', post [v1, v2, v3, v4, v5] μ r μ' → (∀ x, mN μ x ≤ mN μ' x) → J pc' L (r.toList ++ st) μ' (k + mc') (n + ms')) : J pc L (v5 :: v4 :: v3 :: v2 :: v1 :: st) μ k n :=
  mj_callWG C hM (avs := [v1, v2, v3, v4, v5]) hdg hp hw1 hw2 hw4 hw5 hd hR hcat hroom hpre K

theorem mj_callW_6 (C : jCtx l J cc nL own R rt md hh ret thr mc ms) {y : MethodName} {bytes : ByteArray} {maxL : Nat} {rt' : Option FieldType} {h9 : List (Nat × Nat × Nat × Nat)} {fr lo mc' ms' : Nat} {pre : List jV → jM → Prop} {post : List jV → jM → Option jV → jM → Prop} (hM : jMetN l y (.codeWith y bytes maxL rt' h9) fr lo mc' ms' pre post) {idx : Nat} {v1 v2 v3 v4 v5 v6 : jV} (hdg : decode cc pc = .ok (.invokestatic idx, 3)) (hp : pc + 3 = pc') (hw1 : Cond.methodLink own idx y ∈ jWL) (hw2 : Cond.static y ∈ jWL) (hw4 : Cond.initialized y.cls ∈ jWL) (hw5 : Cond.codeWith y bytes maxL rt' h9 ∈ jWL) (hd : y.cls ≠ "java/lang/invoke/MethodHandle" ∧ y.cls ≠ "java/lang/invoke/VarHandle" ∧ (parseMethodDescriptor y.desc).map (fun d => d.parameters.length) = some 6) (hR : fr + 1 ≤ R.frames ∧ 8 + (maxL + 11) + lo ≤ R.locals) (hcat : (st.map jcat).sum ≤ 8) (hroom : k + mc' ≤ R.cells ∧ n + ms' ≤ R.slots)
    (hpre : pre [v1, v2, v3, v4, v5, v6] μ) (K : ∀ r μ', post [v1, v2, v3, v4, v5, v6] μ r μ' → (∀ x, mN μ x ≤ mN μ' x) → J pc' L (r.toList ++ st) μ' (k + mc') (n + ms')) : J pc L (v6 :: v5 :: v4 :: v3 :: v2 :: v1 :: st) μ k n :=
  mj_callWG C hM (avs := [v1, v2, v3, v4, v5, v6]) hdg hp hw1 hw2 hw4 hw5 hd hR hcat hroom hpre K

/-! ends -/
theorem jEnd_ret {p : Program} {e : Env} {s : State} {m : MethodId} {args : Array Value} {below : List Frame} {meth : Method} {c : Code} {H : Heap} {locs : List Loc} {Q : State → Prop} {D : va_G} {cm : FieldType → ClassId} {ad0 : Nat → Nat → Nat} {μ0 : jM} {g : JFrame} (hE : jEnd md hh l s args below meth c D cm ad0 μ0 Q ret thr mc ms) (hm : md < 3) (w : W p l e R s m args below meth c H locs k n (MQ below (jQ D cm ad0 μ0 ret) args s mc ms (jA ad0 μ0 s.heap.size)) g) : W p l e R s m args below meth c H locs k n Q g := by
  match md, hm, hE with
  | 0, _, hE =>
    obtain ⟨-, -, rfl⟩ := hE
    exact vx_ret w
  | 1, _, hE =>
    obtain ⟨-, rfl⟩ := hE
    exact w
  | 2, _, hE =>
    obtain ⟨-, rfl⟩ := hE
    exact w
theorem jq_of {s : State} {D : va_G} {cm : FieldType → ClassId} {ad0 ad : Nat → Nat → Nat} {μ0 : jM} {H : Heap} {locs : List Loc} {a : Array Value} {r : Option jV} {v : Option Value} (hT : jT D cm ad μ H) (hX : jX ad0 μ0 s.heap.size ad μ) (hS : va_S (jA ad0 μ0 s.heap.size) s.heap H locs) (hr : ∀ w ∈ r, jL μ w) (hq : ret r μ) (hv : v = r.map (jc ad)) : ∀ t : State, t.heap = H → s.WarmedH t.vm → jQ D cm ad0 μ0 ret a s (.returned v) t := fun t ht _ =>
  ⟨r, ad, μ, by rw [hv], hq, by rw [ht]; exact hT, hX, hr, hS.F ht⟩

theorem mj_iret (C : jCtx l J cc nL own R (some .int) md hh ret thr mc ms) {x : Int32} (hdg : decode cc pc = .ok (.ireturn, 1)) (hm : md < 3) (hk : k ≤ mc) (hn : n ≤ ms) (hq : ret (some (aI x)) μ) : J pc L [aI x] μ k n := by
  obtain ⟨p, e, s, m, args, below, meth, c, D, cm, ad0, μ0, Q, rfl, hx, hb, hml, hrt, hown, hlk, hU, hE⟩ := C
  intro ad H locs ls hT hX hS hL hs9 hl
  refine jEnd_ret hE hm (W.widen hk hn ?_)
  exact W.iret hx hb hrt (jq_of hT hX hS (fun w hw => by cases hw; trivial) hq rfl) hS.2.2 hdg hlk

theorem mj_zret (C : jCtx l J cc nL own R (some .boolean) md hh ret thr mc ms) {x : Int32} (hz : x &&& 1 = x) (hdg : decode cc pc = .ok (.ireturn, 1)) (hm : md < 3) (hk : k ≤ mc) (hn : n ≤ ms) (hq : ret (some (aI x)) μ) : J pc L [aI x] μ k n := by
  obtain ⟨p, e, s, m, args, below, meth, c, D, cm, ad0, μ0, Q, rfl, hx, hb, hml, hrt, hown, hlk, hU, hE⟩ := C
  intro ad H locs ls hT hX hS hL hs9 hl
  refine jEnd_ret hE hm (W.widen hk hn ?_)
  exact W.zret hx hb hrt (by show Value.int (x &&& 1) = _; rw [hz]) (jq_of hT hX hS (fun w hw => by cases hw; trivial) hq rfl) hS.2.2 hdg hlk

theorem mj_lret (C : jCtx l J cc nL own R (some .long) md hh ret thr mc ms) {x : Int64} (hdg : decode cc pc = .ok (.lreturn, 1)) (hm : md < 3) (hk : k ≤ mc) (hn : n ≤ ms) (hq : ret (some (aL x)) μ) : J pc L [aL x] μ k n := by
  obtain ⟨p, e, s, m, args, below, meth, c, D, cm, ad0, μ0, Q, rfl, hx, hb, hml, hrt, hown, hlk, hU, hE⟩ := C
  intro ad H locs ls hT hX hS hL hs9 hl
  refine jEnd_ret hE hm (W.widen hk hn ?_)
  exact W.lret hx hb hrt (jq_of hT hX hS (fun w hw => by cases hw; trivial) hq rfl) hS.2.2 hdg hlk

theorem mj_vret (C : jCtx l J cc nL own R none md hh ret thr mc ms)  (hdg : decode cc pc = .ok (.return_, 1)) (hm : md < 3) (hk : k ≤ mc) (hn : n ≤ ms) (hq : ret (none) μ) : J pc L [] μ k n := by
  obtain ⟨p, e, s, m, args, below, meth, c, D, cm, ad0, μ0, Q, rfl, hx, hb, hml, hrt, hown, hlk, hU, hE⟩ := C
  intro ad H locs ls hT hX hS hL hs9 hl
  refine jEnd_ret hE hm (W.widen hk hn ?_)
  exact W.vret hx hb hrt (jq_of hT hX hS (fun w hw => by cases hw) hq rfl) hS.2.2 hdg hlk

theorem mj_aret {C9 : String} (C : jCtx l J cc nL own R (some (.object C9)) md hh ret thr mc ms) {kd i : Nat} (hdg : decode cc pc = .ok (.areturn, 1)) (hm : md < 3) (hk : k ≤ mc) (hn : n ≤ ms) (hq : ret (some (aR kd i)) μ) : J pc L [aR kd i] μ k n := by
  obtain ⟨p, e, s, m, args, below, meth, c, D, cm, ad0, μ0, Q, rfl, hx, hb, hml, hrt, hown, hlk, hU, hE⟩ := C
  intro ad H locs ls hT hX hS hL hs9 hl
  refine jEnd_ret hE hm (W.widen hk hn ?_)
  exact W.aret hx hb hrt (Or.inl ⟨_, rfl⟩) (Or.inr ⟨_, rfl⟩) (jq_of hT hX hS (fun w hw => by cases hw; exact jst_h hs9) hq rfl) hS.2.2 hdg hlk

/-- throw new E("text") -/
theorem mj_throw (C : jCtx l J cc nL own R rt 0 hh ret thr mc ms) {cls text : String} {names : List String} {ik is ic : Nat} (d0 : decode cc pc = .ok (.new ik, 3)) (d3 : decode cc (pc + 3) = .ok (.dup, 1)) (d4 : decode cc (pc + 4) = .ok (.ldc is, 2)) (d6 : decode cc (pc + 6) = .ok (.invokespecial ic, 3)) (d9 : decode cc (pc + 9) = .ok (.athrow, 1))
    (hcls : Bundle.fit cls = true) (hnames : names.all Bundle.fit = true) (hw1 : Cond.classLink own ik cls ∈ jWL) (hw2 : Cond.initialized cls ∈ jWL) (hw3 : ∀ w ∈ vx_atS own ic cls names, w ∈ jWL) (hg : (vx_atS own ic cls names).all vx_ot = true) (hs : (own, is, text) ∈ jStrs)
    (hRf : names.length + 3 < R.frames) (hRl : (st.map jcat).sum + (13 * (names.length + 1) + 43) ≤ R.locals) (hRc : k + 1 ≤ R.cells) (hRs : n + 6 ≤ R.slots) (hk : k + 1 ≤ mc) (hn : n + 6 ≤ ms) (hq : thr cls μ) : J pc L st μ k n := by
  obtain ⟨p, e, s, m, args, below, meth, c, D, cm, ad0, μ0, Q, rfl, hx, hb, hml, hrt, hown, hlk, hU, hE⟩ := C
  obtain ⟨hst, htab, rfl⟩ := hE
  intro ad H locs ls hT hX hS hL hs9 hl
  obtain ⟨sa, hsa⟩ := hU.2.2.2.2.1 _ hs
  refine vx_throwS hx hb hst hown hcls (fun z hz => List.all_eq_true.mp hnames z hz) (hU.w hw1) (hU.w hw2) hsa (fun w hw => hU.w (hw3 w hw)) (fun w hw => ?_) hU.2.2.2.2.2.1 hU.2.2.2.2.2.2 hS (hl.1.trans hml.symm) d0 d3 d4 d6 d9 (fun x hx => (htab x hx).elim) hRf (by rw [jc_cats]; exact hRl) hRc hRs hlk (fun t hvm hz ho => ?_) hS.2.2 hk hn
  · rcases List.mem_cons.mp hw with rfl | hw
    · rfl
    · rcases List.mem_cons.mp hw with rfl | hw
      · rfl
      · exact List.all_eq_true.mp hg w hw
  · refine ⟨ad, μ, hq, ⟨fun kd i h61 hi => (hT.1 kd i h61 hi).kept (ho _ (hT.2.2.2 kd i hi)), hT.2.1, hT.2.2.1, fun kd i hi => Nat.lt_of_lt_of_le (hT.2.2.2 kd i hi) hz⟩, hX, ?_⟩
    exact ⟨Nat.le_trans hS.1 hz, fun q h1 h2 => (ho q (Nat.lt_of_lt_of_le h1 hS.1)).trans (hS.2.1 q h1 h2)⟩
/-! entries -/
/-- the arguments as variables -/
def jAr : List jV → List (Option jV)
  | [] => []
  | v :: r => if jcat v = 2 then some v :: none :: jAr r else some v :: jAr r
theorem jAr_sl (ad : Nat → Nat → Nat) : ∀ avs : List jV, (lg_sl (avs.map (jc ad))).length = (jAr avs).length
  | [] => rfl
  | v :: r => by
    have ih := jAr_sl ad r
    unfold lg_sl at ih ⊢
    rw [List.map_cons, List.flatMap_cons, List.length_append, ih, jc_cat]
    show _ = (if jcat v = 2 then some v :: none :: jAr r else some v :: jAr r).length
    split <;> simp <;> omega
theorem jAr_args (ad : Nat → Nat → Nat) : ∀ (avs : List jV) (j : Nat), lv_args j (avs.map (jc ad)) = jLs ad j (jAr avs)
  | [], _ => rfl
  | v :: r, j => by
    show (j, jc ad v) :: lv_args (if (jc ad v).category = 2 then j + 2 else j + 1) (r.map (jc ad)) = jLs ad j (if jcat v = 2 then some v :: none :: jAr r else some v :: jAr r)
    rw [jc_cat]
    split
    · rw [jAr_args ad r (j + 2)]
      rfl
    · rw [jAr_args ad r (j + 1)]
      rfl
theorem jAr_pad (ad : Nat → Nat → Nat) (w : Nat) : ∀ (L : List (Option jV)) (j : Nat), jLs ad j (L ++ List.replicate w none) = jLs ad j L
  | [], j => by
    show jLs ad j (List.replicate w none) = []
    induction w generalizing j with
    | zero => rfl
    | succ w ih => exact ih (j + 1)
  | none :: r, j => jAr_pad ad w r (j + 1)
  | some v :: r, j => congrArg ((j, jc ad v) :: ·) (jAr_pad ad w r (j + 1))
theorem jAr_in : ∀ (avs : List jV) (w : Nat), (∀ v ∈ avs, jL μ v) → ∀ v, some v ∈ jAr avs ++ List.replicate w none → jL μ v
  | [], w, _, v, hv => by simp [jAr] at hv
  | u :: r, w, h, v, hv => by
    have ih := jAr_in r w (fun v hv => h v (List.mem_cons_of_mem _ hv)) v
    rcases List.mem_append.mp hv with h1 | h1
    · have h2 : some v ∈ (if jcat u = 2 then some u :: none :: jAr r else some u :: jAr r) := h1
      split at h2
      · rcases List.mem_cons.mp h2 with h3 | h3
        · cases h3
          exact h _ List.mem_cons_self
        · rcases List.mem_cons.mp h3 with h4 | h4
          · cases h4
          · exact ih (List.mem_append_left _ h4)
      · rcases List.mem_cons.mp h2 with h3 | h3
        · cases h3
          exact h _ List.mem_cons_self
        · exact ih (List.mem_append_left _ h3)
    · exact ih (List.mem_append_right _ h1)
theorem jent {p : Program} {e : Env} {R : Room} {s : State} {m : MethodId} {args : Array Value} {below : List Frame} {meth : Method} {c : Code} {D : va_G} {cm : FieldType → ClassId} {ad : Nat → Nat → Nat} {Q : State → Prop} {avs : List jV} {sz : Nat} (hP : jPc D cm ad μ avs sz args s) (hav : ∀ v ∈ avs, jL μ v) (hlen : (jAr avs).length ≤ nL)
    (K : jJ p l e R s m args below meth c D cm ad μ nL Q 0 (jAr avs ++ List.replicate (nL - (jAr avs).length) none) [] μ 0 0) : W p l e R s m args below meth c s.heap [] 0 0 Q (entryFrame m args nL) := by
  obtain ⟨h1, h2, h3, h4⟩ := hP
  rw [h1, lg_entry_eq]
  rw [h1] at K
  have hl := lv_entry (avs.map (jc ad)) (n := nL) (by rw [jAr_sl]; exact hlen)
  rw [jAr_args, ← jAr_pad ad (nL - (jAr avs).length)] at hl
  exact K ad s.heap [] _ h3 jX.rf va_S.rf (jAr_in avs _ hav) (fun v hv => nomatch hv) hl
theorem jMet_of (hst : l.stackTraces = false) {y : MethodName} {cc : ByteArray} {nL : Nat} {rt : Option FieldType} {fr lo mc ms : Nat} {pre : List jV → jM → Prop} {ret : List jV → jM → Option jV → jM → Prop} {thr : List jV → jM → String → jM → Prop} (hy : plainName y.cls = true)
    (body : ∀ (avs : List jV) (μ : jM) (J : Nat → List (Option jV) → List jV → jM → Nat → Nat → Prop), jCtx l J cc nL y.cls { frames := fr, cells := mc, slots := ms, locals := lo } rt 0 [] (ret avs μ) (thr avs μ) mc ms → (∀ v ∈ avs, jL μ v) → pre avs μ → (jAr avs).length ≤ nL ∧ J 0 (jAr avs ++ List.replicate (nL - (jAr avs).length) none) [] μ 0 0) : jMet l y cc nL rt fr lo mc ms pre ret thr := by
  intro D cm ad μ avs sz hav hpre
  refine vx_ofW (cc := cc) (maxL := nL) (ret := rt) hy rfl ?_
  intro p e s m args below meth c s₁ B hml htab hP
  have hsz : s.heap.size = sz := hP.2.1
  subst hsz
  obtain ⟨h1, h2⟩ := body avs μ _ ⟨p, e, s, m, args, below, meth, c, D, cm, ad, μ, _, rfl, B.exec, B.bytes, hml, B.returns, findClass_of_methodNamed B.named, B.notSynchronized, hP.2.2.2, hst, htab, rfl⟩ hav hpre
  exact jent hP hav h1 h2
theorem jMetI_of {y : MethodName} {cc : ByteArray} {nL : Nat} {fr lo mc ms : Nat} {pre : List jV → jM → Prop} {ret : List jV → jM → Option jV → jM → Prop} (hy : plainName y.cls = true) (hn : y.name = "<init>")
    (body : ∀ (avs : List jV) (μ : jM) (J : Nat → List (Option jV) → List jV → jM → Nat → Nat → Prop), jCtx l J cc nL y.cls { frames := fr, cells := mc, slots := ms, locals := lo } none 1 [] (ret avs μ) (fun _ _ => False) mc ms → (∀ v ∈ avs, jL μ v) → pre avs μ → (jAr avs).length ≤ nL ∧ J 0 (jAr avs ++ List.replicate (nL - (jAr avs).length) none) [] μ 0 0) : jMetN l y (.code y cc nL none) fr lo mc ms pre ret := by
  intro D cm ad μ avs sz hav hpre
  refine Met.ofW (cc := cc) (maxL := nL) (ret := none) hy rfl ?_
  intro p e s m args below meth c s₁ B hml hP
  have hsz : s.heap.size = sz := hP.2.1
  subst hsz
  obtain ⟨h1, h2⟩ := body avs μ _ ⟨p, e, s, m, args, below, meth, c, D, cm, ad, μ, _, rfl, B.exec, B.bytes, hml, B.returns, findClass_of_methodNamed B.named, B.notSynchronized, hP.2.2.2, (name_of_methodNamed B.named B.method).1.trans hn, rfl⟩ hav hpre
  exact jent hP hav h1 h2
theorem jMetW_of {y : MethodName} {cc : ByteArray} {nL : Nat} {rt : Option FieldType} {h9 : List (Nat × Nat × Nat × Nat)} {fr lo mc ms : Nat} {pre : List jV → jM → Prop} {ret : List jV → jM → Option jV → jM → Prop} (hy : plainName y.cls = true) (hg : Cond.codeWith y cc nL rt h9 ∈ jWL)
    (body : ∀ (avs : List jV) (μ : jM) (J : Nat → List (Option jV) → List jV → jM → Nat → Nat → Prop), jCtx l J cc nL y.cls { frames := fr, cells := mc, slots := ms, locals := lo } rt 2 h9 (ret avs μ) (fun _ _ => False) mc ms → (∀ v ∈ avs, jL μ v) → pre avs μ → (jAr avs).length ≤ nL ∧ J 0 (jAr avs ++ List.replicate (nL - (jAr avs).length) none) [] μ 0 0) : jMetN l y (.codeWith y cc nL rt h9) fr lo mc ms pre ret := by
  intro D cm ad μ avs sz hav hpre
  refine MetFree.of_bodyS (code := cc) (maxLocals := nL) (ret := rt) hy ?_ ?_
  · intro args s m h hn
    obtain ⟨m9, meth, c, hn9, h1, h2, h3, h4, -, h5, h6, -⟩ := Cond.codeWith_spec (atoms_spec (ws := [.codeWith y cc nL rt h9]) h _ List.mem_cons_self)
    cases hn.symm.trans hn9
    exact ⟨meth, c, h1, h2, h3, h4, h5, h6⟩
  · intro p e s m args below meth c s₁ B hml hP _
    have hsz : s.heap.size = sz := hP.2.1
    subst hsz
    have hcw : (Cond.codeWith y cc nL rt h9).before args s = true := atoms_spec (ws := [Cond.codeWith y cc nL rt h9]) B.pre _ List.mem_cons_self
    obtain ⟨h1, h2⟩ := body avs μ _ ⟨p, e, s, m, args, below, meth, c, D, cm, ad, μ, _, rfl, B.exec, B.bytes, hml, B.returns, findClass_of_methodNamed B.named, B.notSynchronized, hP.2.2.2, vx_table (x := y) B hcw, rfl⟩ hav hpre
    have hh0 : s₁.heap = s.heap := by rw [B.state]; rfl
    obtain ⟨t, a1, o, b1, b2, b3⟩ := jent hP hav h1 h2 s₁ hh0 (Stand.of_body B)
    exact ⟨t, o, a1, b1, b2, ⟨b3.1, b3.2⟩⟩
end JCALL
end
section
/-! THE WORDS THAT THE WALKS NEED, by name (made by wip/tools/gen_words.py) -/
theorem jw_at {w : Cond} (i : Nat) (h : lw_tbl[i]? = some w) (g : jGd w = true) : w ∈ jWL := List.mem_filter.mpr ⟨List.mem_of_getElem? h, g⟩
theorem kz_yX5_filesWithHaven : Cond.selects RX5 yX5_filesWithHaven yX5_filesWithHaven ∈ jWL := jw_at 0 (by decide +kernel) rfl
theorem kz_yX5_findHaven : Cond.selects RX5 yX5_findHaven yX5_findHaven ∈ jWL := jw_at 1 (by decide +kernel) rfl
theorem kz_yX5_isSafeIn : Cond.selects RX5 yX5_isSafeIn yX5_isSafeIn ∈ jWL := jw_at 2 (by decide +kernel) rfl
theorem kz_yX5_filesThatAreSafe : Cond.selects RX5 yX5_filesThatAreSafe yX5_filesThatAreSafe ∈ jWL := jw_at 3 (by decide +kernel) rfl
theorem kz_yX5_firstToEnd : Cond.selects RX5 yX5_firstToEnd yX5_firstToEnd ∈ jWL := jw_at 4 (by decide +kernel) rfl
theorem kz_yX5_costOfMove : Cond.selects RX5 yX5_costOfMove yX5_costOfMove ∈ jWL := jw_at 5 (by decide +kernel) rfl
theorem kz_yX5_take : Cond.selects RX5 yX5_take yX5_take ∈ jWL := jw_at 6 (by decide +kernel) rfl
theorem kz_yX5_requireReadable : Cond.selects RX5 yX5_requireReadable yX5_requireReadable ∈ jWL := jw_at 8 (by decide +kernel) rfl
theorem kz_yX5_isReadable : Cond.selects RX5 yX5_isReadable yX5_isReadable ∈ jWL := jw_at 9 (by decide +kernel) rfl
theorem kz_yX3_forgetWays : Cond.selects RX3 yX3_forgetWays yX3_forgetWays ∈ jWL := jw_at 10 (by decide +kernel) rfl
theorem kz_yX5_lawAt : Cond.selects RX5 yX5_lawAt yX5_lawAt ∈ jWL := jw_at 11 (by decide +kernel) rfl
theorem kz_yX5_fileAt : Cond.selects RX5 yX5_fileAt yX5_fileAt ∈ jWL := jw_at 12 (by decide +kernel) rfl
theorem kz_yX5_stateInNewYear : Cond.selects RX5 yX5_stateInNewYear yX5_stateInNewYear ∈ jWL := jw_at 13 (by decide +kernel) rfl
theorem kz_yX5_yearsToPromiseIn : Cond.selects RX5 yX5_yearsToPromiseIn yX5_yearsToPromiseIn ∈ jWL := jw_at 14 (by decide +kernel) rfl
theorem kz_yX6_fails : Cond.selects RX6 yX6_fails yX6_fails ∈ jWL := jw_at 15 (by decide +kernel) rfl
theorem kz_yX6_canBeRead : Cond.selects RX6 yX6_canBeRead yX6_canBeRead ∈ jWL := jw_at 16 (by decide +kernel) rfl
theorem kz_yX6_find : Cond.selects RX6 yX6_find yX6_find ∈ jWL := jw_at 17 (by decide +kernel) rfl
theorem kz_yX6_goAll : Cond.selects RX6 yX6_goAll yX6_goAll ∈ jWL := jw_at 18 (by decide +kernel) rfl
theorem kz_yX6_offer : Cond.selects RX6 yX6_offer yX6_offer ∈ jWL := jw_at 19 (by decide +kernel) rfl
theorem kz_yX6_nextFrom : Cond.selects RX6 yX6_nextFrom yX6_nextFrom ∈ jWL := jw_at 20 (by decide +kernel) rfl
theorem kz_yX6_havenOf : Cond.selects RX6 yX6_havenOf yX6_havenOf ∈ jWL := jw_at 21 (by decide +kernel) rfl
theorem kz_yX6_along : Cond.selects RX6 yX6_along yX6_along ∈ jWL := jw_at 22 (by decide +kernel) rfl
theorem kz_yX6_isSafeIn : Cond.selects RX6 yX6_isSafeIn yX6_isSafeIn ∈ jWL := jw_at 23 (by decide +kernel) rfl
theorem kz_yX6_isNoFile : Cond.selects RX6 yX6_isNoFile yX6_isNoFile ∈ jWL := jw_at 24 (by decide +kernel) rfl
theorem kz_yX6_affords : Cond.selects RX6 yX6_affords yX6_affords ∈ jWL := jw_at 25 (by decide +kernel) rfl
theorem kz_yX6_take : Cond.selects RX6 yX6_take yX6_take ∈ jWL := jw_at 26 (by decide +kernel) rfl
theorem kz_yX6_nextDue : Cond.selects RX6 yX6_nextDue yX6_nextDue ∈ jWL := jw_at 27 (by decide +kernel) rfl
theorem kn_L : Cond.initialized RL ∈ jWL := jw_at 28 (by decide +kernel) rfl
theorem kn_X5 : Cond.initialized RX5 ∈ jWL := jw_at 29 (by decide +kernel) rfl
theorem kn_X3 : Cond.initialized RX3 ∈ jWL := jw_at 30 (by decide +kernel) rfl
theorem kn_X0 : Cond.initialized RX0 ∈ jWL := jw_at 31 (by decide +kernel) rfl
theorem kn_X2 : Cond.initialized RX2 ∈ jWL := jw_at 32 (by decide +kernel) rfl
theorem kn_X6 : Cond.initialized RX6 ∈ jWL := jw_at 33 (by decide +kernel) rfl
theorem kn_Throwable : Cond.initialized "java/lang/Throwable" ∈ jWL := jw_at 34 (by decide +kernel) rfl
theorem kn_Exception : Cond.initialized "java/lang/Exception" ∈ jWL := jw_at 35 (by decide +kernel) rfl
theorem kn_RuntimeException : Cond.initialized "java/lang/RuntimeException" ∈ jWL := jw_at 36 (by decide +kernel) rfl
theorem kn_IOOBE : Cond.initialized "java/lang/IndexOutOfBoundsException" ∈ jWL := jw_at 37 (by decide +kernel) rfl
theorem kn_IAE : Cond.initialized "java/lang/IllegalArgumentException" ∈ jWL := jw_at 38 (by decide +kernel) rfl
theorem kn_ISE : Cond.initialized "java/lang/IllegalStateException" ∈ jWL := jw_at 39 (by decide +kernel) rfl
theorem kn_X1 : Cond.initialized RX1 ∈ jWL := jw_at 40 (by decide +kernel) rfl
theorem kn_J13 : Cond.initialized RJ13 ∈ jWL := jw_at 41 (by decide +kernel) rfl
theorem kn_J9 : Cond.initialized RJ9 ∈ jWL := jw_at 42 (by decide +kernel) rfl
theorem kn_X4 : Cond.initialized RX4 ∈ jWL := jw_at 43 (by decide +kernel) rfl
theorem kl_L_8 : Cond.classLink RL 8 RX5 ∈ jWL := jw_at 44 (by decide +kernel) rfl
theorem kt_X5 : Cond.instantiable RX5 8 ∈ jWL := jw_at 45 (by decide +kernel) rfl
theorem km_L_86 : Cond.methodLink RL 86 yX5_init ∈ jWL := jw_at 46 (by decide +kernel) rfl
theorem ki_yX5_init : Cond.instanceMethod yX5_init ∈ jWL := jw_at 47 (by decide +kernel) rfl
theorem kc_yX5_init : Cond.code yX5_init cX5_init 2 none ∈ jWL := jw_at 48 (by decide +kernel) rfl
theorem km_X5_3 : Cond.methodLink RX5 3 Lib.objectInit ∈ jWL := jw_at 49 (by decide +kernel) rfl
theorem ki_obj : Cond.instanceMethod Lib.objectInit ∈ jWL := jw_at 50 (by decide +kernel) rfl
theorem kc_obj : Cond.code Lib.objectInit ⟨#[0xb1]⟩ 1 none ∈ jWL := jw_at 51 (by decide +kernel) rfl
theorem kl_X5_13 : Cond.classLink RX5 13 RX2 ∈ jWL := jw_at 52 (by decide +kernel) rfl
theorem kl_X5_19 : Cond.classLink RX5 19 RX4 ∈ jWL := jw_at 54 (by decide +kernel) rfl
theorem kl_X5_25 : Cond.classLink RX5 25 RX3 ∈ jWL := jw_at 56 (by decide +kernel) rfl
theorem kt_X3 : Cond.instantiable RX3 6 ∈ jWL := jw_at 57 (by decide +kernel) rfl
theorem km_X5_27 : Cond.methodLink RX5 27 yX3_init ∈ jWL := jw_at 58 (by decide +kernel) rfl
theorem ki_yX3_init : Cond.instanceMethod yX3_init ∈ jWL := jw_at 59 (by decide +kernel) rfl
theorem kc_yX3_init : Cond.code yX3_init cX3_init 2 none ∈ jWL := jw_at 60 (by decide +kernel) rfl
theorem km_X3_3 : Cond.methodLink RX3 3 Lib.objectInit ∈ jWL := jw_at 61 (by decide +kernel) rfl
theorem kl_X3_9 : Cond.classLink RX3 9 RX1 ∈ jWL := jw_at 62 (by decide +kernel) rfl
theorem kl_X3_23 : Cond.classLink RX3 23 RX0 ∈ jWL := jw_at 64 (by decide +kernel) rfl
theorem kt_X0 : Cond.instantiable RX0 5 ∈ jWL := jw_at 66 (by decide +kernel) rfl
theorem km_X3_33 : Cond.methodLink RX3 33 yX0_init ∈ jWL := jw_at 67 (by decide +kernel) rfl
theorem ki_yX0_init : Cond.instanceMethod yX0_init ∈ jWL := jw_at 68 (by decide +kernel) rfl
theorem kc_yX0_init : Cond.code yX0_init cX0_init 1 none ∈ jWL := jw_at 69 (by decide +kernel) rfl
theorem km_X0_3 : Cond.methodLink RX0 3 Lib.objectInit ∈ jWL := jw_at 70 (by decide +kernel) rfl
theorem kl_X0_21 : Cond.classLink RX0 21 "[[I" ∈ jWL := jw_at 71 (by decide +kernel) rfl
theorem kf_X0_9 : Cond.fieldLink RX0 9 "FormatVault$BestWays" "quality" "[I" ∈ jWL := jw_at 73 (by decide +kernel) rfl
theorem kf_X5_125 : Cond.fieldLink RX5 125 "FormatVault$BestWays" "quality" "[I" ∈ jWL := jw_at 74 (by decide +kernel) rfl
theorem kf_X0_15 : Cond.fieldLink RX0 15 "FormatVault$BestWays" "cost" "[I" ∈ jWL := jw_at 75 (by decide +kernel) rfl
theorem kf_X5_134 : Cond.fieldLink RX5 134 "FormatVault$BestWays" "cost" "[I" ∈ jWL := jw_at 76 (by decide +kernel) rfl
theorem kf_X0_18 : Cond.fieldLink RX0 18 "FormatVault$BestWays" "length" "[I" ∈ jWL := jw_at 77 (by decide +kernel) rfl
theorem kf_X3_70 : Cond.fieldLink RX3 70 "FormatVault$BestWays" "length" "[I" ∈ jWL := jw_at 78 (by decide +kernel) rfl
theorem kf_X5_139 : Cond.fieldLink RX5 139 "FormatVault$BestWays" "length" "[I" ∈ jWL := jw_at 79 (by decide +kernel) rfl
theorem kf_X0_23 : Cond.fieldLink RX0 23 "FormatVault$BestWays" "steps" "[[I" ∈ jWL := jw_at 80 (by decide +kernel) rfl
theorem kf_X3_73 : Cond.fieldLink RX3 73 "FormatVault$BestWays" "steps" "[[I" ∈ jWL := jw_at 81 (by decide +kernel) rfl
theorem kf_X5_142 : Cond.fieldLink RX5 142 "FormatVault$BestWays" "steps" "[[I" ∈ jWL := jw_at 82 (by decide +kernel) rfl
theorem kf_X3_55 : Cond.fieldLink RX3 55 "FormatVault$BestWays" "isCurrent" "Z" ∈ jWL := jw_at 83 (by decide +kernel) rfl
theorem ka_int : Cond.arrayClass .int ∈ jWL := jw_at 95 (by decide +kernel) rfl
theorem kf_X3_11 : Cond.fieldLink RX3 11 "FormatVault$Network" "converters" "[LFormatVault$Converter;" ∈ jWL := jw_at 96 (by decide +kernel) rfl
theorem kf_X5_83 : Cond.fieldLink RX5 83 "FormatVault$Network" "converters" "[LFormatVault$Converter;" ∈ jWL := jw_at 97 (by decide +kernel) rfl
theorem kf_X3_42 : Cond.fieldLink RX3 42 "FormatVault$Network" "count" "I" ∈ jWL := jw_at 98 (by decide +kernel) rfl
theorem kf_X5_61 : Cond.fieldLink RX5 61 "FormatVault$Network" "count" "I" ∈ jWL := jw_at 99 (by decide +kernel) rfl
theorem kf_X3_17 : Cond.fieldLink RX3 17 "FormatVault$Network" "lowestFrom" "[LFormatVault$Converter;" ∈ jWL := jw_at 100 (by decide +kernel) rfl
theorem kf_X3_20 : Cond.fieldLink RX3 20 "FormatVault$Network" "highestFrom" "[LFormatVault$Converter;" ∈ jWL := jw_at 101 (by decide +kernel) rfl
theorem kf_X3_25 : Cond.fieldLink RX3 25 "FormatVault$Network" "best" "[LFormatVault$BestWays;" ∈ jWL := jw_at 102 (by decide +kernel) rfl
theorem kf_X3_29 : Cond.fieldLink RX3 29 "FormatVault$Network" "trail" "[I" ∈ jWL := jw_at 103 (by decide +kernel) rfl
theorem kt_X2 : Cond.instantiable RX2 3 ∈ jWL := jw_at 117 (by decide +kernel) rfl
theorem km_X5_39 : Cond.methodLink RX5 39 yX2_init ∈ jWL := jw_at 118 (by decide +kernel) rfl
theorem ki_yX2_init : Cond.instanceMethod yX2_init ∈ jWL := jw_at 119 (by decide +kernel) rfl
theorem kc_yX2_init : Cond.code yX2_init cX2_init 1 none ∈ jWL := jw_at 120 (by decide +kernel) rfl
theorem km_X2_1 : Cond.methodLink RX2 1 Lib.objectInit ∈ jWL := jw_at 121 (by decide +kernel) rfl
theorem kf_X2_7 : Cond.fieldLink RX2 7 "FormatVault$Law" "years" "I" ∈ jWL := jw_at 122 (by decide +kernel) rfl
theorem kf_X4_28 : Cond.fieldLink RX4 28 "FormatVault$Law" "years" "I" ∈ jWL := jw_at 123 (by decide +kernel) rfl
theorem kf_X5_112 : Cond.fieldLink RX5 112 "FormatVault$Law" "years" "I" ∈ jWL := jw_at 124 (by decide +kernel) rfl
theorem kf_X2_13 : Cond.fieldLink RX2 13 "FormatVault$Law" "least" "I" ∈ jWL := jw_at 125 (by decide +kernel) rfl
theorem kf_X5_115 : Cond.fieldLink RX5 115 "FormatVault$Law" "least" "I" ∈ jWL := jw_at 126 (by decide +kernel) rfl
theorem kf_X2_16 : Cond.fieldLink RX2 16 "FormatVault$Law" "reads" "I" ∈ jWL := jw_at 127 (by decide +kernel) rfl
theorem kf_X5_118 : Cond.fieldLink RX5 118 "FormatVault$Law" "reads" "I" ∈ jWL := jw_at 128 (by decide +kernel) rfl
theorem kf_X5_9 : Cond.fieldLink RX5 9 "FormatVault" "lasts" "[I" ∈ jWL := jw_at 136 (by decide +kernel) rfl
theorem kf_X5_15 : Cond.fieldLink RX5 15 "FormatVault" "laws" "[LFormatVault$Law;" ∈ jWL := jw_at 137 (by decide +kernel) rfl
theorem kf_X5_21 : Cond.fieldLink RX5 21 "FormatVault" "files" "[LFormatVault$StoredFile;" ∈ jWL := jw_at 138 (by decide +kernel) rfl
theorem kf_X5_28 : Cond.fieldLink RX5 28 "FormatVault" "network" "LFormatVault$Network;" ∈ jWL := jw_at 139 (by decide +kernel) rfl
theorem kf_X5_146 : Cond.fieldLink RX5 146 "FormatVault" "fileCount" "I" ∈ jWL := jw_at 140 (by decide +kernel) rfl
theorem kf_X5_44 : Cond.fieldLink RX5 44 "FormatVault" "now" "I" ∈ jWL := jw_at 141 (by decide +kernel) rfl
theorem kf_X5_32 : Cond.fieldLink RX5 32 "FormatVault" "budget" "I" ∈ jWL := jw_at 142 (by decide +kernel) rfl
theorem kf_X5_36 : Cond.fieldLink RX5 36 "FormatVault" "unspent" "I" ∈ jWL := jw_at 143 (by decide +kernel) rfl
theorem km_L_137 : Cond.methodLink RL 137 yX5_moveAhead ∈ jWL := jw_at 161 (by decide +kernel) rfl
theorem ki_yX5_moveAhead : Cond.instanceMethod yX5_moveAhead ∈ jWL := jw_at 162 (by decide +kernel) rfl
theorem kz_yX5_moveAhead : Cond.selects RX5 yX5_moveAhead yX5_moveAhead ∈ jWL := jw_at 163 (by decide +kernel) rfl
theorem kc_yX5_moveAhead : Cond.code yX5_moveAhead cX5_moveAhead 8 (some FieldType.int) ∈ jWL := jw_at 164 (by decide +kernel) rfl
theorem km_X5_93 : Cond.methodLink RX5 93 yX5_filesWithHaven ∈ jWL := jw_at 165 (by decide +kernel) rfl
theorem ki_yX5_filesWithHaven : Cond.instanceMethod yX5_filesWithHaven ∈ jWL := jw_at 167 (by decide +kernel) rfl
theorem kc_yX5_filesWithHaven : Cond.code yX5_filesWithHaven cX5_filesWithHaven 4 (some FieldType.long) ∈ jWL := jw_at 168 (by decide +kernel) rfl
theorem km_X5_199 : Cond.methodLink RX5 199 yX5_findHaven ∈ jWL := jw_at 169 (by decide +kernel) rfl
theorem ki_yX5_findHaven : Cond.instanceMethod yX5_findHaven ∈ jWL := jw_at 171 (by decide +kernel) rfl
theorem kc_yX5_findHaven : Cond.code yX5_findHaven cX5_findHaven 10 (some FieldType.int) ∈ jWL := jw_at 172 (by decide +kernel) rfl
theorem km_X5_121 : Cond.methodLink RX5 121 yX3_waysFrom ∈ jWL := jw_at 173 (by decide +kernel) rfl
theorem ki_yX3_waysFrom : Cond.instanceMethod yX3_waysFrom ∈ jWL := jw_at 174 (by decide +kernel) rfl
theorem kz_yX3_waysFrom : Cond.selects RX3 yX3_waysFrom yX3_waysFrom ∈ jWL := jw_at 175 (by decide +kernel) rfl
theorem kc_yX3_waysFrom : Cond.code yX3_waysFrom cX3_waysFrom 3 (some (FieldType.object "FormatVault$BestWays")) ∈ jWL := jw_at 176 (by decide +kernel) rfl
theorem km_X3_58 : Cond.methodLink RX3 58 yX0_restart ∈ jWL := jw_at 177 (by decide +kernel) rfl
theorem ki_yX0_restart : Cond.instanceMethod yX0_restart ∈ jWL := jw_at 178 (by decide +kernel) rfl
theorem kz_yX0_restart : Cond.selects RX0 yX0_restart yX0_restart ∈ jWL := jw_at 179 (by decide +kernel) rfl
theorem kc_yX0_restart : Cond.code yX0_restart cX0_restart 3 none ∈ jWL := jw_at 180 (by decide +kernel) rfl
theorem km_X3_62 : Cond.methodLink RX3 62 yX3_search ∈ jWL := jw_at 181 (by decide +kernel) rfl
theorem ks_yX3_search : Cond.static yX3_search ∈ jWL := jw_at 182 (by decide +kernel) rfl
theorem kc_yX3_search : Cond.code yX3_search cX3_search 10 none ∈ jWL := jw_at 183 (by decide +kernel) rfl
theorem km_X3_81 : Cond.methodLink RX3 81 yX1_goesOn ∈ jWL := jw_at 184 (by decide +kernel) rfl
theorem ki_yX1_goesOn : Cond.instanceMethod yX1_goesOn ∈ jWL := jw_at 185 (by decide +kernel) rfl
theorem kz_yX1_goesOn : Cond.selects RX1 yX1_goesOn yX1_goesOn ∈ jWL := jw_at 186 (by decide +kernel) rfl
theorem kc_yX1_goesOn : Cond.code yX1_goesOn cX1_goesOn 2 (some FieldType.boolean) ∈ jWL := jw_at 187 (by decide +kernel) rfl
theorem km_X3_77 : Cond.methodLink RX3 77 yX1_qualityAfter ∈ jWL := jw_at 188 (by decide +kernel) rfl
theorem ki_yX1_qualityAfter : Cond.instanceMethod yX1_qualityAfter ∈ jWL := jw_at 189 (by decide +kernel) rfl
theorem kz_yX1_qualityAfter : Cond.selects RX1 yX1_qualityAfter yX1_qualityAfter ∈ jWL := jw_at 190 (by decide +kernel) rfl
theorem kc_yX1_qualityAfter : Cond.code yX1_qualityAfter cX1_qualityAfter 2 (some FieldType.int) ∈ jWL := jw_at 191 (by decide +kernel) rfl
theorem km_X3_91 : Cond.methodLink RX3 91 yX0_offer ∈ jWL := jw_at 192 (by decide +kernel) rfl
theorem ki_yX0_offer : Cond.instanceMethod yX0_offer ∈ jWL := jw_at 193 (by decide +kernel) rfl
theorem kz_yX0_offer : Cond.selects RX0 yX0_offer yX0_offer ∈ jWL := jw_at 194 (by decide +kernel) rfl
theorem kc_yX0_offer : Cond.code yX0_offer cX0_offer 11 (some FieldType.boolean) ∈ jWL := jw_at 195 (by decide +kernel) rfl
theorem km_X5_206 : Cond.methodLink RX5 206 yX5_isSafeIn ∈ jWL := jw_at 196 (by decide +kernel) rfl
theorem ki_yX5_isSafeIn : Cond.instanceMethod yX5_isSafeIn ∈ jWL := jw_at 198 (by decide +kernel) rfl
theorem kc_yX5_isSafeIn : Cond.code yX5_isSafeIn cX5_isSafeIn 4 (some FieldType.boolean) ∈ jWL := jw_at 199 (by decide +kernel) rfl
theorem km_X5_247 : Cond.methodLink RX5 247 yX3_qualityBehind ∈ jWL := jw_at 200 (by decide +kernel) rfl
theorem ki_yX3_qualityBehind : Cond.instanceMethod yX3_qualityBehind ∈ jWL := jw_at 201 (by decide +kernel) rfl
theorem kz_yX3_qualityBehind : Cond.selects RX3 yX3_qualityBehind yX3_qualityBehind ∈ jWL := jw_at 202 (by decide +kernel) rfl
theorem kc_yX3_qualityBehind : Cond.code yX3_qualityBehind cX3_qualityBehind 6 (some FieldType.int) ∈ jWL := jw_at 203 (by decide +kernel) rfl
theorem km_X5_193 : Cond.methodLink RX5 193 yX5_filesThatAreSafe ∈ jWL := jw_at 204 (by decide +kernel) rfl
theorem ki_yX5_filesThatAreSafe : Cond.instanceMethod yX5_filesThatAreSafe ∈ jWL := jw_at 206 (by decide +kernel) rfl
theorem kc_yX5_filesThatAreSafe : Cond.code yX5_filesThatAreSafe cX5_filesThatAreSafe 4 (some FieldType.long) ∈ jWL := jw_at 207 (by decide +kernel) rfl
theorem kk_X5_100 : Cond.constantLong RX5 100 (-1) ∈ jWL := jw_at 208 (by decide +kernel) rfl
theorem km_X5_196 : Cond.methodLink RX5 196 yX5_firstToEnd ∈ jWL := jw_at 209 (by decide +kernel) rfl
theorem ki_yX5_firstToEnd : Cond.instanceMethod yX5_firstToEnd ∈ jWL := jw_at 211 (by decide +kernel) rfl
theorem kc_yX5_firstToEnd : Cond.code yX5_firstToEnd cX5_firstToEnd 7 (some FieldType.int) ∈ jWL := jw_at 212 (by decide +kernel) rfl
theorem kk_X5_253 : Cond.constant RX5 253 (2147483647) ∈ jWL := jw_at 213 (by decide +kernel) rfl
theorem km_X5_183 : Cond.methodLink RX5 183 yX5_costOfMove ∈ jWL := jw_at 214 (by decide +kernel) rfl
theorem ki_yX5_costOfMove : Cond.instanceMethod yX5_costOfMove ∈ jWL := jw_at 216 (by decide +kernel) rfl
theorem kc_yX5_costOfMove : Cond.code yX5_costOfMove cX5_costOfMove 3 (some FieldType.int) ∈ jWL := jw_at 217 (by decide +kernel) rfl
theorem km_X5_189 : Cond.methodLink RX5 189 yX5_take ∈ jWL := jw_at 218 (by decide +kernel) rfl
theorem ki_yX5_take : Cond.instanceMethod yX5_take ∈ jWL := jw_at 220 (by decide +kernel) rfl
theorem kc_yX5_take : Cond.code yX5_take cX5_take 4 none ∈ jWL := jw_at 221 (by decide +kernel) rfl
theorem km_L_162 : Cond.methodLink RL 162 yX5_left ∈ jWL := jw_at 222 (by decide +kernel) rfl
theorem ki_yX5_left : Cond.instanceMethod yX5_left ∈ jWL := jw_at 223 (by decide +kernel) rfl
theorem kz_yX5_left : Cond.selects RX5 yX5_left yX5_left ∈ jWL := jw_at 224 (by decide +kernel) rfl
theorem kc_yX5_left : Cond.code yX5_left cX5_left 1 (some FieldType.int) ∈ jWL := jw_at 225 (by decide +kernel) rfl
theorem km_L_170 : Cond.methodLink RL 170 yX5_year ∈ jWL := jw_at 226 (by decide +kernel) rfl
theorem ki_yX5_year : Cond.instanceMethod yX5_year ∈ jWL := jw_at 227 (by decide +kernel) rfl
theorem kz_yX5_year : Cond.selects RX5 yX5_year yX5_year ∈ jWL := jw_at 228 (by decide +kernel) rfl
theorem kc_yX5_year : Cond.code yX5_year cX5_year 1 (some FieldType.int) ∈ jWL := jw_at 229 (by decide +kernel) rfl
theorem km_L_174 : Cond.methodLink RL 174 yX5_overdue ∈ jWL := jw_at 230 (by decide +kernel) rfl
theorem ki_yX5_overdue : Cond.instanceMethod yX5_overdue ∈ jWL := jw_at 231 (by decide +kernel) rfl
theorem kz_yX5_overdue : Cond.selects RX5 yX5_overdue yX5_overdue ∈ jWL := jw_at 232 (by decide +kernel) rfl
theorem kc_yX5_overdue : Cond.code yX5_overdue cX5_overdue 4 (some FieldType.int) ∈ jWL := jw_at 233 (by decide +kernel) rfl
theorem km_L_90 : Cond.methodLink RL 90 yL_setLast ∈ jWL := jw_at 234 (by decide +kernel) rfl
theorem ks_yL_setLast : Cond.static yL_setLast ∈ jWL := jw_at 235 (by decide +kernel) rfl
theorem kc_yL_setLast : Cond.codeWith yL_setLast cL_setLast 5 (some FieldType.int) [(0, 10, 13, 13), (0, 10, 17, 15), (0, 10, 21, 17)] ∈ jWL := jw_at 236 (by decide +kernel) rfl
theorem kl_L_13 : Cond.classLink RL 13 "java/lang/IndexOutOfBoundsException" ∈ jWL := jw_at 237 (by decide +kernel) rfl
theorem kl_L_15 : Cond.classLink RL 15 "java/lang/IllegalArgumentException" ∈ jWL := jw_at 238 (by decide +kernel) rfl
theorem kl_L_17 : Cond.classLink RL 17 "java/lang/IllegalStateException" ∈ jWL := jw_at 239 (by decide +kernel) rfl
theorem km_L_7 : Cond.methodLink RL 7 yX5_setLast ∈ jWL := jw_at 240 (by decide +kernel) rfl
theorem ki_yX5_setLast : Cond.instanceMethod yX5_setLast ∈ jWL := jw_at 241 (by decide +kernel) rfl
theorem kz_yX5_setLast : Cond.selects RX5 yX5_setLast yX5_setLast ∈ jWL := jw_at 242 (by decide +kernel) rfl
theorem kc_yX5_setLast : Cond.code yX5_setLast cX5_setLast 4 (some FieldType.int) ∈ jWL := jw_at 243 (by decide +kernel) rfl
theorem km_X5_40 : Cond.methodLink RX5 40 yX5_requireFormat ∈ jWL := jw_at 244 (by decide +kernel) rfl
theorem ks_yX5_requireFormat : Cond.static yX5_requireFormat ∈ jWL := jw_at 245 (by decide +kernel) rfl
theorem kc_yX5_requireFormat : Cond.code yX5_requireFormat cX5_requireFormat 1 none ∈ jWL := jw_at 246 (by decide +kernel) rfl
theorem kl_X5_78 : Cond.classLink RX5 78 "java/lang/IndexOutOfBoundsException" ∈ jWL := jw_at 247 (by decide +kernel) rfl
theorem kx_IOOBE : Cond.castable "java/lang/IndexOutOfBoundsException" "java/lang/IndexOutOfBoundsException" ∈ jWL := jw_at 249 (by decide +kernel) rfl
theorem ka_byte : Cond.arrayClass .byte ∈ jWL := jw_at 314 (by decide +kernel) rfl
theorem km_X5_47 : Cond.methodLink RX5 47 yX5_requireRange ∈ jWL := jw_at 315 (by decide +kernel) rfl
theorem ks_yX5_requireRange : Cond.static yX5_requireRange ∈ jWL := jw_at 316 (by decide +kernel) rfl
theorem kc_yX5_requireRange : Cond.code yX5_requireRange cX5_requireRange 3 none ∈ jWL := jw_at 317 (by decide +kernel) rfl
theorem kl_X5_54 : Cond.classLink RX5 54 "java/lang/IllegalArgumentException" ∈ jWL := jw_at 318 (by decide +kernel) rfl
theorem kx_IAE : Cond.castable "java/lang/IllegalArgumentException" "java/lang/IllegalArgumentException" ∈ jWL := jw_at 320 (by decide +kernel) rfl
theorem km_X5_51 : Cond.methodLink RX5 51 yX5_requireReadable ∈ jWL := jw_at 334 (by decide +kernel) rfl
theorem ki_yX5_requireReadable : Cond.instanceMethod yX5_requireReadable ∈ jWL := jw_at 336 (by decide +kernel) rfl
theorem kc_yX5_requireReadable : Cond.code yX5_requireReadable cX5_requireReadable 2 none ∈ jWL := jw_at 337 (by decide +kernel) rfl
theorem km_X5_219 : Cond.methodLink RX5 219 yX5_isReadable ∈ jWL := jw_at 338 (by decide +kernel) rfl
theorem ki_yX5_isReadable : Cond.instanceMethod yX5_isReadable ∈ jWL := jw_at 340 (by decide +kernel) rfl
theorem kc_yX5_isReadable : Cond.code yX5_isReadable cX5_isReadable 2 (some FieldType.boolean) ∈ jWL := jw_at 341 (by decide +kernel) rfl
theorem kl_X5_64 : Cond.classLink RX5 64 "java/lang/IllegalStateException" ∈ jWL := jw_at 342 (by decide +kernel) rfl
theorem kx_ISE : Cond.castable "java/lang/IllegalStateException" "java/lang/IllegalStateException" ∈ jWL := jw_at 344 (by decide +kernel) rfl
theorem km_L_99 : Cond.methodLink RL 99 yL_converter ∈ jWL := jw_at 358 (by decide +kernel) rfl
theorem ks_yL_converter : Cond.static yL_converter ∈ jWL := jw_at 359 (by decide +kernel) rfl
theorem kc_yL_converter : Cond.codeWith yL_converter cL_converter 7 (some FieldType.int) [(0, 14, 17, 13), (0, 14, 21, 15), (0, 14, 25, 17)] ∈ jWL := jw_at 360 (by decide +kernel) rfl
theorem km_L_19 : Cond.methodLink RL 19 yX5_converter ∈ jWL := jw_at 361 (by decide +kernel) rfl
theorem ki_yX5_converter : Cond.instanceMethod yX5_converter ∈ jWL := jw_at 362 (by decide +kernel) rfl
theorem kz_yX5_converter : Cond.selects RX5 yX5_converter yX5_converter ∈ jWL := jw_at 363 (by decide +kernel) rfl
theorem kc_yX5_converter : Cond.code yX5_converter cX5_converter 5 (some FieldType.int) ∈ jWL := jw_at 364 (by decide +kernel) rfl
theorem kl_X5_69 : Cond.classLink RX5 69 RX1 ∈ jWL := jw_at 367 (by decide +kernel) rfl
theorem kt_X1 : Cond.instantiable RX1 7 ∈ jWL := jw_at 368 (by decide +kernel) rfl
theorem km_X5_71 : Cond.methodLink RX5 71 yX1_init ∈ jWL := jw_at 369 (by decide +kernel) rfl
theorem ki_yX1_init : Cond.instanceMethod yX1_init ∈ jWL := jw_at 370 (by decide +kernel) rfl
theorem kc_yX1_init : Cond.code yX1_init cX1_init 6 none ∈ jWL := jw_at 371 (by decide +kernel) rfl
theorem km_X1_3 : Cond.methodLink RX1 3 Lib.objectInit ∈ jWL := jw_at 372 (by decide +kernel) rfl
theorem kf_X1_9 : Cond.fieldLink RX1 9 "FormatVault$Converter" "number" "I" ∈ jWL := jw_at 373 (by decide +kernel) rfl
theorem kf_X3_48 : Cond.fieldLink RX3 48 "FormatVault$Converter" "number" "I" ∈ jWL := jw_at 374 (by decide +kernel) rfl
theorem kf_X1_15 : Cond.fieldLink RX1 15 "FormatVault$Converter" "from" "I" ∈ jWL := jw_at 375 (by decide +kernel) rfl
theorem kf_X3_34 : Cond.fieldLink RX3 34 "FormatVault$Converter" "from" "I" ∈ jWL := jw_at 376 (by decide +kernel) rfl
theorem kf_X1_18 : Cond.fieldLink RX1 18 "FormatVault$Converter" "to" "I" ∈ jWL := jw_at 377 (by decide +kernel) rfl
theorem kf_X3_88 : Cond.fieldLink RX3 88 "FormatVault$Converter" "to" "I" ∈ jWL := jw_at 378 (by decide +kernel) rfl
theorem kf_X1_21 : Cond.fieldLink RX1 21 "FormatVault$Converter" "loss" "I" ∈ jWL := jw_at 379 (by decide +kernel) rfl
theorem kf_X1_24 : Cond.fieldLink RX1 24 "FormatVault$Converter" "cost" "I" ∈ jWL := jw_at 380 (by decide +kernel) rfl
theorem kf_X3_85 : Cond.fieldLink RX3 85 "FormatVault$Converter" "cost" "I" ∈ jWL := jw_at 381 (by decide +kernel) rfl
theorem kf_X1_27 : Cond.fieldLink RX1 27 "FormatVault$Converter" "isWithdrawn" "Z" ∈ jWL := jw_at 382 (by decide +kernel) rfl
theorem kf_X3_51 : Cond.fieldLink RX3 51 "FormatVault$Converter" "isWithdrawn" "Z" ∈ jWL := jw_at 383 (by decide +kernel) rfl
theorem kf_X5_87 : Cond.fieldLink RX5 87 "FormatVault$Converter" "isWithdrawn" "Z" ∈ jWL := jw_at 384 (by decide +kernel) rfl
theorem kf_X3_38 : Cond.fieldLink RX3 38 "FormatVault$Converter" "next" "LFormatVault$Converter;" ∈ jWL := jw_at 385 (by decide +kernel) rfl
theorem km_X5_74 : Cond.methodLink RX5 74 yX3_add ∈ jWL := jw_at 401 (by decide +kernel) rfl
theorem ki_yX3_add : Cond.instanceMethod yX3_add ∈ jWL := jw_at 402 (by decide +kernel) rfl
theorem kz_yX3_add : Cond.selects RX3 yX3_add yX3_add ∈ jWL := jw_at 403 (by decide +kernel) rfl
theorem kc_yX3_add : Cond.code yX3_add cX3_add 3 (some FieldType.int) ∈ jWL := jw_at 404 (by decide +kernel) rfl
theorem km_X3_45 : Cond.methodLink RX3 45 yX3_forgetWays ∈ jWL := jw_at 405 (by decide +kernel) rfl
theorem ki_yX3_forgetWays : Cond.instanceMethod yX3_forgetWays ∈ jWL := jw_at 407 (by decide +kernel) rfl
theorem kc_yX3_forgetWays : Cond.code yX3_forgetWays cX3_forgetWays 2 none ∈ jWL := jw_at 408 (by decide +kernel) rfl
theorem km_L_103 : Cond.methodLink RL 103 yL_withdraw ∈ jWL := jw_at 409 (by decide +kernel) rfl
theorem ks_yL_withdraw : Cond.static yL_withdraw ∈ jWL := jw_at 410 (by decide +kernel) rfl
theorem kc_yL_withdraw : Cond.codeWith yL_withdraw cL_withdraw 4 (some FieldType.int) [(0, 9, 12, 13), (0, 9, 15, 17)] ∈ jWL := jw_at 411 (by decide +kernel) rfl
theorem km_L_23 : Cond.methodLink RL 23 yX5_withdraw ∈ jWL := jw_at 412 (by decide +kernel) rfl
theorem ki_yX5_withdraw : Cond.instanceMethod yX5_withdraw ∈ jWL := jw_at 413 (by decide +kernel) rfl
theorem kz_yX5_withdraw : Cond.selects RX5 yX5_withdraw yX5_withdraw ∈ jWL := jw_at 414 (by decide +kernel) rfl
theorem kc_yX5_withdraw : Cond.code yX5_withdraw cX5_withdraw 4 (some FieldType.int) ∈ jWL := jw_at 415 (by decide +kernel) rfl
theorem km_X5_97 : Cond.methodLink RX5 97 yX3_withdrawOne ∈ jWL := jw_at 418 (by decide +kernel) rfl
theorem ki_yX3_withdrawOne : Cond.instanceMethod yX3_withdrawOne ∈ jWL := jw_at 419 (by decide +kernel) rfl
theorem kz_yX3_withdrawOne : Cond.selects RX3 yX3_withdrawOne yX3_withdrawOne ∈ jWL := jw_at 420 (by decide +kernel) rfl
theorem kc_yX3_withdrawOne : Cond.code yX3_withdrawOne cX3_withdrawOne 2 none ∈ jWL := jw_at 421 (by decide +kernel) rfl
theorem km_X5_102 : Cond.methodLink RX5 102 yJ13_bitCount_95d88 ∈ jWL := jw_at 422 (by decide +kernel) rfl
theorem ks_yJ13_bitCount_95d88 : Cond.static yJ13_bitCount_95d88 ∈ jWL := jw_at 423 (by decide +kernel) rfl
theorem kc_yJ13_bitCount_95d88 : Cond.code yJ13_bitCount_95d88 cJ13_bitCount_95d88 2 (some FieldType.int) ∈ jWL := jw_at 424 (by decide +kernel) rfl
theorem kk_J13_314 : Cond.constantLong RJ13 314 (6148914691236517205) ∈ jWL := jw_at 425 (by decide +kernel) rfl
theorem kk_J13_316 : Cond.constantLong RJ13 316 (3689348814741910323) ∈ jWL := jw_at 426 (by decide +kernel) rfl
theorem kk_J13_318 : Cond.constantLong RJ13 318 (1085102592571150095) ∈ jWL := jw_at 427 (by decide +kernel) rfl
theorem km_L_107 : Cond.methodLink RL 107 yL_law ∈ jWL := jw_at 428 (by decide +kernel) rfl
theorem ks_yL_law : Cond.static yL_law ∈ jWL := jw_at 429 (by decide +kernel) rfl
theorem kc_yL_law : Cond.codeWith yL_law cL_law 6 (some FieldType.int) [(0, 9, 12, 13), (0, 9, 16, 15)] ∈ jWL := jw_at 430 (by decide +kernel) rfl
theorem km_L_27 : Cond.methodLink RL 27 yX5_law ∈ jWL := jw_at 431 (by decide +kernel) rfl
theorem ki_yX5_law : Cond.instanceMethod yX5_law ∈ jWL := jw_at 432 (by decide +kernel) rfl
theorem kz_yX5_law : Cond.selects RX5 yX5_law yX5_law ∈ jWL := jw_at 433 (by decide +kernel) rfl
theorem kc_yX5_law : Cond.code yX5_law cX5_law 6 none ∈ jWL := jw_at 434 (by decide +kernel) rfl
theorem km_X5_108 : Cond.methodLink RX5 108 yX5_lawAt ∈ jWL := jw_at 435 (by decide +kernel) rfl
theorem ki_yX5_lawAt : Cond.instanceMethod yX5_lawAt ∈ jWL := jw_at 437 (by decide +kernel) rfl
theorem kc_yX5_lawAt : Cond.code yX5_lawAt cX5_lawAt 2 (some (FieldType.object "FormatVault$Law")) ∈ jWL := jw_at 438 (by decide +kernel) rfl
theorem km_L_111 : Cond.methodLink RL 111 yL_quality ∈ jWL := jw_at 440 (by decide +kernel) rfl
theorem ks_yL_quality : Cond.static yL_quality ∈ jWL := jw_at 441 (by decide +kernel) rfl
theorem kc_yL_quality : Cond.codeWith yL_quality cL_quality 5 (some FieldType.int) [(0, 10, 13, 13)] ∈ jWL := jw_at 442 (by decide +kernel) rfl
theorem km_L_31 : Cond.methodLink RL 31 yX5_quality ∈ jWL := jw_at 443 (by decide +kernel) rfl
theorem ki_yX5_quality : Cond.instanceMethod yX5_quality ∈ jWL := jw_at 444 (by decide +kernel) rfl
theorem kz_yX5_quality : Cond.selects RX5 yX5_quality yX5_quality ∈ jWL := jw_at 445 (by decide +kernel) rfl
theorem kc_yX5_quality : Cond.code yX5_quality cX5_quality 3 (some FieldType.int) ∈ jWL := jw_at 446 (by decide +kernel) rfl
theorem km_L_114 : Cond.methodLink RL 114 yL_qualityByAll ∈ jWL := jw_at 447 (by decide +kernel) rfl
theorem ks_yL_qualityByAll : Cond.static yL_qualityByAll ∈ jWL := jw_at 448 (by decide +kernel) rfl
theorem kc_yL_qualityByAll : Cond.codeWith yL_qualityByAll cL_qualityByAll 5 (some FieldType.int) [(0, 10, 13, 13)] ∈ jWL := jw_at 449 (by decide +kernel) rfl
theorem km_L_34 : Cond.methodLink RL 34 yX5_qualityByAll ∈ jWL := jw_at 450 (by decide +kernel) rfl
theorem ki_yX5_qualityByAll : Cond.instanceMethod yX5_qualityByAll ∈ jWL := jw_at 451 (by decide +kernel) rfl
theorem kz_yX5_qualityByAll : Cond.selects RX5 yX5_qualityByAll yX5_qualityByAll ∈ jWL := jw_at 452 (by decide +kernel) rfl
theorem kc_yX5_qualityByAll : Cond.code yX5_qualityByAll cX5_qualityByAll 3 (some FieldType.int) ∈ jWL := jw_at 453 (by decide +kernel) rfl
theorem km_X5_130 : Cond.methodLink RX5 130 yX3_greatestOfAllWays ∈ jWL := jw_at 454 (by decide +kernel) rfl
theorem ki_yX3_greatestOfAllWays : Cond.instanceMethod yX3_greatestOfAllWays ∈ jWL := jw_at 455 (by decide +kernel) rfl
theorem kz_yX3_greatestOfAllWays : Cond.selects RX3 yX3_greatestOfAllWays yX3_greatestOfAllWays ∈ jWL := jw_at 456 (by decide +kernel) rfl
theorem kc_yX3_greatestOfAllWays : Cond.code yX3_greatestOfAllWays cX3_greatestOfAllWays 3 (some FieldType.int) ∈ jWL := jw_at 457 (by decide +kernel) rfl
theorem km_X3_66 : Cond.methodLink RX3 66 yX3_greatestQuality ∈ jWL := jw_at 458 (by decide +kernel) rfl
theorem ks_yX3_greatestQuality : Cond.static yX3_greatestQuality ∈ jWL := jw_at 459 (by decide +kernel) rfl
theorem kc_yX3_greatestQuality : Cond.code yX3_greatestQuality cX3_greatestQuality 8 (some FieldType.int) ∈ jWL := jw_at 460 (by decide +kernel) rfl
theorem km_X3_95 : Cond.methodLink RX3 95 yJ9_max_7cf53 ∈ jWL := jw_at 461 (by decide +kernel) rfl
theorem ks_yJ9_max_7cf53 : Cond.static yJ9_max_7cf53 ∈ jWL := jw_at 462 (by decide +kernel) rfl
theorem kc_yJ9_max_7cf53 : Cond.code yJ9_max_7cf53 cJ9_max_7cf53 2 (some FieldType.int) ∈ jWL := jw_at 463 (by decide +kernel) rfl
theorem km_L_117 : Cond.methodLink RL 117 yL_cost ∈ jWL := jw_at 464 (by decide +kernel) rfl
theorem ks_yL_cost : Cond.static yL_cost ∈ jWL := jw_at 465 (by decide +kernel) rfl
theorem kc_yL_cost : Cond.codeWith yL_cost cL_cost 5 (some FieldType.int) [(0, 10, 13, 13)] ∈ jWL := jw_at 466 (by decide +kernel) rfl
theorem km_L_37 : Cond.methodLink RL 37 yX5_cost ∈ jWL := jw_at 467 (by decide +kernel) rfl
theorem ki_yX5_cost : Cond.instanceMethod yX5_cost ∈ jWL := jw_at 468 (by decide +kernel) rfl
theorem kz_yX5_cost : Cond.selects RX5 yX5_cost yX5_cost ∈ jWL := jw_at 469 (by decide +kernel) rfl
theorem kc_yX5_cost : Cond.code yX5_cost cX5_cost 3 (some FieldType.int) ∈ jWL := jw_at 470 (by decide +kernel) rfl
theorem km_L_120 : Cond.methodLink RL 120 yL_stepAt ∈ jWL := jw_at 471 (by decide +kernel) rfl
theorem ks_yL_stepAt : Cond.static yL_stepAt ∈ jWL := jw_at 472 (by decide +kernel) rfl
theorem kc_yL_stepAt : Cond.codeWith yL_stepAt cL_stepAt 6 (some FieldType.int) [(0, 12, 15, 13)] ∈ jWL := jw_at 473 (by decide +kernel) rfl
theorem km_L_40 : Cond.methodLink RL 40 yX5_stepAt ∈ jWL := jw_at 474 (by decide +kernel) rfl
theorem ki_yX5_stepAt : Cond.instanceMethod yX5_stepAt ∈ jWL := jw_at 475 (by decide +kernel) rfl
theorem kz_yX5_stepAt : Cond.selects RX5 yX5_stepAt yX5_stepAt ∈ jWL := jw_at 476 (by decide +kernel) rfl
theorem kc_yX5_stepAt : Cond.code yX5_stepAt cX5_stepAt 5 (some FieldType.int) ∈ jWL := jw_at 477 (by decide +kernel) rfl
theorem km_L_124 : Cond.methodLink RL 124 yL_file ∈ jWL := jw_at 479 (by decide +kernel) rfl
theorem ks_yL_file : Cond.static yL_file ∈ jWL := jw_at 480 (by decide +kernel) rfl
theorem kc_yL_file : Cond.codeWith yL_file cL_file 6 (some FieldType.int) [(0, 12, 15, 13), (0, 12, 19, 15), (0, 12, 23, 17)] ∈ jWL := jw_at 481 (by decide +kernel) rfl
theorem km_L_44 : Cond.methodLink RL 44 yX5_file ∈ jWL := jw_at 482 (by decide +kernel) rfl
theorem ki_yX5_file : Cond.instanceMethod yX5_file ∈ jWL := jw_at 483 (by decide +kernel) rfl
theorem kz_yX5_file : Cond.selects RX5 yX5_file yX5_file ∈ jWL := jw_at 484 (by decide +kernel) rfl
theorem kc_yX5_file : Cond.code yX5_file cX5_file 5 (some FieldType.int) ∈ jWL := jw_at 485 (by decide +kernel) rfl
theorem kt_X4 : Cond.instantiable RX4 8 ∈ jWL := jw_at 487 (by decide +kernel) rfl
theorem km_X5_151 : Cond.methodLink RX5 151 yX4_init ∈ jWL := jw_at 488 (by decide +kernel) rfl
theorem ki_yX4_init : Cond.instanceMethod yX4_init ∈ jWL := jw_at 489 (by decide +kernel) rfl
theorem kc_yX4_init : Cond.code yX4_init cX4_init 5 none ∈ jWL := jw_at 490 (by decide +kernel) rfl
theorem km_X4_3 : Cond.methodLink RX4 3 Lib.objectInit ∈ jWL := jw_at 491 (by decide +kernel) rfl
theorem kf_X4_21 : Cond.fieldLink RX4 21 "FormatVault$StoredFile" "size" "I" ∈ jWL := jw_at 492 (by decide +kernel) rfl
theorem kf_X5_254 : Cond.fieldLink RX5 254 "FormatVault$StoredFile" "size" "I" ∈ jWL := jw_at 493 (by decide +kernel) rfl
theorem kf_X4_24 : Cond.fieldLink RX4 24 "FormatVault$StoredFile" "law" "LFormatVault$Law;" ∈ jWL := jw_at 494 (by decide +kernel) rfl
theorem kf_X5_170 : Cond.fieldLink RX5 170 "FormatVault$StoredFile" "law" "LFormatVault$Law;" ∈ jWL := jw_at 495 (by decide +kernel) rfl
theorem kf_X4_33 : Cond.fieldLink RX4 33 "FormatVault$StoredFile" "end" "I" ∈ jWL := jw_at 496 (by decide +kernel) rfl
theorem kf_X5_210 : Cond.fieldLink RX5 210 "FormatVault$StoredFile" "end" "I" ∈ jWL := jw_at 497 (by decide +kernel) rfl
theorem kf_X4_18 : Cond.fieldLink RX4 18 "FormatVault$StoredFile" "format" "I" ∈ jWL := jw_at 498 (by decide +kernel) rfl
theorem kf_X5_165 : Cond.fieldLink RX5 165 "FormatVault$StoredFile" "format" "I" ∈ jWL := jw_at 499 (by decide +kernel) rfl
theorem kf_X4_9 : Cond.fieldLink RX4 9 "FormatVault$StoredFile" "quality" "I" ∈ jWL := jw_at 500 (by decide +kernel) rfl
theorem kf_X5_168 : Cond.fieldLink RX5 168 "FormatVault$StoredFile" "quality" "I" ∈ jWL := jw_at 501 (by decide +kernel) rfl
theorem kf_X4_36 : Cond.fieldLink RX4 36 "FormatVault$StoredFile" "lastRead" "I" ∈ jWL := jw_at 502 (by decide +kernel) rfl
theorem kf_X5_176 : Cond.fieldLink RX5 176 "FormatVault$StoredFile" "lastRead" "I" ∈ jWL := jw_at 503 (by decide +kernel) rfl
theorem kf_X4_15 : Cond.fieldLink RX4 15 "FormatVault$StoredFile" "state" "I" ∈ jWL := jw_at 504 (by decide +kernel) rfl
theorem kf_X5_203 : Cond.fieldLink RX5 203 "FormatVault$StoredFile" "state" "I" ∈ jWL := jw_at 505 (by decide +kernel) rfl
theorem kf_X5_162 : Cond.fieldLink RX5 162 "FormatVault$StoredFile" "isHeld" "Z" ∈ jWL := jw_at 506 (by decide +kernel) rfl
theorem km_L_127 : Cond.methodLink RL 127 yL_hold ∈ jWL := jw_at 524 (by decide +kernel) rfl
theorem ks_yL_hold : Cond.static yL_hold ∈ jWL := jw_at 525 (by decide +kernel) rfl
theorem kc_yL_hold : Cond.codeWith yL_hold cL_hold 5 (some FieldType.int) [(0, 17, 20, 13), (0, 17, 24, 17)] ∈ jWL := jw_at 526 (by decide +kernel) rfl
theorem km_L_47 : Cond.methodLink RL 47 yX5_hold ∈ jWL := jw_at 527 (by decide +kernel) rfl
theorem ki_yX5_hold : Cond.instanceMethod yX5_hold ∈ jWL := jw_at 528 (by decide +kernel) rfl
theorem kz_yX5_hold : Cond.selects RX5 yX5_hold yX5_hold ∈ jWL := jw_at 529 (by decide +kernel) rfl
theorem kc_yX5_hold : Cond.code yX5_hold cX5_hold 5 (some FieldType.boolean) ∈ jWL := jw_at 530 (by decide +kernel) rfl
theorem km_X5_154 : Cond.methodLink RX5 154 yX5_fileAt ∈ jWL := jw_at 531 (by decide +kernel) rfl
theorem ki_yX5_fileAt : Cond.instanceMethod yX5_fileAt ∈ jWL := jw_at 533 (by decide +kernel) rfl
theorem kc_yX5_fileAt : Cond.code yX5_fileAt cX5_fileAt 2 (some (FieldType.object "FormatVault$StoredFile")) ∈ jWL := jw_at 534 (by decide +kernel) rfl
theorem km_X5_158 : Cond.methodLink RX5 158 yX5_requireKept ∈ jWL := jw_at 536 (by decide +kernel) rfl
theorem ks_yX5_requireKept : Cond.static yX5_requireKept ∈ jWL := jw_at 537 (by decide +kernel) rfl
theorem kc_yX5_requireKept : Cond.code yX5_requireKept cX5_requireKept 1 none ∈ jWL := jw_at 538 (by decide +kernel) rfl
theorem km_L_131 : Cond.methodLink RL 131 yL_read ∈ jWL := jw_at 540 (by decide +kernel) rfl
theorem ks_yL_read : Cond.static yL_read ∈ jWL := jw_at 541 (by decide +kernel) rfl
theorem kc_yL_read : Cond.codeWith yL_read cL_read 4 (some FieldType.int) [(0, 9, 12, 13), (0, 9, 15, 17)] ∈ jWL := jw_at 542 (by decide +kernel) rfl
theorem km_L_51 : Cond.methodLink RL 51 yX5_read ∈ jWL := jw_at 543 (by decide +kernel) rfl
theorem ki_yX5_read : Cond.instanceMethod yX5_read ∈ jWL := jw_at 544 (by decide +kernel) rfl
theorem kz_yX5_read : Cond.selects RX5 yX5_read yX5_read ∈ jWL := jw_at 545 (by decide +kernel) rfl
theorem kc_yX5_read : Cond.code yX5_read cX5_read 4 (some FieldType.int) ∈ jWL := jw_at 546 (by decide +kernel) rfl
theorem km_L_134 : Cond.methodLink RL 134 yL_move ∈ jWL := jw_at 548 (by decide +kernel) rfl
theorem ks_yL_move : Cond.static yL_move ∈ jWL := jw_at 549 (by decide +kernel) rfl
theorem kc_yL_move : Cond.codeWith yL_move cL_move 5 (some FieldType.int) [(0, 10, 13, 13), (0, 10, 17, 15), (0, 10, 21, 17)] ∈ jWL := jw_at 550 (by decide +kernel) rfl
theorem km_L_54 : Cond.methodLink RL 54 yX5_move ∈ jWL := jw_at 551 (by decide +kernel) rfl
theorem ki_yX5_move : Cond.instanceMethod yX5_move ∈ jWL := jw_at 552 (by decide +kernel) rfl
theorem kz_yX5_move : Cond.selects RX5 yX5_move yX5_move ∈ jWL := jw_at 553 (by decide +kernel) rfl
theorem kc_yX5_move : Cond.code yX5_move cX5_move 4 (some FieldType.int) ∈ jWL := jw_at 554 (by decide +kernel) rfl
theorem km_L_141 : Cond.methodLink RL 141 yL_haven ∈ jWL := jw_at 558 (by decide +kernel) rfl
theorem ks_yL_haven : Cond.static yL_haven ∈ jWL := jw_at 559 (by decide +kernel) rfl
theorem kc_yL_haven : Cond.codeWith yL_haven cL_haven 4 (some FieldType.int) [(0, 9, 12, 13)] ∈ jWL := jw_at 560 (by decide +kernel) rfl
theorem km_L_57 : Cond.methodLink RL 57 yX5_haven ∈ jWL := jw_at 561 (by decide +kernel) rfl
theorem ki_yX5_haven : Cond.instanceMethod yX5_haven ∈ jWL := jw_at 562 (by decide +kernel) rfl
theorem kz_yX5_haven : Cond.selects RX5 yX5_haven yX5_haven ∈ jWL := jw_at 563 (by decide +kernel) rfl
theorem kc_yX5_haven : Cond.code yX5_haven cX5_haven 2 (some FieldType.int) ∈ jWL := jw_at 564 (by decide +kernel) rfl
theorem km_L_144 : Cond.methodLink RL 144 yL_isSafe ∈ jWL := jw_at 565 (by decide +kernel) rfl
theorem ks_yL_isSafe : Cond.static yL_isSafe ∈ jWL := jw_at 566 (by decide +kernel) rfl
theorem kc_yL_isSafe : Cond.codeWith yL_isSafe cL_isSafe 4 (some FieldType.int) [(0, 16, 19, 13)] ∈ jWL := jw_at 567 (by decide +kernel) rfl
theorem km_L_60 : Cond.methodLink RL 60 yX5_isSafe ∈ jWL := jw_at 568 (by decide +kernel) rfl
theorem ki_yX5_isSafe : Cond.instanceMethod yX5_isSafe ∈ jWL := jw_at 569 (by decide +kernel) rfl
theorem kz_yX5_isSafe : Cond.selects RX5 yX5_isSafe yX5_isSafe ∈ jWL := jw_at 570 (by decide +kernel) rfl
theorem kc_yX5_isSafe : Cond.code yX5_isSafe cX5_isSafe 3 (some FieldType.boolean) ∈ jWL := jw_at 571 (by decide +kernel) rfl
theorem km_L_147 : Cond.methodLink RL 147 yL_stateOf ∈ jWL := jw_at 572 (by decide +kernel) rfl
theorem ks_yL_stateOf : Cond.static yL_stateOf ∈ jWL := jw_at 573 (by decide +kernel) rfl
theorem kc_yL_stateOf : Cond.codeWith yL_stateOf cL_stateOf 4 (some FieldType.int) [(0, 9, 12, 13)] ∈ jWL := jw_at 574 (by decide +kernel) rfl
theorem km_L_64 : Cond.methodLink RL 64 yX5_stateOf ∈ jWL := jw_at 575 (by decide +kernel) rfl
theorem ki_yX5_stateOf : Cond.instanceMethod yX5_stateOf ∈ jWL := jw_at 576 (by decide +kernel) rfl
theorem kz_yX5_stateOf : Cond.selects RX5 yX5_stateOf yX5_stateOf ∈ jWL := jw_at 577 (by decide +kernel) rfl
theorem kc_yX5_stateOf : Cond.code yX5_stateOf cX5_stateOf 2 (some FieldType.int) ∈ jWL := jw_at 578 (by decide +kernel) rfl
theorem km_L_150 : Cond.methodLink RL 150 yL_formatOf ∈ jWL := jw_at 579 (by decide +kernel) rfl
theorem ks_yL_formatOf : Cond.static yL_formatOf ∈ jWL := jw_at 580 (by decide +kernel) rfl
theorem kc_yL_formatOf : Cond.codeWith yL_formatOf cL_formatOf 4 (some FieldType.int) [(0, 9, 12, 13)] ∈ jWL := jw_at 581 (by decide +kernel) rfl
theorem km_L_67 : Cond.methodLink RL 67 yX5_formatOf ∈ jWL := jw_at 582 (by decide +kernel) rfl
theorem ki_yX5_formatOf : Cond.instanceMethod yX5_formatOf ∈ jWL := jw_at 583 (by decide +kernel) rfl
theorem kz_yX5_formatOf : Cond.selects RX5 yX5_formatOf yX5_formatOf ∈ jWL := jw_at 584 (by decide +kernel) rfl
theorem kc_yX5_formatOf : Cond.code yX5_formatOf cX5_formatOf 2 (some FieldType.int) ∈ jWL := jw_at 585 (by decide +kernel) rfl
theorem km_L_153 : Cond.methodLink RL 153 yL_qualityOf ∈ jWL := jw_at 586 (by decide +kernel) rfl
theorem ks_yL_qualityOf : Cond.static yL_qualityOf ∈ jWL := jw_at 587 (by decide +kernel) rfl
theorem kc_yL_qualityOf : Cond.codeWith yL_qualityOf cL_qualityOf 4 (some FieldType.int) [(0, 9, 12, 13)] ∈ jWL := jw_at 588 (by decide +kernel) rfl
theorem km_L_70 : Cond.methodLink RL 70 yX5_qualityOf ∈ jWL := jw_at 589 (by decide +kernel) rfl
theorem ki_yX5_qualityOf : Cond.instanceMethod yX5_qualityOf ∈ jWL := jw_at 590 (by decide +kernel) rfl
theorem kz_yX5_qualityOf : Cond.selects RX5 yX5_qualityOf yX5_qualityOf ∈ jWL := jw_at 591 (by decide +kernel) rfl
theorem kc_yX5_qualityOf : Cond.code yX5_qualityOf cX5_qualityOf 2 (some FieldType.int) ∈ jWL := jw_at 592 (by decide +kernel) rfl
theorem km_L_156 : Cond.methodLink RL 156 yL_endOf ∈ jWL := jw_at 593 (by decide +kernel) rfl
theorem ks_yL_endOf : Cond.static yL_endOf ∈ jWL := jw_at 594 (by decide +kernel) rfl
theorem kc_yL_endOf : Cond.codeWith yL_endOf cL_endOf 4 (some FieldType.int) [(0, 9, 12, 13)] ∈ jWL := jw_at 595 (by decide +kernel) rfl
theorem km_L_73 : Cond.methodLink RL 73 yX5_endOf ∈ jWL := jw_at 596 (by decide +kernel) rfl
theorem ki_yX5_endOf : Cond.instanceMethod yX5_endOf ∈ jWL := jw_at 597 (by decide +kernel) rfl
theorem kz_yX5_endOf : Cond.selects RX5 yX5_endOf yX5_endOf ∈ jWL := jw_at 598 (by decide +kernel) rfl
theorem kc_yX5_endOf : Cond.code yX5_endOf cX5_endOf 2 (some FieldType.int) ∈ jWL := jw_at 599 (by decide +kernel) rfl
theorem km_L_159 : Cond.methodLink RL 159 yL_setBudget ∈ jWL := jw_at 600 (by decide +kernel) rfl
theorem ks_yL_setBudget : Cond.static yL_setBudget ∈ jWL := jw_at 601 (by decide +kernel) rfl
theorem kc_yL_setBudget : Cond.codeWith yL_setBudget cL_setBudget 4 (some FieldType.int) [(0, 9, 12, 15)] ∈ jWL := jw_at 602 (by decide +kernel) rfl
theorem km_L_76 : Cond.methodLink RL 76 yX5_setBudget ∈ jWL := jw_at 603 (by decide +kernel) rfl
theorem ki_yX5_setBudget : Cond.instanceMethod yX5_setBudget ∈ jWL := jw_at 604 (by decide +kernel) rfl
theorem kz_yX5_setBudget : Cond.selects RX5 yX5_setBudget yX5_setBudget ∈ jWL := jw_at 605 (by decide +kernel) rfl
theorem kc_yX5_setBudget : Cond.code yX5_setBudget cX5_setBudget 3 (some FieldType.int) ∈ jWL := jw_at 606 (by decide +kernel) rfl
theorem kk_X5_213 : Cond.constant RX5 213 (1000000) ∈ jWL := jw_at 607 (by decide +kernel) rfl
theorem km_L_166 : Cond.methodLink RL 166 yL_begin ∈ jWL := jw_at 608 (by decide +kernel) rfl
theorem ks_yL_begin : Cond.static yL_begin ∈ jWL := jw_at 609 (by decide +kernel) rfl
theorem kc_yL_begin : Cond.codeWith yL_begin cL_begin 3 (some FieldType.int) [(0, 8, 11, 17)] ∈ jWL := jw_at 610 (by decide +kernel) rfl
theorem km_L_79 : Cond.methodLink RL 79 yX5_begin ∈ jWL := jw_at 611 (by decide +kernel) rfl
theorem ki_yX5_begin : Cond.instanceMethod yX5_begin ∈ jWL := jw_at 612 (by decide +kernel) rfl
theorem kz_yX5_begin : Cond.selects RX5 yX5_begin yX5_begin ∈ jWL := jw_at 613 (by decide +kernel) rfl
theorem kc_yX5_begin : Cond.code yX5_begin cX5_begin 4 (some FieldType.int) ∈ jWL := jw_at 614 (by decide +kernel) rfl
theorem km_X5_216 : Cond.methodLink RX5 216 yX5_stateInNewYear ∈ jWL := jw_at 616 (by decide +kernel) rfl
theorem ki_yX5_stateInNewYear : Cond.instanceMethod yX5_stateInNewYear ∈ jWL := jw_at 618 (by decide +kernel) rfl
theorem kc_yX5_stateInNewYear : Cond.code yX5_stateInNewYear cX5_stateInNewYear 2 (some FieldType.int) ∈ jWL := jw_at 619 (by decide +kernel) rfl
theorem km_L_178 : Cond.methodLink RL 178 yL_promise ∈ jWL := jw_at 620 (by decide +kernel) rfl
theorem ks_yL_promise : Cond.static yL_promise ∈ jWL := jw_at 621 (by decide +kernel) rfl
theorem kc_yL_promise : Cond.codeWith yL_promise cL_promise 5 (some FieldType.int) [(0, 10, 13, 13)] ∈ jWL := jw_at 622 (by decide +kernel) rfl
theorem km_L_83 : Cond.methodLink RL 83 yX5_promise ∈ jWL := jw_at 623 (by decide +kernel) rfl
theorem ki_yX5_promise : Cond.instanceMethod yX5_promise ∈ jWL := jw_at 624 (by decide +kernel) rfl
theorem kz_yX5_promise : Cond.selects RX5 yX5_promise yX5_promise ∈ jWL := jw_at 625 (by decide +kernel) rfl
theorem kc_yX5_promise : Cond.code yX5_promise cX5_promise 7 (some FieldType.int) ∈ jWL := jw_at 626 (by decide +kernel) rfl
theorem km_X5_223 : Cond.methodLink RX5 223 yX5_yearsToPromiseIn ∈ jWL := jw_at 627 (by decide +kernel) rfl
theorem ki_yX5_yearsToPromiseIn : Cond.instanceMethod yX5_yearsToPromiseIn ∈ jWL := jw_at 629 (by decide +kernel) rfl
theorem kc_yX5_yearsToPromiseIn : Cond.code yX5_yearsToPromiseIn cX5_yearsToPromiseIn 2 (some FieldType.int) ∈ jWL := jw_at 630 (by decide +kernel) rfl
theorem km_X5_244 : Cond.methodLink RX5 244 yJ9_min_7cf53 ∈ jWL := jw_at 631 (by decide +kernel) rfl
theorem ks_yJ9_min_7cf53 : Cond.static yJ9_min_7cf53 ∈ jWL := jw_at 632 (by decide +kernel) rfl
theorem kc_yJ9_min_7cf53 : Cond.code yJ9_min_7cf53 cJ9_min_7cf53 2 (some FieldType.int) ∈ jWL := jw_at 633 (by decide +kernel) rfl
theorem km_X5_227 : Cond.methodLink RX5 227 yJ9_max_7cf53 ∈ jWL := jw_at 634 (by decide +kernel) rfl
theorem kl_L_87 : Cond.classLink RL 87 RX6 ∈ jWL := jw_at 635 (by decide +kernel) rfl
theorem kt_X6 : Cond.instantiable RX6 36 ∈ jWL := jw_at 636 (by decide +kernel) rfl
theorem km_L_89 : Cond.methodLink RL 89 yX6_init ∈ jWL := jw_at 637 (by decide +kernel) rfl
theorem ki_yX6_init : Cond.instanceMethod yX6_init ∈ jWL := jw_at 638 (by decide +kernel) rfl
theorem kc_yX6_init : Cond.code yX6_init cX6_init 2 none ∈ jWL := jw_at 639 (by decide +kernel) rfl
theorem km_X6_1 : Cond.methodLink RX6 1 Lib.objectInit ∈ jWL := jw_at 640 (by decide +kernel) rfl
theorem kf_X6_7 : Cond.fieldLink RX6 7 "FormatVaultModel" "last" "[I" ∈ jWL := jw_at 641 (by decide +kernel) rfl
theorem kf_X6_13 : Cond.fieldLink RX6 13 "FormatVaultModel" "from" "[I" ∈ jWL := jw_at 642 (by decide +kernel) rfl
theorem kf_X6_16 : Cond.fieldLink RX6 16 "FormatVaultModel" "to" "[I" ∈ jWL := jw_at 643 (by decide +kernel) rfl
theorem kf_X6_19 : Cond.fieldLink RX6 19 "FormatVaultModel" "loss" "[I" ∈ jWL := jw_at 644 (by decide +kernel) rfl
theorem kf_X6_22 : Cond.fieldLink RX6 22 "FormatVaultModel" "price" "[I" ∈ jWL := jw_at 645 (by decide +kernel) rfl
theorem kf_X6_25 : Cond.fieldLink RX6 25 "FormatVaultModel" "isGone" "[Z" ∈ jWL := jw_at 646 (by decide +kernel) rfl
theorem kf_X6_29 : Cond.fieldLink RX6 29 "FormatVaultModel" "years" "[I" ∈ jWL := jw_at 647 (by decide +kernel) rfl
theorem kf_X6_32 : Cond.fieldLink RX6 32 "FormatVaultModel" "least" "[I" ∈ jWL := jw_at 648 (by decide +kernel) rfl
theorem kf_X6_35 : Cond.fieldLink RX6 35 "FormatVaultModel" "reads" "[I" ∈ jWL := jw_at 649 (by decide +kernel) rfl
theorem kf_X6_38 : Cond.fieldLink RX6 38 "FormatVaultModel" "format" "[I" ∈ jWL := jw_at 650 (by decide +kernel) rfl
theorem kf_X6_41 : Cond.fieldLink RX6 41 "FormatVaultModel" "size" "[I" ∈ jWL := jw_at 651 (by decide +kernel) rfl
theorem kf_X6_44 : Cond.fieldLink RX6 44 "FormatVaultModel" "lawOf" "[I" ∈ jWL := jw_at 652 (by decide +kernel) rfl
theorem kf_X6_47 : Cond.fieldLink RX6 47 "FormatVaultModel" "its" "[I" ∈ jWL := jw_at 653 (by decide +kernel) rfl
theorem kf_X6_50 : Cond.fieldLink RX6 50 "FormatVaultModel" "end" "[I" ∈ jWL := jw_at 654 (by decide +kernel) rfl
theorem kf_X6_53 : Cond.fieldLink RX6 53 "FormatVaultModel" "readIn" "[I" ∈ jWL := jw_at 655 (by decide +kernel) rfl
theorem kf_X6_56 : Cond.fieldLink RX6 56 "FormatVaultModel" "state" "[I" ∈ jWL := jw_at 656 (by decide +kernel) rfl
theorem kf_X6_59 : Cond.fieldLink RX6 59 "FormatVaultModel" "isHeld" "[Z" ∈ jWL := jw_at 657 (by decide +kernel) rfl
theorem kf_X6_62 : Cond.fieldLink RX6 62 "FormatVaultModel" "had" "[Z" ∈ jWL := jw_at 658 (by decide +kernel) rfl
theorem kf_X6_65 : Cond.fieldLink RX6 65 "FormatVaultModel" "due" "[Z" ∈ jWL := jw_at 659 (by decide +kernel) rfl
theorem kf_X6_68 : Cond.fieldLink RX6 68 "FormatVaultModel" "bestQuality" "[I" ∈ jWL := jw_at 660 (by decide +kernel) rfl
theorem kf_X6_71 : Cond.fieldLink RX6 71 "FormatVaultModel" "bestCost" "[I" ∈ jWL := jw_at 661 (by decide +kernel) rfl
theorem kf_X6_74 : Cond.fieldLink RX6 74 "FormatVaultModel" "bestSteps" "[I" ∈ jWL := jw_at 662 (by decide +kernel) rfl
theorem kf_X6_77 : Cond.fieldLink RX6 77 "FormatVaultModel" "bestWay" "[I" ∈ jWL := jw_at 663 (by decide +kernel) rfl
theorem kf_X6_80 : Cond.fieldLink RX6 80 "FormatVaultModel" "way" "[I" ∈ jWL := jw_at 664 (by decide +kernel) rfl
theorem kf_X6_83 : Cond.fieldLink RX6 83 "FormatVaultModel" "at" "[I" ∈ jWL := jw_at 665 (by decide +kernel) rfl
theorem kf_X6_86 : Cond.fieldLink RX6 86 "FormatVaultModel" "quality" "[I" ∈ jWL := jw_at 666 (by decide +kernel) rfl
theorem kf_X6_89 : Cond.fieldLink RX6 89 "FormatVaultModel" "cost" "[I" ∈ jWL := jw_at 667 (by decide +kernel) rfl
theorem kf_X6_92 : Cond.fieldLink RX6 92 "FormatVaultModel" "next" "[I" ∈ jWL := jw_at 668 (by decide +kernel) rfl
theorem kf_X6_95 : Cond.fieldLink RX6 95 "FormatVaultModel" "isOn" "[Z" ∈ jWL := jw_at 669 (by decide +kernel) rfl
theorem kf_X6_118 : Cond.fieldLink RX6 118 "FormatVaultModel" "converters" "I" ∈ jWL := jw_at 670 (by decide +kernel) rfl
theorem kf_X6_112 : Cond.fieldLink RX6 112 "FormatVaultModel" "files" "I" ∈ jWL := jw_at 671 (by decide +kernel) rfl
theorem kf_X6_98 : Cond.fieldLink RX6 98 "FormatVaultModel" "budget" "I" ∈ jWL := jw_at 672 (by decide +kernel) rfl
theorem kf_X6_102 : Cond.fieldLink RX6 102 "FormatVaultModel" "rest" "I" ∈ jWL := jw_at 673 (by decide +kernel) rfl
theorem kf_X6_115 : Cond.fieldLink RX6 115 "FormatVaultModel" "now" "I" ∈ jWL := jw_at 674 (by decide +kernel) rfl
theorem kf_X6_132 : Cond.fieldLink RX6 132 "FormatVaultModel" "isFound" "Z" ∈ jWL := jw_at 675 (by decide +kernel) rfl
theorem kf_X6_105 : Cond.fieldLink RX6 105 "FormatVaultModel" "thrown" "I" ∈ jWL := jw_at 676 (by decide +kernel) rfl
theorem ka_boolean : Cond.arrayClass .boolean ∈ jWL := jw_at 750 (by decide +kernel) rfl
theorem km_L_96 : Cond.methodLink RL 96 yX6_thrown ∈ jWL := jw_at 751 (by decide +kernel) rfl
theorem ki_yX6_thrown : Cond.instanceMethod yX6_thrown ∈ jWL := jw_at 752 (by decide +kernel) rfl
theorem kz_yX6_thrown : Cond.selects RX6 yX6_thrown yX6_thrown ∈ jWL := jw_at 753 (by decide +kernel) rfl
theorem kc_yX6_thrown : Cond.code yX6_thrown cX6_thrown 1 (some FieldType.int) ∈ jWL := jw_at 754 (by decide +kernel) rfl
theorem km_L_95 : Cond.methodLink RL 95 yX6_setLast ∈ jWL := jw_at 755 (by decide +kernel) rfl
theorem ki_yX6_setLast : Cond.instanceMethod yX6_setLast ∈ jWL := jw_at 756 (by decide +kernel) rfl
theorem kz_yX6_setLast : Cond.selects RX6 yX6_setLast yX6_setLast ∈ jWL := jw_at 757 (by decide +kernel) rfl
theorem kc_yX6_setLast : Cond.code yX6_setLast cX6_setLast 4 (some FieldType.int) ∈ jWL := jw_at 758 (by decide +kernel) rfl
theorem km_X6_146 : Cond.methodLink RX6 146 yX6_isNoFormat ∈ jWL := jw_at 759 (by decide +kernel) rfl
theorem ks_yX6_isNoFormat : Cond.static yX6_isNoFormat ∈ jWL := jw_at 760 (by decide +kernel) rfl
theorem kc_yX6_isNoFormat : Cond.code yX6_isNoFormat cX6_isNoFormat 1 (some FieldType.boolean) ∈ jWL := jw_at 761 (by decide +kernel) rfl
theorem km_X6_108 : Cond.methodLink RX6 108 yX6_in ∈ jWL := jw_at 762 (by decide +kernel) rfl
theorem ks_yX6_in : Cond.static yX6_in ∈ jWL := jw_at 763 (by decide +kernel) rfl
theorem kc_yX6_in : Cond.code yX6_in cX6_in 3 (some FieldType.boolean) ∈ jWL := jw_at 764 (by decide +kernel) rfl
theorem km_X6_150 : Cond.methodLink RX6 150 yX6_fails ∈ jWL := jw_at 765 (by decide +kernel) rfl
theorem ki_yX6_fails : Cond.instanceMethod yX6_fails ∈ jWL := jw_at 767 (by decide +kernel) rfl
theorem kc_yX6_fails : Cond.code yX6_fails cX6_fails 2 (some FieldType.int) ∈ jWL := jw_at 768 (by decide +kernel) rfl
theorem km_X6_154 : Cond.methodLink RX6 154 yX6_canBeRead ∈ jWL := jw_at 769 (by decide +kernel) rfl
theorem ki_yX6_canBeRead : Cond.instanceMethod yX6_canBeRead ∈ jWL := jw_at 771 (by decide +kernel) rfl
theorem kc_yX6_canBeRead : Cond.code yX6_canBeRead cX6_canBeRead 2 (some FieldType.boolean) ∈ jWL := jw_at 772 (by decide +kernel) rfl
theorem km_L_102 : Cond.methodLink RL 102 yX6_converter ∈ jWL := jw_at 773 (by decide +kernel) rfl
theorem ki_yX6_converter : Cond.instanceMethod yX6_converter ∈ jWL := jw_at 774 (by decide +kernel) rfl
theorem kz_yX6_converter : Cond.selects RX6 yX6_converter yX6_converter ∈ jWL := jw_at 775 (by decide +kernel) rfl
theorem kc_yX6_converter : Cond.code yX6_converter cX6_converter 5 (some FieldType.int) ∈ jWL := jw_at 776 (by decide +kernel) rfl
theorem km_L_106 : Cond.methodLink RL 106 yX6_withdraw ∈ jWL := jw_at 777 (by decide +kernel) rfl
theorem ki_yX6_withdraw : Cond.instanceMethod yX6_withdraw ∈ jWL := jw_at 778 (by decide +kernel) rfl
theorem kz_yX6_withdraw : Cond.selects RX6 yX6_withdraw yX6_withdraw ∈ jWL := jw_at 779 (by decide +kernel) rfl
theorem kc_yX6_withdraw : Cond.code yX6_withdraw cX6_withdraw 4 (some FieldType.int) ∈ jWL := jw_at 780 (by decide +kernel) rfl
theorem km_X6_157 : Cond.methodLink RX6 157 yX6_find ∈ jWL := jw_at 781 (by decide +kernel) rfl
theorem ki_yX6_find : Cond.instanceMethod yX6_find ∈ jWL := jw_at 783 (by decide +kernel) rfl
theorem kc_yX6_find : Cond.code yX6_find cX6_find 3 none ∈ jWL := jw_at 784 (by decide +kernel) rfl
theorem km_X6_136 : Cond.methodLink RX6 136 yX6_goAll ∈ jWL := jw_at 785 (by decide +kernel) rfl
theorem ki_yX6_goAll : Cond.instanceMethod yX6_goAll ∈ jWL := jw_at 787 (by decide +kernel) rfl
theorem kc_yX6_goAll : Cond.code yX6_goAll cX6_goAll 6 (some FieldType.int) ∈ jWL := jw_at 788 (by decide +kernel) rfl
theorem km_X6_121 : Cond.methodLink RX6 121 yX6_offer ∈ jWL := jw_at 789 (by decide +kernel) rfl
theorem ki_yX6_offer : Cond.instanceMethod yX6_offer ∈ jWL := jw_at 791 (by decide +kernel) rfl
theorem kc_yX6_offer : Cond.code yX6_offer cX6_offer 7 none ∈ jWL := jw_at 792 (by decide +kernel) rfl
theorem km_X6_125 : Cond.methodLink RX6 125 yX6_nextFrom ∈ jWL := jw_at 793 (by decide +kernel) rfl
theorem ki_yX6_nextFrom : Cond.instanceMethod yX6_nextFrom ∈ jWL := jw_at 795 (by decide +kernel) rfl
theorem kc_yX6_nextFrom : Cond.code yX6_nextFrom cX6_nextFrom 4 (some FieldType.int) ∈ jWL := jw_at 796 (by decide +kernel) rfl
theorem km_X6_129 : Cond.methodLink RX6 129 yX6_behind ∈ jWL := jw_at 797 (by decide +kernel) rfl
theorem ks_yX6_behind : Cond.static yX6_behind ∈ jWL := jw_at 798 (by decide +kernel) rfl
theorem kc_yX6_behind : Cond.code yX6_behind cX6_behind 2 (some FieldType.int) ∈ jWL := jw_at 799 (by decide +kernel) rfl
theorem km_X6_160 : Cond.methodLink RX6 160 yX6_havenOf ∈ jWL := jw_at 800 (by decide +kernel) rfl
theorem ki_yX6_havenOf : Cond.instanceMethod yX6_havenOf ∈ jWL := jw_at 802 (by decide +kernel) rfl
theorem kc_yX6_havenOf : Cond.code yX6_havenOf cX6_havenOf 8 (some FieldType.int) ∈ jWL := jw_at 803 (by decide +kernel) rfl
theorem km_X6_139 : Cond.methodLink RX6 139 yX6_along ∈ jWL := jw_at 804 (by decide +kernel) rfl
theorem ki_yX6_along : Cond.instanceMethod yX6_along ∈ jWL := jw_at 806 (by decide +kernel) rfl
theorem kc_yX6_along : Cond.code yX6_along cX6_along 5 (some FieldType.int) ∈ jWL := jw_at 807 (by decide +kernel) rfl
theorem km_X6_142 : Cond.methodLink RX6 142 yX6_isSafeIn ∈ jWL := jw_at 808 (by decide +kernel) rfl
theorem ki_yX6_isSafeIn : Cond.instanceMethod yX6_isSafeIn ∈ jWL := jw_at 810 (by decide +kernel) rfl
theorem kc_yX6_isSafeIn : Cond.code yX6_isSafeIn cX6_isSafeIn 3 (some FieldType.boolean) ∈ jWL := jw_at 811 (by decide +kernel) rfl
theorem km_L_110 : Cond.methodLink RL 110 yX6_law ∈ jWL := jw_at 812 (by decide +kernel) rfl
theorem ki_yX6_law : Cond.instanceMethod yX6_law ∈ jWL := jw_at 813 (by decide +kernel) rfl
theorem kz_yX6_law : Cond.selects RX6 yX6_law yX6_law ∈ jWL := jw_at 814 (by decide +kernel) rfl
theorem kc_yX6_law : Cond.code yX6_law cX6_law 5 none ∈ jWL := jw_at 815 (by decide +kernel) rfl
theorem km_L_113 : Cond.methodLink RL 113 yX6_quality ∈ jWL := jw_at 816 (by decide +kernel) rfl
theorem ki_yX6_quality : Cond.instanceMethod yX6_quality ∈ jWL := jw_at 817 (by decide +kernel) rfl
theorem kz_yX6_quality : Cond.selects RX6 yX6_quality yX6_quality ∈ jWL := jw_at 818 (by decide +kernel) rfl
theorem kc_yX6_quality : Cond.code yX6_quality cX6_quality 3 (some FieldType.int) ∈ jWL := jw_at 819 (by decide +kernel) rfl
theorem km_L_116 : Cond.methodLink RL 116 yX6_qualityByAll ∈ jWL := jw_at 820 (by decide +kernel) rfl
theorem ki_yX6_qualityByAll : Cond.instanceMethod yX6_qualityByAll ∈ jWL := jw_at 821 (by decide +kernel) rfl
theorem kz_yX6_qualityByAll : Cond.selects RX6 yX6_qualityByAll yX6_qualityByAll ∈ jWL := jw_at 822 (by decide +kernel) rfl
theorem kc_yX6_qualityByAll : Cond.code yX6_qualityByAll cX6_qualityByAll 3 (some FieldType.int) ∈ jWL := jw_at 823 (by decide +kernel) rfl
theorem km_L_119 : Cond.methodLink RL 119 yX6_cost ∈ jWL := jw_at 824 (by decide +kernel) rfl
theorem ki_yX6_cost : Cond.instanceMethod yX6_cost ∈ jWL := jw_at 825 (by decide +kernel) rfl
theorem kz_yX6_cost : Cond.selects RX6 yX6_cost yX6_cost ∈ jWL := jw_at 826 (by decide +kernel) rfl
theorem kc_yX6_cost : Cond.code yX6_cost cX6_cost 3 (some FieldType.int) ∈ jWL := jw_at 827 (by decide +kernel) rfl
theorem km_L_123 : Cond.methodLink RL 123 yX6_stepAt ∈ jWL := jw_at 828 (by decide +kernel) rfl
theorem ki_yX6_stepAt : Cond.instanceMethod yX6_stepAt ∈ jWL := jw_at 829 (by decide +kernel) rfl
theorem kz_yX6_stepAt : Cond.selects RX6 yX6_stepAt yX6_stepAt ∈ jWL := jw_at 830 (by decide +kernel) rfl
theorem kc_yX6_stepAt : Cond.code yX6_stepAt cX6_stepAt 5 (some FieldType.int) ∈ jWL := jw_at 831 (by decide +kernel) rfl
theorem km_L_126 : Cond.methodLink RL 126 yX6_file ∈ jWL := jw_at 832 (by decide +kernel) rfl
theorem ki_yX6_file : Cond.instanceMethod yX6_file ∈ jWL := jw_at 833 (by decide +kernel) rfl
theorem kz_yX6_file : Cond.selects RX6 yX6_file yX6_file ∈ jWL := jw_at 834 (by decide +kernel) rfl
theorem kc_yX6_file : Cond.code yX6_file cX6_file 4 (some FieldType.int) ∈ jWL := jw_at 835 (by decide +kernel) rfl
theorem km_L_130 : Cond.methodLink RL 130 yX6_hold ∈ jWL := jw_at 836 (by decide +kernel) rfl
theorem ki_yX6_hold : Cond.instanceMethod yX6_hold ∈ jWL := jw_at 837 (by decide +kernel) rfl
theorem kz_yX6_hold : Cond.selects RX6 yX6_hold yX6_hold ∈ jWL := jw_at 838 (by decide +kernel) rfl
theorem kc_yX6_hold : Cond.code yX6_hold cX6_hold 4 (some FieldType.boolean) ∈ jWL := jw_at 839 (by decide +kernel) rfl
theorem km_X6_163 : Cond.methodLink RX6 163 yX6_isNoFile ∈ jWL := jw_at 840 (by decide +kernel) rfl
theorem ki_yX6_isNoFile : Cond.instanceMethod yX6_isNoFile ∈ jWL := jw_at 842 (by decide +kernel) rfl
theorem kc_yX6_isNoFile : Cond.code yX6_isNoFile cX6_isNoFile 2 (some FieldType.boolean) ∈ jWL := jw_at 843 (by decide +kernel) rfl
theorem km_L_133 : Cond.methodLink RL 133 yX6_read ∈ jWL := jw_at 844 (by decide +kernel) rfl
theorem ki_yX6_read : Cond.instanceMethod yX6_read ∈ jWL := jw_at 845 (by decide +kernel) rfl
theorem kz_yX6_read : Cond.selects RX6 yX6_read yX6_read ∈ jWL := jw_at 846 (by decide +kernel) rfl
theorem kc_yX6_read : Cond.code yX6_read cX6_read 3 (some FieldType.int) ∈ jWL := jw_at 847 (by decide +kernel) rfl
theorem km_L_136 : Cond.methodLink RL 136 yX6_move ∈ jWL := jw_at 848 (by decide +kernel) rfl
theorem ki_yX6_move : Cond.instanceMethod yX6_move ∈ jWL := jw_at 849 (by decide +kernel) rfl
theorem kz_yX6_move : Cond.selects RX6 yX6_move yX6_move ∈ jWL := jw_at 850 (by decide +kernel) rfl
theorem kc_yX6_move : Cond.code yX6_move cX6_move 3 (some FieldType.int) ∈ jWL := jw_at 851 (by decide +kernel) rfl
theorem km_X6_166 : Cond.methodLink RX6 166 yX6_affords ∈ jWL := jw_at 852 (by decide +kernel) rfl
theorem ki_yX6_affords : Cond.instanceMethod yX6_affords ∈ jWL := jw_at 854 (by decide +kernel) rfl
theorem kc_yX6_affords : Cond.code yX6_affords cX6_affords 3 (some FieldType.boolean) ∈ jWL := jw_at 855 (by decide +kernel) rfl
theorem km_X6_169 : Cond.methodLink RX6 169 yX6_take ∈ jWL := jw_at 856 (by decide +kernel) rfl
theorem ki_yX6_take : Cond.instanceMethod yX6_take ∈ jWL := jw_at 858 (by decide +kernel) rfl
theorem kc_yX6_take : Cond.code yX6_take cX6_take 4 none ∈ jWL := jw_at 859 (by decide +kernel) rfl
theorem km_L_140 : Cond.methodLink RL 140 yX6_moveAhead ∈ jWL := jw_at 860 (by decide +kernel) rfl
theorem ki_yX6_moveAhead : Cond.instanceMethod yX6_moveAhead ∈ jWL := jw_at 861 (by decide +kernel) rfl
theorem kz_yX6_moveAhead : Cond.selects RX6 yX6_moveAhead yX6_moveAhead ∈ jWL := jw_at 862 (by decide +kernel) rfl
theorem kc_yX6_moveAhead : Cond.code yX6_moveAhead cX6_moveAhead 4 (some FieldType.int) ∈ jWL := jw_at 863 (by decide +kernel) rfl
theorem km_X6_173 : Cond.methodLink RX6 173 yX6_nextDue ∈ jWL := jw_at 864 (by decide +kernel) rfl
theorem ki_yX6_nextDue : Cond.instanceMethod yX6_nextDue ∈ jWL := jw_at 866 (by decide +kernel) rfl
theorem kc_yX6_nextDue : Cond.code yX6_nextDue cX6_nextDue 3 (some FieldType.int) ∈ jWL := jw_at 867 (by decide +kernel) rfl
theorem km_L_143 : Cond.methodLink RL 143 yX6_haven ∈ jWL := jw_at 868 (by decide +kernel) rfl
theorem ki_yX6_haven : Cond.instanceMethod yX6_haven ∈ jWL := jw_at 869 (by decide +kernel) rfl
theorem kz_yX6_haven : Cond.selects RX6 yX6_haven yX6_haven ∈ jWL := jw_at 870 (by decide +kernel) rfl
theorem kc_yX6_haven : Cond.code yX6_haven cX6_haven 2 (some FieldType.int) ∈ jWL := jw_at 871 (by decide +kernel) rfl
theorem km_L_146 : Cond.methodLink RL 146 yX6_isSafe ∈ jWL := jw_at 872 (by decide +kernel) rfl
theorem ki_yX6_isSafe : Cond.instanceMethod yX6_isSafe ∈ jWL := jw_at 873 (by decide +kernel) rfl
theorem kz_yX6_isSafe : Cond.selects RX6 yX6_isSafe yX6_isSafe ∈ jWL := jw_at 874 (by decide +kernel) rfl
theorem kc_yX6_isSafe : Cond.code yX6_isSafe cX6_isSafe 2 (some FieldType.boolean) ∈ jWL := jw_at 875 (by decide +kernel) rfl
theorem km_L_149 : Cond.methodLink RL 149 yX6_stateOf ∈ jWL := jw_at 876 (by decide +kernel) rfl
theorem ki_yX6_stateOf : Cond.instanceMethod yX6_stateOf ∈ jWL := jw_at 877 (by decide +kernel) rfl
theorem kz_yX6_stateOf : Cond.selects RX6 yX6_stateOf yX6_stateOf ∈ jWL := jw_at 878 (by decide +kernel) rfl
theorem kc_yX6_stateOf : Cond.code yX6_stateOf cX6_stateOf 2 (some FieldType.int) ∈ jWL := jw_at 879 (by decide +kernel) rfl
theorem km_L_152 : Cond.methodLink RL 152 yX6_formatOf ∈ jWL := jw_at 880 (by decide +kernel) rfl
theorem ki_yX6_formatOf : Cond.instanceMethod yX6_formatOf ∈ jWL := jw_at 881 (by decide +kernel) rfl
theorem kz_yX6_formatOf : Cond.selects RX6 yX6_formatOf yX6_formatOf ∈ jWL := jw_at 882 (by decide +kernel) rfl
theorem kc_yX6_formatOf : Cond.code yX6_formatOf cX6_formatOf 2 (some FieldType.int) ∈ jWL := jw_at 883 (by decide +kernel) rfl
theorem km_L_155 : Cond.methodLink RL 155 yX6_qualityOf ∈ jWL := jw_at 884 (by decide +kernel) rfl
theorem ki_yX6_qualityOf : Cond.instanceMethod yX6_qualityOf ∈ jWL := jw_at 885 (by decide +kernel) rfl
theorem kz_yX6_qualityOf : Cond.selects RX6 yX6_qualityOf yX6_qualityOf ∈ jWL := jw_at 886 (by decide +kernel) rfl
theorem kc_yX6_qualityOf : Cond.code yX6_qualityOf cX6_qualityOf 2 (some FieldType.int) ∈ jWL := jw_at 887 (by decide +kernel) rfl
theorem km_L_158 : Cond.methodLink RL 158 yX6_endOf ∈ jWL := jw_at 888 (by decide +kernel) rfl
theorem ki_yX6_endOf : Cond.instanceMethod yX6_endOf ∈ jWL := jw_at 889 (by decide +kernel) rfl
theorem kz_yX6_endOf : Cond.selects RX6 yX6_endOf yX6_endOf ∈ jWL := jw_at 890 (by decide +kernel) rfl
theorem kc_yX6_endOf : Cond.code yX6_endOf cX6_endOf 2 (some FieldType.int) ∈ jWL := jw_at 891 (by decide +kernel) rfl
theorem km_L_161 : Cond.methodLink RL 161 yX6_setBudget ∈ jWL := jw_at 892 (by decide +kernel) rfl
theorem ki_yX6_setBudget : Cond.instanceMethod yX6_setBudget ∈ jWL := jw_at 893 (by decide +kernel) rfl
theorem kz_yX6_setBudget : Cond.selects RX6 yX6_setBudget yX6_setBudget ∈ jWL := jw_at 894 (by decide +kernel) rfl
theorem kc_yX6_setBudget : Cond.code yX6_setBudget cX6_setBudget 3 (some FieldType.int) ∈ jWL := jw_at 895 (by decide +kernel) rfl
theorem kk_X6_177 : Cond.constant RX6 177 (1000000) ∈ jWL := jw_at 896 (by decide +kernel) rfl
theorem km_L_165 : Cond.methodLink RL 165 yX6_left ∈ jWL := jw_at 897 (by decide +kernel) rfl
theorem ki_yX6_left : Cond.instanceMethod yX6_left ∈ jWL := jw_at 898 (by decide +kernel) rfl
theorem kz_yX6_left : Cond.selects RX6 yX6_left yX6_left ∈ jWL := jw_at 899 (by decide +kernel) rfl
theorem kc_yX6_left : Cond.code yX6_left cX6_left 1 (some FieldType.int) ∈ jWL := jw_at 900 (by decide +kernel) rfl
theorem km_L_169 : Cond.methodLink RL 169 yX6_begin ∈ jWL := jw_at 901 (by decide +kernel) rfl
theorem ki_yX6_begin : Cond.instanceMethod yX6_begin ∈ jWL := jw_at 902 (by decide +kernel) rfl
theorem kz_yX6_begin : Cond.selects RX6 yX6_begin yX6_begin ∈ jWL := jw_at 903 (by decide +kernel) rfl
theorem kc_yX6_begin : Cond.code yX6_begin cX6_begin 3 (some FieldType.int) ∈ jWL := jw_at 904 (by decide +kernel) rfl
theorem km_L_173 : Cond.methodLink RL 173 yX6_year ∈ jWL := jw_at 905 (by decide +kernel) rfl
theorem ki_yX6_year : Cond.instanceMethod yX6_year ∈ jWL := jw_at 906 (by decide +kernel) rfl
theorem kz_yX6_year : Cond.selects RX6 yX6_year yX6_year ∈ jWL := jw_at 907 (by decide +kernel) rfl
theorem kc_yX6_year : Cond.code yX6_year cX6_year 1 (some FieldType.int) ∈ jWL := jw_at 908 (by decide +kernel) rfl
theorem km_L_177 : Cond.methodLink RL 177 yX6_overdue ∈ jWL := jw_at 909 (by decide +kernel) rfl
theorem ki_yX6_overdue : Cond.instanceMethod yX6_overdue ∈ jWL := jw_at 910 (by decide +kernel) rfl
theorem kz_yX6_overdue : Cond.selects RX6 yX6_overdue yX6_overdue ∈ jWL := jw_at 911 (by decide +kernel) rfl
theorem kc_yX6_overdue : Cond.code yX6_overdue cX6_overdue 3 (some FieldType.int) ∈ jWL := jw_at 912 (by decide +kernel) rfl
theorem km_L_180 : Cond.methodLink RL 180 yX6_promise ∈ jWL := jw_at 913 (by decide +kernel) rfl
theorem ki_yX6_promise : Cond.instanceMethod yX6_promise ∈ jWL := jw_at 914 (by decide +kernel) rfl
theorem kz_yX6_promise : Cond.selects RX6 yX6_promise yX6_promise ∈ jWL := jw_at 915 (by decide +kernel) rfl
theorem kc_yX6_promise : Cond.code yX6_promise cX6_promise 7 (some FieldType.int) ∈ jWL := jw_at 916 (by decide +kernel) rfl
theorem ka_long : Cond.arrayClass .long ∈ jWL := jw_at 917 (by decide +kernel) rfl
end
section
/-! THE MATHEMATICAL STATE: counts (0 files, 1 converters) and numbers by (what, which): 0 last year of a format; 1 from, 2 to, 3 loss, 4 price, 5 withdrawn of a converter; 6 years, 7 least, 8 reads of a law; 9 format, 10 size, 11 law, 12 quality, 13 end, 14 read in, 15 state, 16 held of a file; 17: 0 the budget, 1 what is left, 2 the year -/
abbrev jS : Type := (Nat → Nat) × (Nat → Nat → Int32)
def sn (S : jS) (a : Nat) : Nat := S.1 a
def sf (S : jS) (a i : Nat) : Int32 := S.2 a i
def su (S : jS) (a i : Nat) (v : Int32) : jS := (S.1, fun x y => if x = a ∧ y = i then v else S.2 x y)
def sa (S : jS) (a : Nat) : jS := (fun x => if x = a then S.1 a + 1 else S.1 x, S.2)
theorem sn_su (S : jS) (a i : Nat) (v : Int32) (x : Nat) : sn (su S a i v) x = sn S x := rfl
theorem sf_su (S : jS) (a i : Nat) (v : Int32) (x y : Nat) : sf (su S a i v) x y = if x = a ∧ y = i then v else sf S x y := rfl
theorem sf_sa (S : jS) (a x y : Nat) : sf (sa S a) x y = sf S x y := rfl
theorem sn_sa (S : jS) (a x : Nat) : sn (sa S a) x = if x = a then sn S a + 1 else sn S x := rfl
def ix (x : Int32) : Nat := x.toNatClampNeg
/-- out of 0 .. n - 1 -/
abbrev bad (x : Int32) (n : Nat) : Prop := x < 0 ∨ nI n ≤ x
theorem bad_of {x : Int32} {n : Nat} (h : ¬ bad x n) (hn : n < 2 ^ 31) : ∃ j, j < n ∧ x = nI j ∧ ix x = j := by
  rcases pk_ix x hn with h1 | h1 | ⟨j, h1, rfl⟩
  · exact absurd (Or.inl h1) h
  · exact absurd (Or.inr h1) h
  · exact ⟨j, h1, rfl, nI_clamp (by omega)⟩
theorem bad_nI {j n : Nat} (h : j < n) (hn : n < 2 ^ 31) : ¬ bad (nI j) n := by
  rintro (h1 | h1)
  · exact nI_pos (by omega) h1
  · exact nI_ge h hn h1
theorem ix_nI {j : Nat} (h : j < 2 ^ 31) : ix (nI j) = j := nI_clamp h
/-- can a format be read in the year of now -/
abbrev canR (S : jS) (j : Nat) : Prop := sf S 0 j = -1 ∨ sf S 17 2 ≤ sf S 0 j
/-- is a file safe in a format -/
abbrev safe (S : jS) (i j : Nat) : Prop := sf S 0 j = -1 ∨ (sf S 16 i = 0 ∧ sf S 13 i ≤ sf S 0 j)
/-- well formed -/
def sW (S : jS) : Prop :=
  (sn S 0 ≤ 40 ∧ sn S 1 ≤ 30) ∧
  (∀ c, c < sn S 1 → (∃ u, u < 10 ∧ sf S 1 c = nI u) ∧ (∃ u, u < 10 ∧ sf S 2 c = nI u) ∧ (∃ u, u ≤ 500 ∧ sf S 3 c = nI u) ∧ (∃ u, u ≤ 100 ∧ sf S 4 c = nI u) ∧ (sf S 5 c = 0 ∨ sf S 5 c = 1)) ∧
  (∀ i, i < sn S 0 → (∃ u, u < 10 ∧ sf S 9 i = nI u) ∧ (∃ u, u < 5 ∧ sf S 11 i = nI u) ∧ (∃ u, u ≤ 1000 ∧ sf S 12 i = nI u) ∧ (∃ u, 1 ≤ u ∧ u ≤ 100 ∧ sf S 10 i = nI u) ∧ (sf S 16 i = 0 ∨ sf S 16 i = 1)) ∧
  (∀ j, j < 5 → ∃ u, u ≤ 1000 ∧ sf S 7 j = nI u) ∧ ∃ u, u ≤ 900 ∧ sf S 17 2 = nI u
/-- where x's things lie: the counts and the references that never change, by N and P -/
def xB (N : Nat → Nat) (P : Nat → Nat → Nat → Option (Nat × Nat)) : Prop :=
  (N 0 = 1 ∧ N 1 = 1 ∧ N 2 = 1 ∧ N 3 = 1 ∧ N 4 = 1 ∧ N 5 = 1 ∧ N 6 = 1 ∧ N 7 = 1 ∧ N 8 = 1 ∧ N 9 = 1) ∧ (N 10 = 5 ∧ N 11 = 10 ∧ N 14 = 10 ∧ N 15 = 10 ∧ N 16 = 10 ∧ N 17 = 10 ∧ N 18 = 100) ∧
  (P 0 0 0 = some (1, 0) ∧ P 0 0 1 = some (2, 0) ∧ P 0 0 2 = some (3, 0) ∧ P 0 0 3 = some (4, 0)) ∧ (P 4 0 0 = some (5, 0) ∧ P 4 0 2 = some (6, 0) ∧ P 4 0 3 = some (7, 0) ∧ P 4 0 4 = some (8, 0) ∧ P 4 0 5 = some (9, 0)) ∧
  (∀ i, i < 5 → P 2 0 i = some (10, i)) ∧ (∀ i, i < 10 → P 8 0 i = some (11, i)) ∧ (∀ i, i < 10 → P 11 i 0 = some (14, i) ∧ P 11 i 1 = some (15, i) ∧ P 11 i 2 = some (16, i) ∧ P 11 i 3 = some (17, i)) ∧ (∀ i j, i < 10 → j < 10 → P 17 i j = some (18, 10 * i + j)) ∧
  (∀ i, i < N 12 → P 3 0 i = some (12, i)) ∧ (∀ i, i < N 13 → P 5 0 i = some (13, i))
section XB
variable {N : Nat → Nat} {P : Nat → Nat → Nat → Option (Nat × Nat)}
theorem xB.l0 (h : xB N P) : 0 < N 0 := by rw [h.1.1]; decide
theorem xB.l1 (h : xB N P) : 0 < N 1 := by rw [h.1.2.1]; decide
theorem xB.l2 (h : xB N P) : 0 < N 2 := by rw [h.1.2.2.1]; decide
theorem xB.l3 (h : xB N P) : 0 < N 3 := by rw [h.1.2.2.2.1]; decide
theorem xB.l4 (h : xB N P) : 0 < N 4 := by rw [h.1.2.2.2.2.1]; decide
theorem xB.l5 (h : xB N P) : 0 < N 5 := by rw [h.1.2.2.2.2.2.1]; decide
theorem xB.l6 (h : xB N P) : 0 < N 6 := by rw [h.1.2.2.2.2.2.2.1]; decide
theorem xB.l7 (h : xB N P) : 0 < N 7 := by rw [h.1.2.2.2.2.2.2.2.1]; decide
theorem xB.l8 (h : xB N P) : 0 < N 8 := by rw [h.1.2.2.2.2.2.2.2.2.1]; decide
theorem xB.l9 (h : xB N P) : 0 < N 9 := by rw [h.1.2.2.2.2.2.2.2.2.2]; decide
theorem xB.l10 (h : xB N P) {i : Nat} (hi : i < 5) : i < N 10 := by rw [h.2.1.1]; exact hi
theorem xB.l11 (h : xB N P) {i : Nat} (hi : i < 10) : i < N 11 := by rw [h.2.1.2.1]; exact hi
theorem xB.l14 (h : xB N P) {i : Nat} (hi : i < 10) : i < N 14 := by rw [h.2.1.2.2.1]; exact hi
theorem xB.l15 (h : xB N P) {i : Nat} (hi : i < 10) : i < N 15 := by rw [h.2.1.2.2.2.1]; exact hi
theorem xB.l16 (h : xB N P) {i : Nat} (hi : i < 10) : i < N 16 := by rw [h.2.1.2.2.2.2.1]; exact hi
theorem xB.l17 (h : xB N P) {i : Nat} (hi : i < 10) : i < N 17 := by rw [h.2.1.2.2.2.2.2.1]; exact hi
theorem xB.l18 (h : xB N P) {i : Nat} (hi : i < 100) : i < N 18 := by rw [h.2.1.2.2.2.2.2.2]; exact hi
theorem xB.p00 (h : xB N P) : P 0 0 0 = some (1, 0) := h.2.2.1.1
theorem xB.p01 (h : xB N P) : P 0 0 1 = some (2, 0) := h.2.2.1.2.1
theorem xB.p02 (h : xB N P) : P 0 0 2 = some (3, 0) := h.2.2.1.2.2.1
theorem xB.p03 (h : xB N P) : P 0 0 3 = some (4, 0) := h.2.2.1.2.2.2
theorem xB.p40 (h : xB N P) : P 4 0 0 = some (5, 0) := h.2.2.2.1.1
theorem xB.p42 (h : xB N P) : P 4 0 2 = some (6, 0) := h.2.2.2.1.2.1
theorem xB.p43 (h : xB N P) : P 4 0 3 = some (7, 0) := h.2.2.2.1.2.2.1
theorem xB.p44 (h : xB N P) : P 4 0 4 = some (8, 0) := h.2.2.2.1.2.2.2.1
theorem xB.p45 (h : xB N P) : P 4 0 5 = some (9, 0) := h.2.2.2.1.2.2.2.2
theorem xB.p2 (h : xB N P) {i : Nat} (hi : i < 5) : P 2 0 i = some (10, i) := h.2.2.2.2.1 i hi
theorem xB.p8 (h : xB N P) {i : Nat} (hi : i < 10) : P 8 0 i = some (11, i) := h.2.2.2.2.2.1 i hi
theorem xB.pq (h : xB N P) {i : Nat} (hi : i < 10) : P 11 i 0 = some (14, i) := (h.2.2.2.2.2.2.1 i hi).1
theorem xB.pc (h : xB N P) {i : Nat} (hi : i < 10) : P 11 i 1 = some (15, i) := (h.2.2.2.2.2.2.1 i hi).2.1
theorem xB.pl (h : xB N P) {i : Nat} (hi : i < 10) : P 11 i 2 = some (16, i) := (h.2.2.2.2.2.2.1 i hi).2.2.1
theorem xB.ps (h : xB N P) {i : Nat} (hi : i < 10) : P 11 i 3 = some (17, i) := (h.2.2.2.2.2.2.1 i hi).2.2.2
theorem xB.p17 (h : xB N P) {i j : Nat} (hi : i < 10) (hj : j < 10) : P 17 i j = some (18, 10 * i + j) := h.2.2.2.2.2.2.2.1 i j hi hj
theorem xB.p3 (h : xB N P) {i : Nat} (hi : i < N 12) : P 3 0 i = some (12, i) := h.2.2.2.2.2.2.2.2.1 i hi
theorem xB.p5 (h : xB N P) {i : Nat} (hi : i < N 13) : P 5 0 i = some (13, i) := h.2.2.2.2.2.2.2.2.2 i hi
end XB
/-- where the reference's things lie -/
def mB (N : Nat → Nat) (P : Nat → Nat → Nat → Option (Nat × Nat)) : Prop := N 20 = 1 ∧ (∀ f, f < 29 → N (21 + f) = 1 ∧ P 20 0 f = some (21 + f, 0))
section MB
variable {N : Nat → Nat} {P : Nat → Nat → Nat → Option (Nat × Nat)}
theorem mB.l0 (h : mB N P) : 0 < N 20 := by rw [h.1]; decide
theorem mB.l (h : mB N P) (f : Nat) (hf : f < 29) {k : Nat} (hk : 21 + f = k) : 0 < N k := by rw [← hk, (h.2 f hf).1]; decide
theorem mB.p (h : mB N P) (f : Nat) (hf : f < 29) {k : Nat} (hk : 21 + f = k) : P 20 0 f = some (k, 0) := by rw [← hk]; exact (h.2 f hf).2
end MB
/-- a truth as a number -/
def b1 (p : Prop) [Decidable p] : Int32 := if p then 1 else 0
theorem b1_t {p : Prop} [Decidable p] (h : p) : b1 p = 1 := if_pos h
theorem b1_f {p : Prop} [Decidable p] (h : ¬ p) : b1 p = 0 := if_neg h
theorem b1_0 {p : Prop} [Decidable p] : b1 p = 0 ↔ ¬ p := by
  unfold b1
  split <;> simp_all
theorem b1_n {p : Prop} [Decidable p] (h : ¬ b1 p = 0) : p := by
  by_cases q : p
  · exact q
  · exact absurd (b1_f q) h
theorem b1_and {p : Prop} [Decidable p] : b1 p &&& 1 = b1 p := by
  unfold b1
  split <;> rfl
theorem b1r_t {p : Prop} [Decidable p] (h : p) : (some (aI 1) : Option jV) = some (aI (b1 p)) := by rw [b1_t h]
theorem b1r_f {p : Prop} [Decidable p] (h : ¬ p) : (some (aI 0) : Option jV) = some (aI (b1 p)) := by rw [b1_f h]
end
section
/-! WAYS: the table of the best ways from a format, by going through all ways, lower converters first -/
abbrev jB : Type := Nat → Option (Int32 × Int32 × List Nat)
def stQ (S : jS) (c : Nat) (q : Int32) : Int32 := q * (1000 - sf S 3 c) / 1000
def okc (S : jS) (c a : Nat) (vis : List Nat) : Prop := sf S 5 c = 0 ∧ sf S 1 c = nI a ∧ ix (sf S 2 c) ∉ vis
noncomputable def okb (S : jS) (c a : Nat) (vis : List Nat) : Bool := decide (sf S 5 c = 0) && decide (sf S 1 c = nI a) && decide (ix (sf S 2 c) ∉ vis)
theorem okb_iff {S : jS} {c a : Nat} {vis : List Nat} : okb S c a vis = true ↔ okc S c a vis := by
  simp [okb, okc, and_assoc]
/-- is a way of quality q, cost c, with n converters better than what is known -/
def btr (o : Option (Int32 × Int32 × List Nat)) (q c : Int32) (n : Nat) : Bool := match o with
  | none => true
  | some (q0, c0, w0) => decide (q0 < q) || (decide (q = q0) && (decide (c < c0) || (decide (c = c0) && decide (n < w0.length))))
def ofr (T : jB) (b : Nat) (q c : Int32) (w : List Nat) : jB := fun x => if x = b ∧ btr (T b) q c w.length = true then some (q, c, w) else T x
noncomputable def dfs (S : jS) : Nat → Nat → List Nat → Int32 → Int32 → List Nat → jB → jB
  | 0, _, _, _, _, _, T => T
  | n + 1, a, vis, q, c, w, T => (List.range (sn S 1)).foldl (fun T k => if okb S k a vis = true then dfs S n (ix (sf S 2 k)) (ix (sf S 2 k) :: vis) (stQ S k q) (c + sf S 4 k) (w ++ [k]) T else T) (ofr T a q c w)
noncomputable def best (S : jS) (a : Nat) : jB := dfs S 10 a [a] 1000 0 [] (fun _ => none)
/-- the greatest quality to a goal over all ways -/
noncomputable def gq (S : jS) (goal : Nat) : Nat → Nat → List Nat → Int32 → Int32 → Int32
  | 0, _, _, _, m => m
  | n + 1, a, vis, q, m => (List.range (sn S 1)).foldl (fun m k => if okb S k a vis = true then gq S goal n (ix (sf S 2 k)) (ix (sf S 2 k) :: vis) (stQ S k q) m else m) (if a = goal ∧ m < q then q else m)
def bq (o : Option (Int32 × Int32 × List Nat)) : Int32 := match o with
  | none => -1
  | some (q, _, _) => q
def bc (o : Option (Int32 × Int32 × List Nat)) : Int32 := match o with
  | none => -1
  | some (_, c, _) => c
def bw (o : Option (Int32 × Int32 × List Nat)) : List Nat := match o with
  | none => []
  | some (_, _, w) => w
/-- along a way -/
def alg (S : jS) (w : List Nat) (q : Int32) : Int32 := w.foldl (fun q c => stQ S c q) q
/-- the lowest converter from k on that leads from a -/
def nxt (S : jS) (a k : Nat) : Option Nat := (List.range' k (sn S 1 - k)).find? (fun c => decide (sf S 1 c = nI a))
/-- the highest converter that leads from a -/
def lst (S : jS) (a : Nat) : Option Nat := (List.range (sn S 1)).reverse.find? (fun c => decide (sf S 1 c = nI a))
def xTab (μ : jM) (a : Nat) (T : jB) : Prop := ∀ b, b < 10 → mI μ 14 a b = bq (T b) ∧ mI μ 15 a b = bc (T b) ∧ mI μ 16 a b = nI (bw (T b)).length ∧ (bw (T b)).length ≤ 9 ∧ ∀ k, k < (bw (T b)).length → mI μ 18 (10 * a + b) k = nI ((bw (T b)).getD k 0)
def mTab (μ : jM) (a : Nat) (T : jB) : Prop := ∀ b, b < 10 → mI μ 40 0 (10 * a + b) = bq (T b) ∧ mI μ 41 0 (10 * a + b) = bc (T b) ∧ mI μ 42 0 (10 * a + b) = nI (bw (T b)).length ∧ (bw (T b)).length ≤ 9 ∧ ∀ k, k < (bw (T b)).length → mI μ 43 0 (9 * (10 * a + b) + k) = nI ((bw (T b)).getD k 0)
/-- the class's things tell S -/
def xR (S : jS) (μ : jM) : Prop :=
  xB (mN μ) (mP μ) ∧ (mN μ 12 = sn S 0 ∧ mN μ 13 = sn S 1 ∧ mI μ 0 0 4 = nI (sn S 0) ∧ mI μ 4 0 1 = nI (sn S 1)) ∧ (mI μ 0 0 5 = sf S 17 2 ∧ mI μ 0 0 6 = sf S 17 0 ∧ mI μ 0 0 7 = sf S 17 1) ∧
  (∀ j, j < 10 → mI μ 1 0 j = sf S 0 j) ∧ (∀ j, j < 5 → mI μ 10 j 0 = sf S 6 j ∧ mI μ 10 j 1 = sf S 7 j ∧ mI μ 10 j 2 = sf S 8 j) ∧
  (∀ i, i < sn S 0 → (mI μ 12 i 0 = sf S 10 i ∧ mI μ 12 i 2 = sf S 13 i ∧ mI μ 12 i 3 = sf S 9 i ∧ mI μ 12 i 4 = sf S 12 i ∧ mI μ 12 i 5 = sf S 14 i ∧ mI μ 12 i 6 = sf S 15 i ∧ mI μ 12 i 7 = sf S 16 i) ∧ ∃ u, u < 5 ∧ sf S 11 i = nI u ∧ mP μ 12 i 1 = some (10, u)) ∧
  (∀ c, c < sn S 1 → mI μ 13 c 0 = nI c ∧ mI μ 13 c 1 = sf S 1 c ∧ mI μ 13 c 2 = sf S 2 c ∧ mI μ 13 c 3 = sf S 3 c ∧ mI μ 13 c 4 = sf S 4 c ∧ mI μ 13 c 5 = sf S 5 c) ∧
  ((∀ a, a < 10 → mP μ 6 0 a = (nxt S a 0).map (fun c => (13, c)) ∧ mP μ 7 0 a = (lst S a).map (fun c => (13, c))) ∧ ∀ c a, c < sn S 1 → a < 10 → sf S 1 c = nI a → mP μ 13 c 6 = (nxt S a (c + 1)).map (fun c => (13, c))) ∧
  ∀ a, a < 10 → mI μ 11 a 4 = 0 ∨ (mI μ 11 a 4 = 1 ∧ xTab μ a (best S a))
section XR
variable {S : jS} {μ : jM} (h : xR S μ)
theorem xR.B (h : xR S μ) : xB (mN μ) (mP μ) := h.1
theorem xR.n12 (h : xR S μ) : mN μ 12 = sn S 0 := h.2.1.1
theorem xR.n13 (h : xR S μ) : mN μ 13 = sn S 1 := h.2.1.2.1
theorem xR.l12 (h : xR S μ) {i : Nat} (hi : i < sn S 0) : i < mN μ 12 := by rw [h.n12]; exact hi
theorem xR.l13 (h : xR S μ) {i : Nat} (hi : i < sn S 1) : i < mN μ 13 := by rw [h.n13]; exact hi
theorem xR.fc (h : xR S μ) : mI μ 0 0 4 = nI (sn S 0) := h.2.1.2.2.1
theorem xR.nc (h : xR S μ) : mI μ 4 0 1 = nI (sn S 1) := h.2.1.2.2.2
theorem xR.now (h : xR S μ) : mI μ 0 0 5 = sf S 17 2 := h.2.2.1.1
theorem xR.bud (h : xR S μ) : mI μ 0 0 6 = sf S 17 0 := h.2.2.1.2.1
theorem xR.uns (h : xR S μ) : mI μ 0 0 7 = sf S 17 1 := h.2.2.1.2.2
theorem xR.last (h : xR S μ) {j : Nat} (hj : j < 10) : mI μ 1 0 j = sf S 0 j := h.2.2.2.1 j hj
theorem xR.ly (h : xR S μ) {j : Nat} (hj : j < 5) : mI μ 10 j 0 = sf S 6 j := (h.2.2.2.2.1 j hj).1
theorem xR.ll (h : xR S μ) {j : Nat} (hj : j < 5) : mI μ 10 j 1 = sf S 7 j := (h.2.2.2.2.1 j hj).2.1
theorem xR.lr (h : xR S μ) {j : Nat} (hj : j < 5) : mI μ 10 j 2 = sf S 8 j := (h.2.2.2.2.1 j hj).2.2
theorem xR.fsz (h : xR S μ) {i : Nat} (hi : i < sn S 0) : mI μ 12 i 0 = sf S 10 i := (h.2.2.2.2.2.1 i hi).1.1
theorem xR.fen (h : xR S μ) {i : Nat} (hi : i < sn S 0) : mI μ 12 i 2 = sf S 13 i := (h.2.2.2.2.2.1 i hi).1.2.1
theorem xR.ffm (h : xR S μ) {i : Nat} (hi : i < sn S 0) : mI μ 12 i 3 = sf S 9 i := (h.2.2.2.2.2.1 i hi).1.2.2.1
theorem xR.fq (h : xR S μ) {i : Nat} (hi : i < sn S 0) : mI μ 12 i 4 = sf S 12 i := (h.2.2.2.2.2.1 i hi).1.2.2.2.1
theorem xR.frd (h : xR S μ) {i : Nat} (hi : i < sn S 0) : mI μ 12 i 5 = sf S 14 i := (h.2.2.2.2.2.1 i hi).1.2.2.2.2.1
theorem xR.fst (h : xR S μ) {i : Nat} (hi : i < sn S 0) : mI μ 12 i 6 = sf S 15 i := (h.2.2.2.2.2.1 i hi).1.2.2.2.2.2.1
theorem xR.fhl (h : xR S μ) {i : Nat} (hi : i < sn S 0) : mI μ 12 i 7 = sf S 16 i := (h.2.2.2.2.2.1 i hi).1.2.2.2.2.2.2
theorem xR.flw (h : xR S μ) {i : Nat} (hi : i < sn S 0) : ∃ u, u < 5 ∧ sf S 11 i = nI u ∧ mP μ 12 i 1 = some (10, u) := (h.2.2.2.2.2.1 i hi).2
theorem xR.cnum (h : xR S μ) {c : Nat} (hc : c < sn S 1) : mI μ 13 c 0 = nI c := (h.2.2.2.2.2.2.1 c hc).1
theorem xR.cfr (h : xR S μ) {c : Nat} (hc : c < sn S 1) : mI μ 13 c 1 = sf S 1 c := (h.2.2.2.2.2.2.1 c hc).2.1
theorem xR.cto (h : xR S μ) {c : Nat} (hc : c < sn S 1) : mI μ 13 c 2 = sf S 2 c := (h.2.2.2.2.2.2.1 c hc).2.2.1
theorem xR.clo (h : xR S μ) {c : Nat} (hc : c < sn S 1) : mI μ 13 c 3 = sf S 3 c := (h.2.2.2.2.2.2.1 c hc).2.2.2.1
theorem xR.cco (h : xR S μ) {c : Nat} (hc : c < sn S 1) : mI μ 13 c 4 = sf S 4 c := (h.2.2.2.2.2.2.1 c hc).2.2.2.2.1
theorem xR.cwd (h : xR S μ) {c : Nat} (hc : c < sn S 1) : mI μ 13 c 5 = sf S 5 c := (h.2.2.2.2.2.2.1 c hc).2.2.2.2.2
theorem xR.low (h : xR S μ) {a : Nat} (ha : a < 10) : mP μ 6 0 a = (nxt S a 0).map (fun c => (13, c)) := (h.2.2.2.2.2.2.2.1.1 a ha).1
theorem xR.high (h : xR S μ) {a : Nat} (ha : a < 10) : mP μ 7 0 a = (lst S a).map (fun c => (13, c)) := (h.2.2.2.2.2.2.2.1.1 a ha).2
theorem xR.next (h : xR S μ) {c a : Nat} (hc : c < sn S 1) (ha : a < 10) (hf : sf S 1 c = nI a) : mP μ 13 c 6 = (nxt S a (c + 1)).map (fun c => (13, c)) := h.2.2.2.2.2.2.2.1.2 c a hc ha hf
theorem xR.cache (h : xR S μ) {a : Nat} (ha : a < 10) : mI μ 11 a 4 = 0 ∨ (mI μ 11 a 4 = 1 ∧ xTab μ a (best S a)) := h.2.2.2.2.2.2.2.2 a ha
end XR
/-- how many of what -/
def sl (S : jS) (a : Nat) : Nat := if a = 0 then 10 else if a ≤ 5 then sn S 1 else if a ≤ 8 then 5 else sn S 0
/-- the reference's things tell S -/
def mR (S : jS) (μ : jM) : Prop :=
  mB (mN μ) (mP μ) ∧ (mI μ 20 0 29 = nI (sn S 1) ∧ mI μ 20 0 30 = nI (sn S 0) ∧ mI μ 20 0 31 = sf S 17 0 ∧ mI μ 20 0 32 = sf S 17 1 ∧ mI μ 20 0 33 = sf S 17 2) ∧ (∀ a i, a ≤ 16 → i < sl S a → mI μ (21 + a) 0 i = sf S a i) ∧
  (mI μ 20 0 34 = 0 ∨ (mI μ 20 0 34 = 1 ∧ ∀ a, a < 10 → mTab μ a (best S a))) ∧ ∀ j, j < 10 → mI μ 49 0 j = 0
section MR
variable {S : jS} {μ : jM}
theorem mR.B (h : mR S μ) : mB (mN μ) (mP μ) := h.1
theorem mR.nc (h : mR S μ) : mI μ 20 0 29 = nI (sn S 1) := h.2.1.1
theorem mR.nf (h : mR S μ) : mI μ 20 0 30 = nI (sn S 0) := h.2.1.2.1
theorem mR.bud (h : mR S μ) : mI μ 20 0 31 = sf S 17 0 := h.2.1.2.2.1
theorem mR.rest (h : mR S μ) : mI μ 20 0 32 = sf S 17 1 := h.2.1.2.2.2.1
theorem mR.now (h : mR S μ) : mI μ 20 0 33 = sf S 17 2 := h.2.1.2.2.2.2
theorem mR.v (h : mR S μ) (a : Nat) {i k : Nat} (ha : a ≤ 16) (hk : 21 + a = k) (hi : i < sl S a) : mI μ k 0 i = sf S a i := by rw [← hk]; exact h.2.2.1 a i ha hi
theorem mR.found (h : mR S μ) : mI μ 20 0 34 = 0 ∨ (mI μ 20 0 34 = 1 ∧ ∀ a, a < 10 → mTab μ a (best S a)) := h.2.2.2.1
theorem mR.on (h : mR S μ) {j : Nat} (hj : j < 10) : mI μ 49 0 j = 0 := h.2.2.2.2 j hj
end MR
/-- things of some kinds are the same -/
def eqK (μ μ' : jM) (kd : Nat) : Prop := mN μ' kd = mN μ kd ∧ ∀ y z, mI μ' kd y z = mI μ kd y z ∧ mP μ' kd y z = mP μ kd y z ∧ mG μ' kd y z = mG μ kd y z
/-- the class writes its own things alone -/
def xF (μ μ' : jM) : Prop := ∀ kd, 20 ≤ kd → eqK μ μ' kd
/-- the reference writes its own things alone -/
def mF (μ μ' : jM) : Prop := ∀ kd, kd < 20 ∨ 50 ≤ kd → eqK μ μ' kd
theorem eqK.rf {μ : jM} {kd : Nat} : eqK μ μ kd := ⟨rfl, fun _ _ => ⟨rfl, rfl, rfl⟩⟩
theorem eqK.tr {μ μ1 μ2 : jM} {kd : Nat} (h : eqK μ μ1 kd) (h2 : eqK μ1 μ2 kd) : eqK μ μ2 kd := ⟨h2.1.trans h.1, fun y z => ⟨(h2.2 y z).1.trans (h.2 y z).1, (h2.2 y z).2.1.trans (h.2 y z).2.1, (h2.2 y z).2.2.trans (h.2 y z).2.2⟩⟩
theorem xF.rf {μ : jM} : xF μ μ := fun _ _ => eqK.rf
theorem mF.rf {μ : jM} : mF μ μ := fun _ _ => eqK.rf
theorem xF.tr {μ μ1 μ2 : jM} (h : xF μ μ1) (h2 : xF μ1 μ2) : xF μ μ2 := fun kd hk => (h kd hk).tr (h2 kd hk)
theorem mF.tr {μ μ1 μ2 : jM} (h : mF μ μ1) (h2 : mF μ1 μ2) : mF μ μ2 := fun kd hk => (h kd hk).tr (h2 kd hk)
theorem eqK_sI {μ : jM} {a b c kd : Nat} {v : Int32} (h : kd ≠ a) : eqK μ (sI μ a b c v) kd := ⟨rfl, fun y z => ⟨mI_sI_n μ a b c v (fun q => h q.1), rfl, rfl⟩⟩
theorem eqK_sP {μ : jM} {a b c kd : Nat} {v : Option (Nat × Nat)} (h : kd ≠ a) : eqK μ (sP μ a b c v) kd := ⟨rfl, fun y z => ⟨rfl, mP_sP_n μ a b c v (fun q => h q.1), rfl⟩⟩
theorem eqK_nw {μ : jM} {a kd : Nat} (h : kd ≠ a) : eqK μ (nw μ a) kd := ⟨by rw [mN_nw, if_neg h], fun y z => ⟨by rw [mI_nw, if_neg (fun q => h q.1)], by rw [mP_nw, if_neg (fun q => h q.1)], by rw [mG_nw, if_neg (fun q => h q.1)]⟩⟩
theorem xF_sI {μ μ0 : jM} {a b c : Nat} {v : Int32} (h : a < 20) (k : xF μ0 μ) : xF μ0 (sI μ a b c v) := fun kd hk => (k kd hk).tr (eqK_sI (by omega))
theorem xF_sP {μ μ0 : jM} {a b c : Nat} {v : Option (Nat × Nat)} (h : a < 20) (k : xF μ0 μ) : xF μ0 (sP μ a b c v) := fun kd hk => (k kd hk).tr (eqK_sP (by omega))
theorem xF_nw {μ μ0 : jM} {a : Nat} (h : a < 20) (k : xF μ0 μ) : xF μ0 (nw μ a) := fun kd hk => (k kd hk).tr (eqK_nw (by omega))
theorem mF_sI {μ μ0 : jM} {a b c : Nat} {v : Int32} (h : 20 ≤ a ∧ a < 50) (k : mF μ0 μ) : mF μ0 (sI μ a b c v) := fun kd hk => (k kd hk).tr (eqK_sI (by omega))
theorem mF_sP {μ μ0 : jM} {a b c : Nat} {v : Option (Nat × Nat)} (h : 20 ≤ a ∧ a < 50) (k : mF μ0 μ) : mF μ0 (sP μ a b c v) := fun kd hk => (k kd hk).tr (eqK_sP (by omega))
theorem mF_nw {μ μ0 : jM} {a : Nat} (h : 20 ≤ a ∧ a < 50) (k : mF μ0 μ) : mF μ0 (nw μ a) := fun kd hk => (k kd hk).tr (eqK_nw (by omega))
/-- the reference's things are still told when the class has written -/
theorem mR.kept {S : jS} {μ μ' : jM} (h : mR S μ) (hF : xF μ μ') : mR S μ' := by
  have hi : ∀ kd y z, 20 ≤ kd → mI μ' kd y z = mI μ kd y z := fun kd y z hk => ((hF kd hk).2 y z).1
  have hp : ∀ kd y z, 20 ≤ kd → mP μ' kd y z = mP μ kd y z := fun kd y z hk => ((hF kd hk).2 y z).2.1
  have hn : ∀ kd, 20 ≤ kd → mN μ' kd = mN μ kd := fun kd hk => (hF kd hk).1
  obtain ⟨h1, ⟨a1, a2, a3, a4, a5⟩, h3, h4, h5⟩ := h
  refine ⟨⟨by rw [hn 20 (by omega)]; exact h1.1, fun f hf => ⟨by rw [hn _ (by omega)]; exact (h1.2 f hf).1, by rw [hp _ _ _ (by omega)]; exact (h1.2 f hf).2⟩⟩, ⟨?_, ?_, ?_, ?_, ?_⟩, fun a i ha hi' => ?_, ?_, fun j hj => ?_⟩
  · rw [hi _ _ _ (by omega)]; exact a1
  · rw [hi _ _ _ (by omega)]; exact a2
  · rw [hi _ _ _ (by omega)]; exact a3
  · rw [hi _ _ _ (by omega)]; exact a4
  · rw [hi _ _ _ (by omega)]; exact a5
  · rw [hi _ _ _ (by omega)]; exact h3 a i ha hi'
  · rw [hi _ _ _ (by omega)]
    refine h4.imp id (fun h => ⟨h.1, fun a ha b hb => ?_⟩)
    obtain ⟨q1, q2, q3, q4, q5⟩ := h.2 a ha b hb
    exact ⟨by rw [hi _ _ _ (by omega)]; exact q1, by rw [hi _ _ _ (by omega)]; exact q2, by rw [hi _ _ _ (by omega)]; exact q3, q4, fun k hk => by rw [hi _ _ _ (by omega)]; exact q5 k hk⟩
  · rw [hi _ _ _ (by omega)]; exact h5 j hj
/-- .. and the class's things when the reference has written -/
theorem xR.kept {S : jS} {μ μ' : jM} (h : xR S μ) (hF : ∀ kd, kd < 20 → eqK μ μ' kd) : xR S μ' := by
  have hi : ∀ kd y z, kd < 20 → mI μ' kd y z = mI μ kd y z := fun kd y z hk => ((hF kd hk).2 y z).1
  have hp : ∀ kd y z, kd < 20 → mP μ' kd y z = mP μ kd y z := fun kd y z hk => ((hF kd hk).2 y z).2.1
  have hn : ∀ kd, kd < 20 → mN μ' kd = mN μ kd := fun kd hk => (hF kd hk).1
  unfold xR xB xTab at h ⊢
  simp only [hi 0 _ _ (by omega), hi 1 _ _ (by omega), hi 4 _ _ (by omega), hi 10 _ _ (by omega), hi 11 _ _ (by omega), hi 12 _ _ (by omega), hi 13 _ _ (by omega), hi 14 _ _ (by omega), hi 15 _ _ (by omega), hi 16 _ _ (by omega), hi 18 _ _ (by omega), hp 0 _ _ (by omega), hp 2 _ _ (by omega), hp 3 _ _ (by omega), hp 4 _ _ (by omega), hp 5 _ _ (by omega), hp 6 _ _ (by omega), hp 7 _ _ (by omega), hp 8 _ _ (by omega), hp 11 _ _ (by omega), hp 12 _ _ (by omega), hp 13 _ _ (by omega), hp 17 _ _ (by omega), hn 0 (by omega), hn 1 (by omega), hn 2 (by omega), hn 3 (by omega), hn 4 (by omega), hn 5 (by omega), hn 6 (by omega), hn 7 (by omega), hn 8 (by omega), hn 9 (by omega), hn 10 (by omega), hn 11 (by omega), hn 12 (by omega), hn 13 (by omega), hn 14 (by omega), hn 15 (by omega), hn 16 (by omega), hn 17 (by omega), hn 18 (by omega)] at h ⊢
  exact h
end
section
section JV9
variable {l : Launch} {J : Nat → List (Option jV) → List jV → jM → Nat → Nat → Prop} {cc : ByteArray} {nL : Nat} {own : String} {R : Room} {rt : Option FieldType} {md : Nat} {hh : List (Nat × Nat × Nat × Nat)} {ret : Option jV → jM → Prop} {thr : String → jM → Prop} {mc ms : Nat}
variable {pc pc' : Nat} {L : List (Option jV)} {st : List jV} {μ : jM} {k n : Nat}
theorem mj_getV (C : jCtx l J cc nL own R rt md hh ret thr mc ms) {idx kd i ci f : Nat} {v : Int32} (hdg : decode cc pc = .ok (.getfield idx, 3)) (hp : pc + 3 = pc') (hs : jSh kd = .inl ci) (hc : ci < 7) (hf : f < jNf ci) (hty : ∀ ad, jv ad μ (jFt ci f) kd i f = .int (mI μ kd i f)) (h61 : kd ≠ 61) (hw : Cond.fieldLink own idx (jTx ci f).1 (jTx ci f).2.1 (jTx ci f).2.2.1 ∈ jWL) (hi : i < mN μ kd) (hv : mI μ kd i f = v) (K : J pc' L (aI v :: st) μ k n) : J pc L (aR kd i :: st) μ k n :=
  mj_getI C hdg hp hs hc hf hty h61 hw hi (by rw [hv]; exact K)
theorem mj_ialdV (C : jCtx l J cc nL own R rt md hh ret thr mc ms) {kd i N j : Nat} {x v : Int32} (hdg : decode cc pc = .ok (.iaload, 1)) (hp : pc + 1 = pc') (hs : jSh kd = .inr (.int, N)) (h61 : kd ≠ 61) (hN : N < 2 ^ 31) (hi : i < mN μ kd) (hx9 : x = nI j) (hj : j < N) (hv : mI μ kd i j = v) (K : J pc' L (aI v :: st) μ k n) : J pc L (aI x :: aR kd i :: st) μ k n :=
  mj_iald C hdg hp hs h61 hN hi hx9 hj (by rw [hv]; exact K)
theorem mj_zaldV (C : jCtx l J cc nL own R rt md hh ret thr mc ms) {kd i N j : Nat} {x v : Int32} (hdg : decode cc pc = .ok (.baload, 1)) (hp : pc + 1 = pc') (hs : jSh kd = .inr (.boolean, N)) (h61 : kd ≠ 61) (hN : N < 2 ^ 31) (hi : i < mN μ kd) (hx9 : x = nI j) (hj : j < N) (hv : mI μ kd i j = v) (K : J pc' L (aI v :: st) μ k n) : J pc L (aI x :: aR kd i :: st) μ k n :=
  mj_zald C hdg hp hs h61 hN hi hx9 hj (by rw [hv]; exact K)
end JV9
/-- the name of an exception by its number -/
def exn : Nat → String
  | 1 => "java/lang/IndexOutOfBoundsException"
  | 2 => "java/lang/IllegalArgumentException"
  | _ => "java/lang/IllegalStateException"
theorem thrk_1 : (vx_atS RX5 82 "java/lang/IndexOutOfBoundsException" ["java/lang/RuntimeException", "java/lang/Exception"]).all vx_ot = true := by decide +kernel
theorem thrk_2 : (vx_atS RX5 58 "java/lang/IllegalArgumentException" ["java/lang/RuntimeException", "java/lang/Exception"]).all vx_ot = true := by decide +kernel
theorem thrk_3 : (vx_atS RX5 68 "java/lang/IllegalStateException" ["java/lang/RuntimeException", "java/lang/Exception"]).all vx_ot = true := by decide +kernel
theorem thrw_1 : ∀ w ∈ vx_atS RX5 82 "java/lang/IndexOutOfBoundsException" ["java/lang/RuntimeException", "java/lang/Exception"], w ∈ jWL := by decide +kernel
theorem thrw_2 : ∀ w ∈ vx_atS RX5 58 "java/lang/IllegalArgumentException" ["java/lang/RuntimeException", "java/lang/Exception"], w ∈ jWL := by decide +kernel
theorem thrw_3 : ∀ w ∈ vx_atS RX5 68 "java/lang/IllegalStateException" ["java/lang/RuntimeException", "java/lang/Exception"], w ∈ jWL := by decide +kernel
end
section
/-! WHAT EACH CALL DOES: (0 or the number of the exception, the answer, the state behind it) -/
def imax (a b : Int32) : Int32 := if a < b then b else a
def imin (a b : Int32) : Int32 := if b < a then b else a
def fL (S : jS) (i : Nat) : Nat := ix (sf S 11 i)
def fF (S : jS) (i : Nat) : Nat := ix (sf S 9 i)
def o_setLast (S : jS) (f u : Int32) : Nat × Int32 × jS := if bad f 10 then (1, 0, S) else if u ≠ -1 ∧ (u < sf S 17 2 ∨ 1000 < u) then (2, 0, S) else if ¬ canR S (ix f) then (3, 0, S) else (0, sf S 0 (ix f), su S 0 (ix f) u)
def o_converter (S : jS) (a b lo co : Int32) : Nat × Int32 × jS := if bad a 10 ∨ bad b 10 then (1, 0, S) else if (lo < 0 ∨ 500 < lo) ∨ (co < 0 ∨ 100 < co) ∨ a = b then (2, 0, S) else if sn S 1 = 30 then (3, 0, S) else
  (0, nI (sn S 1), sa (su (su (su (su (su S 1 (sn S 1) a) 2 (sn S 1) b) 3 (sn S 1) lo) 4 (sn S 1) co) 5 (sn S 1) 0) 1)
def o_law (S : jS) (j y w q : Int32) : Nat × Int32 × jS := if bad j 5 then (1, 0, S) else if (y < 1 ∨ 100 < y) ∨ (w < 0 ∨ 1000 < w) ∨ (q < 1 ∨ 50 < q) then (2, 0, S) else (0, 0, su (su (su S 6 (ix j) y) 7 (ix j) w) 8 (ix j) q)
noncomputable def o_quality (S : jS) (a b : Int32) : Nat × Int32 × jS := if bad a 10 ∨ bad b 10 then (1, 0, S) else (0, bq (best S (ix a) (ix b)), S)
noncomputable def o_byAll (S : jS) (a b : Int32) : Nat × Int32 × jS := if bad a 10 ∨ bad b 10 then (1, 0, S) else (0, gq S (ix b) 10 (ix a) [ix a] 1000 (-1), S)
noncomputable def o_cost (S : jS) (a b : Int32) : Nat × Int32 × jS := if bad a 10 ∨ bad b 10 then (1, 0, S) else (0, bc (best S (ix a) (ix b)), S)
noncomputable def o_stepAt (S : jS) (a b p : Int32) : Nat × Int32 × jS := if bad a 10 ∨ bad b 10 ∨ p < 0 then (1, 0, S) else (0, if p < nI (bw (best S (ix a) (ix b))).length then nI ((bw (best S (ix a) (ix b))).getD (ix p) 0) else -1, S)
def o_file (S : jS) (f sz j : Int32) : Nat × Int32 × jS := if bad f 10 ∨ bad j 5 then (1, 0, S) else if sz < 1 ∨ 100 < sz then (2, 0, S) else if sn S 0 = 40 ∨ ¬ canR S (ix f) then (3, 0, S) else
  (0, nI (sn S 0), sa (su (su (su (su (su (su (su (su S 9 (sn S 0) f) 10 (sn S 0) sz) 11 (sn S 0) j) 12 (sn S 0) 1000) 13 (sn S 0) (sf S 17 2 + sf S 6 (ix j))) 14 (sn S 0) (sf S 17 2)) 15 (sn S 0) 0) 16 (sn S 0) 0) 0)
def o_hold (S : jS) (i v : Int32) : Nat × Int32 × jS := if bad i (sn S 0) then (1, 0, S) else if sf S 15 (ix i) ≠ 0 then (3, 0, S) else (0, b1 (sf S 16 (ix i) ≠ v), su S 16 (ix i) v)
def o_read (S : jS) (i : Int32) : Nat × Int32 × jS := if bad i (sn S 0) then (1, 0, S) else if sf S 15 (ix i) ≠ 0 ∨ ¬ canR S (fF S (ix i)) ∨ sf S 12 (ix i) < sf S 7 (fL S (ix i)) then (3, 0, S) else (0, sf S 17 2 - sf S 14 (ix i), su S 14 (ix i) (sf S 17 2))
/-- a file is taken along the best way -/
noncomputable def tk (S : jS) (i j : Nat) : jS := su (su (su S 17 1 (sf S 17 1 - sf S 10 i * bc (best S (fF S i) j))) 12 i (alg S (bw (best S (fF S i) j)) (sf S 12 i))) 9 i (nI j)
noncomputable def o_move (S : jS) (i f : Int32) : Nat × Int32 × jS := if bad i (sn S 0) ∨ bad f 10 then (1, 0, S) else if sf S 9 (ix i) = f then (2, 0, S) else
  if sf S 15 (ix i) ≠ 0 ∨ ¬ canR S (ix f) ∨ bq (best S (fF S (ix i)) (ix f)) = -1 ∨ sf S 17 1 < sf S 10 (ix i) * bc (best S (fF S (ix i)) (ix f)) then (3, 0, S) else (0, alg S (bw (best S (fF S (ix i)) (ix f))) (sf S 12 (ix i)), tk S (ix i) (ix f))
/-- one format more is looked at: (found, its quality, its cost) -/
noncomputable def hv1 (S : jS) (i : Nat) (t : Int32 × Int32 × Int32) (j : Nat) : Int32 × Int32 × Int32 :=
  if bq (best S (fF S i) j) ≠ -1 ∧ safe S i j ∧ sf S 7 (fL S i) ≤ alg S (bw (best S (fF S i) j)) (sf S 12 i) ∧ (t.2.1 < alg S (bw (best S (fF S i) j)) (sf S 12 i) ∨ (alg S (bw (best S (fF S i) j)) (sf S 12 i) = t.2.1 ∧ bc (best S (fF S i) j) < t.2.2))
  then (nI j, alg S (bw (best S (fF S i) j)) (sf S 12 i), bc (best S (fF S i) j)) else t
noncomputable def hv (S : jS) (i : Nat) : Int32 := if sf S 15 i = 0 then ((List.range 10).foldl (hv1 S i) (-1, -1, 0)).1 else -1
noncomputable def o_haven (S : jS) (i : Int32) : Nat × Int32 × jS := if bad i (sn S 0) then (1, 0, S) else (0, hv S (ix i), S)
def o_isSafe (S : jS) (i : Int32) : Nat × Int32 × jS := if bad i (sn S 0) then (1, 0, S) else (0, b1 (sf S 15 (ix i) = 0 ∧ safe S (ix i) (fF S (ix i))), S)
def o_get (S : jS) (a : Nat) (i : Int32) : Nat × Int32 × jS := if bad i (sn S 0) then (1, 0, S) else (0, sf S a (ix i), S)
def o_setBudget (S : jS) (b : Int32) : Nat × Int32 × jS := if b < 0 ∨ 1000000 < b then (2, 0, S) else (0, sf S 17 0, su S 17 0 b)
/-- how many files have a haven no more -/
noncomputable def lostHv (S S' : jS) : Nat → Nat
  | 0 => 0
  | i + 1 => lostHv S S' i + (if hv S i ≠ -1 ∧ hv S' i = -1 then 1 else 0)
noncomputable def o_withdraw (S : jS) (c : Int32) : Nat × Int32 × jS := if bad c (sn S 1) then (1, 0, S) else if sf S 5 (ix c) ≠ 0 then (3, 0, S) else (0, nI (lostHv S (su S 5 (ix c) 1) (sn S 0)), su S 5 (ix c) 1)
/-- a file when a year has begun -/
def ny (S : jS) (i : Nat) : Int32 := if sf S 15 i = 0 then (if sf S 13 i < sf S 17 2 ∧ sf S 16 i = 0 then 1 else if canR S (fF S i) then 0 else 2) else sf S 15 i
def nys (S : jS) : Nat → Nat × jS
  | 0 => (0, S)
  | i + 1 => ((nys S i).1 + (if sf S 15 i = 0 ∧ ny S i = 2 then 1 else 0), su (nys S i).2 15 i (ny S i))
def o_begin (S : jS) : Nat × Int32 × jS := if sf S 17 2 = 900 then (3, 0, S) else (0, nI (nys (su (su S 17 2 (sf S 17 2 + 1)) 17 1 (sf S 17 0)) (sn S 0)).1, (nys (su (su S 17 2 (sf S 17 2 + 1)) 17 1 (sf S 17 0)) (sn S 0)).2)
def odue (S : jS) : Nat → Nat
  | 0 => 0
  | i + 1 => odue S i + (if sf S 15 i = 0 ∧ sf S 14 i + sf S 8 (fL S i) < sf S 17 2 then 1 else 0)
/-- for how many years in one format -/
def span (S : jS) (j : Nat) : Int32 := if sf S 0 j = -1 ∨ 100 < sf S 0 j - sf S 17 2 then 100 else sf S 0 j - sf S 17 2
noncomputable def prm (S : jS) (a l : Nat) : Nat → Int32
  | 0 => 0
  | j + 1 => if bq (best S a j) ≠ -1 ∧ sf S 7 l ≤ bq (best S a j) ∧ prm S a l j < span S j then span S j else prm S a l j
noncomputable def o_promise (S : jS) (f j : Int32) : Nat × Int32 × jS := if bad f 10 ∨ bad j 5 then (1, 0, S) else (0, if canR S (ix f) then prm S (ix f) (ix j) 10 else 0, S)
/-- is a file due to be moved ahead -/
def due0 (S : jS) (i : Nat) : Prop := sf S 15 i = 0 ∧ ¬ safe S i (fF S i)
end
section
/-! WHAT A WRITE MAKES OF THE RELATIONS -/
/-- the converters are the same -/
def cK (S S' : jS) : Prop := sn S' 1 = sn S 1 ∧ ∀ a c, 1 ≤ a → a ≤ 5 → sf S' a c = sf S a c
theorem cK.rf {S : jS} : cK S S := ⟨rfl, fun _ _ _ _ => rfl⟩
theorem cK.tr {S S1 S2 : jS} (h : cK S S1) (h2 : cK S1 S2) : cK S S2 := ⟨h2.1.trans h.1, fun a c h3 h4 => (h2.2 a c h3 h4).trans (h.2 a c h3 h4)⟩
theorem cK_su {S : jS} {a i : Nat} {v : Int32} (h : a = 0 ∨ 5 < a) : cK S (su S a i v) := ⟨rfl, fun b c h1 h2 => by rw [sf_su, if_neg (fun q => by omega)]⟩
theorem okb_cK {S S' : jS} (h : cK S S') (c a : Nat) (vis : List Nat) : okb S' c a vis = okb S c a vis := by
  unfold okb
  rw [h.2 5 c (by omega) (by omega), h.2 1 c (by omega) (by omega), h.2 2 c (by omega) (by omega)]
theorem stQ_cK {S S' : jS} (h : cK S S') (c : Nat) (q : Int32) : stQ S' c q = stQ S c q := by
  unfold stQ
  rw [h.2 3 c (by omega) (by omega)]
theorem dfs_cK {S S' : jS} (h : cK S S') : ∀ (n a : Nat) (vis : List Nat) (q c : Int32) (w : List Nat) (T : jB), dfs S' n a vis q c w T = dfs S n a vis q c w T
  | 0, _, _, _, _, _, _ => rfl
  | n + 1, a, vis, q, c, w, T => by
    unfold dfs
    rw [h.1]
    congr 1
    funext T k
    rw [okb_cK h, h.2 2 k (by omega) (by omega), stQ_cK h, h.2 4 k (by omega) (by omega)]
    split
    · exact dfs_cK h n _ _ _ _ _ _
    · rfl
theorem best_cK {S S' : jS} (h : cK S S') : best S' = best S := funext fun a => dfs_cK h 10 a [a] 1000 0 [] _
theorem gq_cK {S S' : jS} (h : cK S S') (g : Nat) : ∀ (n a : Nat) (vis : List Nat) (q m : Int32), gq S' g n a vis q m = gq S g n a vis q m
  | 0, _, _, _, _ => rfl
  | n + 1, a, vis, q, m => by
    unfold gq
    rw [h.1]
    congr 1
    funext m k
    rw [okb_cK h, h.2 2 k (by omega) (by omega), stQ_cK h]
    split
    · exact gq_cK h g n _ _ _ _
    · rfl
theorem alg_cK {S S' : jS} (h : cK S S') (w : List Nat) (q : Int32) : alg S' w q = alg S w q := by
  unfold alg
  rw [show (fun (q : Int32) (c : Nat) => stQ S' c q) = fun q c => stQ S c q from funext fun q => funext fun c => stQ_cK h c q]
theorem nxt_cK {S S' : jS} (h : cK S S') (a k : Nat) : nxt S' a k = nxt S a k := by
  unfold nxt
  rw [h.1]
  congr 1
  funext c
  rw [h.2 1 c (by omega) (by omega)]
theorem lst_cK {S S' : jS} (h : cK S S') (a : Nat) : lst S' a = lst S a := by
  unfold lst
  rw [h.1]
  congr 1
  funext c
  rw [h.2 1 c (by omega) (by omega)]
theorem xR_gen {S S' : jS} {μ μ' : jM} (h : xR S μ) (hc : cK S S') (hn : sn S' 0 = sn S 0) (hN : mN μ' = mN μ) (hP : mP μ' = mP μ) (hk : ∀ kd y z, kd = 4 ∨ kd = 11 ∨ kd = 13 ∨ kd = 14 ∨ kd = 15 ∨ kd = 16 ∨ kd = 18 → mI μ' kd y z = mI μ kd y z) (h11 : ∀ i, sf S' 11 i = sf S 11 i)
    (h0 : mI μ' 0 0 4 = nI (sn S 0) ∧ mI μ' 0 0 5 = sf S' 17 2 ∧ mI μ' 0 0 6 = sf S' 17 0 ∧ mI μ' 0 0 7 = sf S' 17 1) (h1 : ∀ j, j < 10 → mI μ' 1 0 j = sf S' 0 j) (h10 : ∀ j, j < 5 → mI μ' 10 j 0 = sf S' 6 j ∧ mI μ' 10 j 1 = sf S' 7 j ∧ mI μ' 10 j 2 = sf S' 8 j)
    (h12 : ∀ i, i < sn S 0 → mI μ' 12 i 0 = sf S' 10 i ∧ mI μ' 12 i 2 = sf S' 13 i ∧ mI μ' 12 i 3 = sf S' 9 i ∧ mI μ' 12 i 4 = sf S' 12 i ∧ mI μ' 12 i 5 = sf S' 14 i ∧ mI μ' 12 i 6 = sf S' 15 i ∧ mI μ' 12 i 7 = sf S' 16 i) : xR S' μ' := by
  refine ⟨by rw [hN, hP]; exact h.B, ⟨by rw [hN, hn]; exact h.n12, by rw [hN, hc.1]; exact h.n13, by rw [hn]; exact h0.1, by rw [hk _ _ _ (by omega), hc.1]; exact h.nc⟩, h0.2, h1, h10, fun i hi => ?_, fun c hc9 => ?_, ⟨fun a ha => ?_, fun c a hc9 ha hf => ?_⟩, fun a ha => ?_⟩
  · rw [hn] at hi
    refine ⟨h12 i hi, ?_⟩
    rw [h11, hP]
    exact h.flw hi
  · rw [hc.1] at hc9
    simp only [hk 13 _ _ (by omega), hc.2 1 c (by omega) (by omega), hc.2 2 c (by omega) (by omega), hc.2 3 c (by omega) (by omega), hc.2 4 c (by omega) (by omega), hc.2 5 c (by omega) (by omega)]
    exact ⟨h.cnum hc9, h.cfr hc9, h.cto hc9, h.clo hc9, h.cco hc9, h.cwd hc9⟩
  · rw [hP, nxt_cK hc, lst_cK hc]
    exact ⟨h.low ha, h.high ha⟩
  · rw [hP, nxt_cK hc]
    rw [hc.1] at hc9
    rw [hc.2 1 c (by omega) (by omega)] at hf
    exact h.next hc9 ha hf
  · rw [hk 11 _ _ (by omega), best_cK hc]
    refine (h.cache ha).imp id (fun q => ⟨q.1, fun b hb => ?_⟩)
    simp only [hk 14 _ _ (by omega), hk 15 _ _ (by omega), hk 16 _ _ (by omega), hk 18 _ _ (by omega)]
    exact q.2 b hb
/-- of many: the one that is written -/
theorem upj {x y a b c : Nat} {v w : Int32} {f : Int32} (h : f = w) : (if x = a ∧ y = b then v else f) = if x = a ∧ y = b then v else w := by rw [h]
section UPD
variable {S : jS} {μ : jM} {v : Int32}
theorem xR_last (h : xR S μ) {j : Nat} (hj : j < 10) : xR (su S 0 j v) (sI μ 1 0 j v) := by
  refine xR_gen h (cK_su (Or.inl rfl)) rfl rfl rfl (fun kd y z hk => mI_sI_n μ 1 0 j v (fun q => by omega)) (fun i => by simp [sf_su]) ?_ (fun i hi => ?_) (fun i hi => ?_) (fun i hi => ?_)
  · simp [mI_sI, sf_su, h.fc, h.now, h.bud, h.uns]
  · rw [mI_sI, sf_su, h.last hi]
    simp
  · simp [mI_sI, sf_su, h.ly hi, h.ll hi, h.lr hi]
  · simp [mI_sI, sf_su, h.fsz hi, h.fen hi, h.ffm hi, h.fq hi, h.frd hi, h.fst hi, h.fhl hi]
theorem xR_law {a f : Nat} (h : xR S μ) {j : Nat} (hj : j < 5) (ha : (a = 6 ∧ f = 0) ∨ (a = 7 ∧ f = 1) ∨ (a = 8 ∧ f = 2)) : xR (su S a j v) (sI μ 10 j f v) := by
  rcases ha with ⟨rfl, rfl⟩ | ⟨rfl, rfl⟩ | ⟨rfl, rfl⟩ <;>
  · refine xR_gen h (cK_su (by omega)) rfl rfl rfl (fun kd y z hk => mI_sI_n μ 10 j _ v (fun q => by omega)) (fun i => by simp [sf_su]) ?_ (fun i hi => ?_) (fun i hi => ?_) (fun i hi => ?_)
    · simp [mI_sI, sf_su, h.fc, h.now, h.bud, h.uns]
    · simp [mI_sI, sf_su, h.last hi]
    · simp [mI_sI, sf_su, h.ly hi, h.ll hi, h.lr hi]
    · simp [mI_sI, sf_su, h.fsz hi, h.fen hi, h.ffm hi, h.fq hi, h.frd hi, h.fst hi, h.fhl hi]
theorem xR_file {a f : Nat} (h : xR S μ) {j : Nat} (ha : (a = 9 ∧ f = 3) ∨ (a = 12 ∧ f = 4) ∨ (a = 14 ∧ f = 5) ∨ (a = 15 ∧ f = 6) ∨ (a = 16 ∧ f = 7)) : xR (su S a j v) (sI μ 12 j f v) := by
  rcases ha with ⟨rfl, rfl⟩ | ⟨rfl, rfl⟩ | ⟨rfl, rfl⟩ | ⟨rfl, rfl⟩ | ⟨rfl, rfl⟩ <;>
  · refine xR_gen h (cK_su (by omega)) rfl rfl rfl (fun kd y z hk => mI_sI_n μ 12 j _ v (fun q => by omega)) (fun i => by simp [sf_su]) ?_ (fun i hi => ?_) (fun i hi => ?_) (fun i hi => ?_)
    · simp [mI_sI, sf_su, h.fc, h.now, h.bud, h.uns]
    · simp [mI_sI, sf_su, h.last hi]
    · simp [mI_sI, sf_su, h.ly hi, h.ll hi, h.lr hi]
    · simp [mI_sI, sf_su, h.fsz hi, h.fen hi, h.ffm hi, h.fq hi, h.frd hi, h.fst hi, h.fhl hi]
theorem xR_vault {a f : Nat} (h : xR S μ) (ha : (a = 0 ∧ f = 6) ∨ (a = 1 ∧ f = 7) ∨ (a = 2 ∧ f = 5)) : xR (su S 17 a v) (sI μ 0 0 f v) := by
  rcases ha with ⟨rfl, rfl⟩ | ⟨rfl, rfl⟩ | ⟨rfl, rfl⟩ <;>
  · refine xR_gen h (cK_su (by omega)) rfl rfl rfl (fun kd y z hk => mI_sI_n μ 0 0 _ v (fun q => by omega)) (fun i => by simp [sf_su]) ?_ (fun i hi => ?_) (fun i hi => ?_) (fun i hi => ?_)
    · simp [mI_sI, sf_su, h.fc, h.now, h.bud, h.uns]
    · simp [mI_sI, sf_su, h.last hi]
    · simp [mI_sI, sf_su, h.ly hi, h.ll hi, h.lr hi]
    · simp [mI_sI, sf_su, h.fsz hi, h.fen hi, h.ffm hi, h.fq hi, h.frd hi, h.fst hi, h.fhl hi]
theorem sl_cn {S S' : jS} (h0 : sn S' 0 = sn S 0) (h1 : sn S' 1 = sn S 1) (a : Nat) : sl S' a = sl S a := by
  unfold sl
  rw [h0, h1]
theorem mR_gen {S S' : jS} {μ μ' : jM} (h : mR S μ) (hc : cK S S') (hn : sn S' 0 = sn S 0) (hN : mN μ' = mN μ) (hP : mP μ' = mP μ) (hk : ∀ kd y z, kd = 40 ∨ kd = 41 ∨ kd = 42 ∨ kd = 43 ∨ kd = 49 → mI μ' kd y z = mI μ kd y z)
    (h0 : mI μ' 20 0 29 = nI (sn S 1) ∧ mI μ' 20 0 30 = nI (sn S 0) ∧ mI μ' 20 0 31 = sf S' 17 0 ∧ mI μ' 20 0 32 = sf S' 17 1 ∧ mI μ' 20 0 33 = sf S' 17 2) (h34 : mI μ' 20 0 34 = mI μ 20 0 34) (hv : ∀ a i, a ≤ 16 → i < sl S a → mI μ' (21 + a) 0 i = sf S' a i) : mR S' μ' := by
  refine ⟨by rw [hN, hP]; exact h.B, by rw [hn, hc.1]; exact h0, fun a i ha hi => hv a i ha (by rw [← sl_cn hn hc.1]; exact hi), ?_, fun j hj => by rw [hk _ _ _ (by omega)]; exact h.on hj⟩
  rw [h34, best_cK hc]
  refine h.found.imp id (fun q => ⟨q.1, fun a ha b hb => ?_⟩)
  simp only [hk 40 _ _ (by omega), hk 41 _ _ (by omega), hk 42 _ _ (by omega), hk 43 _ _ (by omega)]
  exact q.2 a ha b hb
theorem mR_v {a j : Nat} (h : mR S μ) (k : Nat) (hk : 21 + a = k) (ha : a = 0 ∨ (5 < a ∧ a ≤ 16)) : mR (su S a j v) (sI μ k 0 j v) := by
  subst hk
  refine mR_gen h (cK_su (by omega)) rfl rfl rfl (fun kd y z hk => mI_sI_n μ _ 0 j v (fun q => by omega)) ?_ (mI_sI_n μ _ 0 j v (fun q => by omega)) (fun b i hb hi => ?_)
  · have e2 : ∀ z, sf (su S a j v) 17 z = sf S 17 z := fun z => by rw [sf_su, if_neg (fun q => by omega)]
    rw [mI_sI_n μ _ _ _ v (fun q => by omega), mI_sI_n μ _ _ _ v (fun q => by omega), mI_sI_n μ _ _ _ v (fun q => by omega), mI_sI_n μ _ _ _ v (fun q => by omega), mI_sI_n μ _ _ _ v (fun q => by omega), e2, e2, e2]
    exact ⟨h.nc, h.nf, h.bud, h.rest, h.now⟩
  · rw [mI_sI, sf_su, h.v b hb rfl hi]
    by_cases e : b = a
    · simp [e]
    · have e2 : ¬ (21 + b = 21 + a ∧ 0 = 0 ∧ i = j) := fun q => e (by omega)
      have e3 : ¬ (b = a ∧ i = j) := fun q => e q.1
      rw [if_neg e2, if_neg e3]
theorem mR_s {a f : Nat} (h : mR S μ) (ha : (a = 0 ∧ f = 31) ∨ (a = 1 ∧ f = 32) ∨ (a = 2 ∧ f = 33)) : mR (su S 17 a v) (sI μ 20 0 f v) := by
  rcases ha with ⟨rfl, rfl⟩ | ⟨rfl, rfl⟩ | ⟨rfl, rfl⟩ <;>
  · refine mR_gen h (cK_su (by omega)) rfl rfl rfl (fun kd y z hk => mI_sI_n μ _ 0 _ v (fun q => by omega)) ?_ (mI_sI_n μ _ 0 _ v (fun q => by omega)) (fun b i hb hi => ?_)
    · simp [mI_sI, sf_su, h.nc, h.nf, h.bud, h.rest, h.now]
    · rw [mI_sI_n μ _ 0 _ v (fun q => by omega), sf_su, if_neg (fun q => by omega)]
      exact h.v b hb rfl hi
/-- a number of the reference's that tells nothing of S -/
theorem mR_x {kd i z : Nat} (h : mR S μ) (hk : (kd = 20 ∧ z = 35) ∨ kd = 38 ∨ kd = 39 ∨ (44 ≤ kd ∧ kd ≤ 48)) : mR S (sI μ kd i z v) := by
  refine mR_gen h cK.rf rfl rfl rfl (fun k9 y z9 hk9 => mI_sI_n μ _ _ _ v (fun q => by omega)) ?_ (mI_sI_n μ _ _ _ v (fun q => by omega)) (fun b j hb hj => ?_)
  · rw [mI_sI_n μ _ _ _ v (fun q => by omega), mI_sI_n μ _ _ _ v (fun q => by omega), mI_sI_n μ _ _ _ v (fun q => by omega), mI_sI_n μ _ _ _ v (fun q => by omega), mI_sI_n μ _ _ _ v (fun q => by omega)]
    exact ⟨h.nc, h.nf, h.bud, h.rest, h.now⟩
  · rw [mI_sI_n μ _ _ _ v (fun q => by omega)]
    exact h.v b hb rfl hj
end UPD
end
section
/-! CONTRACTS OF THE JDK's OWN METHODS: as jMet_of, but by the natives' table -/
theorem jMet_ofF {l : Launch} (hst : l.stackTraces = false) {y : MethodName} {cc : ByteArray} {nL : Nat} {rt : Option FieldType} {fr lo mc ms : Nat} {pre : List jV → jM → Prop} {ret : List jV → jM → Option jV → jM → Prop} {thr : List jV → jM → String → jM → Prop} (hy : plainFor y = true)
    (body : ∀ (avs : List jV) (μ : jM) (J : Nat → List (Option jV) → List jV → jM → Nat → Nat → Prop), jCtx l J cc nL y.cls { frames := fr, cells := mc, slots := ms, locals := lo } rt 0 [] (ret avs μ) (thr avs μ) mc ms → (∀ v ∈ avs, jL μ v) → pre avs μ → (jAr avs).length ≤ nL ∧ J 0 (jAr avs ++ List.replicate (nL - (jAr avs).length) none) [] μ 0 0) : jMet l y cc nL rt fr lo mc ms pre ret thr := by
  intro D cm ad μ avs sz hav hpre
  refine MetFree.of_bodySF (code := cc) (maxLocals := nL) (ret := rt) hy ?_ ?_
  · intro args s m h hn
    obtain ⟨meth, c, h1, h2, h3, h4, h5, h6, -, -⟩ := Cond.code_spec hn (atoms_spec (ws := [Cond.code y cc nL rt]) h _ List.mem_cons_self)
    exact ⟨meth, c, h1, h2, h3, h4, h5, h6⟩
  · intro p e s m args below meth c s₁ B hml hP _
    have hsz : s.heap.size = sz := hP.2.1
    subst hsz
    have hh0 : s₁.heap = s.heap := by rw [B.state]; rfl
    have ht : ∀ x ∈ c.exceptionTable.toList, False := by
      obtain ⟨meth9, c9, h1, h2, -, -, -, -, h7, -⟩ := Cond.code_spec B.named (atoms_spec (ws := [Cond.code y cc nL rt]) B.pre _ List.mem_cons_self)
      cases Option.some.inj (h1.symm.trans B.method)
      cases Option.some.inj (h2.symm.trans (Stand.of_body B).code)
      intro x hx
      rw [Array.isEmpty_iff.mp h7] at hx
      cases hx
    obtain ⟨h1, h2⟩ := body avs μ _ ⟨p, e, s, m, args, below, meth, c, D, cm, ad, μ, _, rfl, B.exec, B.bytes, hml, B.returns, findClass_of_methodNamed B.named, B.notSynchronized, hP.2.2.2, hst, ht, rfl⟩ hav hpre
    obtain ⟨t, a1, o, b1, b2, b3⟩ := jent hP hav h1 h2 s₁ hh0 (Stand.of_body B)
    exact ⟨t, o, a1, b1, b2, b3⟩
theorem pf_max : plainFor yJ9_max_7cf53 = true := by decide +kernel
theorem pf_min : plainFor yJ9_min_7cf53 = true := by decide +kernel
theorem pf_bc : plainFor yJ13_bitCount_95d88 = true := by decide +kernel
end
section
/-! SMALL METHODS -/
theorem bad_no {x : Int32} {n : Nat} (h : ¬ x < 0) (h2 : x < nI n) : ¬ bad x n := by
  rintro (h3 | h3)
  · exact h h3
  · exact absurd h2 (Int32.not_lt.mpr h3)
theorem bad_hi {x : Int32} {n : Nat} (h : ¬ x < nI n) : bad x n := Or.inr (Int32.not_lt.mp h)
theorem thr_of {o : Nat × Int32 × jS} {S : jS} {μ μ' : jM} {c : Nat} {v : Int32} {S' : jS} (ho : o = (c, v, S')) (hc : c ≠ 0) (hR : xR S μ') (hF : xF μ μ') : o.1 ≠ 0 ∧ exn c = exn o.1 ∧ xR S μ' ∧ xF μ μ' := by
  subst ho
  exact ⟨hc, rfl, hR, hF⟩
theorem ret_of {o : Nat × Int32 × jS} {μ μ' : jM} {v : Int32} {S' : jS} (ho : o = (0, v, S')) (hR : xR S' μ') (hF : xF μ μ') : o.1 = 0 ∧ (some (aI v) : Option jV) = some (aI o.2.1) ∧ xR o.2.2 μ' ∧ xF μ μ' := by
  subst ho
  exact ⟨rfl, rfl, hR, hF⟩
theorem retv_of {o : Nat × Int32 × jS} {μ μ' : jM} {v : Int32} {S' : jS} (ho : o = (0, v, S')) (hR : xR S' μ') (hF : xF μ μ') : o.1 = 0 ∧ xR o.2.2 μ' ∧ xF μ μ' := by
  subst ho
  exact ⟨rfl, hR, hF⟩

set_option maxRecDepth 20000 in
theorem c_X5_requireFormat {l : Launch} (hst : l.stackTraces = false) (f : Int32) : jMet l yX5_requireFormat cX5_requireFormat 1 none 6 100 1 6 (fun avs μ => avs = [aI f]) (fun avs μ r μ' => ¬ bad f 10 ∧ r = none ∧ μ' = μ) (fun avs μ E μ' => bad f 10 ∧ E = exn 1 ∧ μ' = μ) := by
  refine jMet_of hst (by decide) ?_
  intro avs μ J C hav hpre
  subst hpre
  refine ⟨Nat.le_of_ble_eq_true rfl, ?_⟩
  show J 0 [some (aI f)] [] μ 0 0
  refine mj_iload_n (pc' := 1) C dX5_requireFormat_0 rfl rfl ?_
  refine mj_if_lt (tgt := 10) (pc' := 4) C dX5_requireFormat_1 (by decide) rfl (fun h1 => ?_) (fun h1 => ?_)
  · refine mj_throw C (text := "there is no such format") (names := ["java/lang/RuntimeException", "java/lang/Exception"]) dX5_requireFormat_10 dX5_requireFormat_13 dX5_requireFormat_14 dX5_requireFormat_16 dX5_requireFormat_19 rfl rfl kl_X5_78 kn_IOOBE thrw_1 thrk_1 (by decide) (by decide) (by decide) (by decide) (by decide) (by decide) (by decide) ?_
    first | exact ⟨Or.inl h1, rfl, rfl⟩ | exact ⟨bad_hi h7, rfl, rfl⟩
  · refine mj_iload_n (pc' := 5) C dX5_requireFormat_4 rfl rfl ?_
    refine mj_bipush (pc' := 7) (v := 10) C dX5_requireFormat_5 rfl rfl ?_
    refine mj_icmp_lt (tgt := 20) (pc' := 10) C dX5_requireFormat_7 (by decide) rfl (fun h7 => ?_) (fun h7 => ?_)
    · refine mj_vret C dX5_requireFormat_20 (by decide) (by decide) (by decide) ?_
      exact ⟨bad_no h1 h7, rfl, rfl⟩
    · refine mj_throw C (text := "there is no such format") (names := ["java/lang/RuntimeException", "java/lang/Exception"]) dX5_requireFormat_10 dX5_requireFormat_13 dX5_requireFormat_14 dX5_requireFormat_16 dX5_requireFormat_19 rfl rfl kl_X5_78 kn_IOOBE thrw_1 thrk_1 (by decide) (by decide) (by decide) (by decide) (by decide) (by decide) (by decide) ?_
      first | exact ⟨Or.inl h1, rfl, rfl⟩ | exact ⟨bad_hi h7, rfl, rfl⟩

set_option maxRecDepth 20000 in
theorem c_X5_requireRange {l : Launch} (hst : l.stackTraces = false) (v a b : Int32) : jMet l yX5_requireRange cX5_requireRange 3 none 6 100 1 6 (fun avs μ => avs = [aI v, aI a, aI b]) (fun avs μ r μ' => (a ≤ v ∧ v ≤ b) ∧ r = none ∧ μ' = μ) (fun avs μ E μ' => (v < a ∨ b < v) ∧ E = exn 2 ∧ μ' = μ) := by
  refine jMet_of hst (by decide) ?_
  intro avs μ J C hav hpre
  subst hpre
  refine ⟨Nat.le_of_ble_eq_true rfl, ?_⟩
  show J 0 [some (aI v), some (aI a), some (aI b)] [] μ 0 0
  refine mj_iload_n (pc' := 1) C dX5_requireRange_0 rfl rfl ?_
  refine mj_iload_n (pc' := 2) C dX5_requireRange_1 rfl rfl ?_
  refine mj_icmp_lt (tgt := 10) (pc' := 5) C dX5_requireRange_2 (by decide) rfl (fun h2 => ?_) (fun h2 => ?_)
  · refine mj_throw C (text := "an argument is out of its range") (names := ["java/lang/RuntimeException", "java/lang/Exception"]) dX5_requireRange_10 dX5_requireRange_13 dX5_requireRange_14 dX5_requireRange_16 dX5_requireRange_19 rfl rfl kl_X5_54 kn_IAE thrw_2 thrk_2 (by decide) (by decide) (by decide) (by decide) (by decide) (by decide) (by decide) ?_
    first | exact ⟨Or.inl h2, rfl, rfl⟩ | exact ⟨Or.inr (Int32.not_le.mp h7), rfl, rfl⟩
  · refine mj_iload_n (pc' := 6) C dX5_requireRange_5 rfl rfl ?_
    refine mj_iload_n (pc' := 7) C dX5_requireRange_6 rfl rfl ?_
    refine mj_icmp_le (tgt := 20) (pc' := 10) C dX5_requireRange_7 (by decide) rfl (fun h7 => ?_) (fun h7 => ?_)
    · refine mj_vret C dX5_requireRange_20 (by decide) (by decide) (by decide) ?_
      exact ⟨⟨Int32.not_lt.mp h2, h7⟩, rfl, rfl⟩
    · refine mj_throw C (text := "an argument is out of its range") (names := ["java/lang/RuntimeException", "java/lang/Exception"]) dX5_requireRange_10 dX5_requireRange_13 dX5_requireRange_14 dX5_requireRange_16 dX5_requireRange_19 rfl rfl kl_X5_54 kn_IAE thrw_2 thrk_2 (by decide) (by decide) (by decide) (by decide) (by decide) (by decide) (by decide) ?_
      first | exact ⟨Or.inl h2, rfl, rfl⟩ | exact ⟨Or.inr (Int32.not_le.mp h7), rfl, rfl⟩

set_option maxRecDepth 20000 in
theorem c_J9_max_7cf53 {l : Launch} (hst : l.stackTraces = false) (a b : Int32) : jMet l yJ9_max_7cf53 cJ9_max_7cf53 2 (some FieldType.int) 6 100 0 0 (fun avs μ => avs = [aI a, aI b]) (fun avs μ r μ' => r = some (aI (imax a b)) ∧ μ' = μ) (fun avs μ E μ' => False) := by
  refine jMet_ofF hst pf_max ?_
  intro avs μ J C hav hpre
  subst hpre
  refine ⟨Nat.le_of_ble_eq_true rfl, ?_⟩
  show J 0 [some (aI a), some (aI b)] [] μ 0 0
  refine mj_iload_n (pc' := 1) C dJ9_max_7cf53_0 rfl rfl ?_
  refine mj_iload_n (pc' := 2) C dJ9_max_7cf53_1 rfl rfl ?_
  refine mj_icmp_lt (tgt := 9) (pc' := 5) C dJ9_max_7cf53_2 (by decide) rfl (fun h2 => ?_) (fun h2 => ?_)
  · refine mj_iload_n (pc' := 10) C dJ9_max_7cf53_9 rfl rfl ?_
    refine mj_iret C dJ9_max_7cf53_10 (by decide) (by decide) (by decide) ?_
    exact ⟨by unfold imax; first | rw [if_pos h2] | rw [if_neg h2], rfl⟩
  · refine mj_iload_n (pc' := 6) C dJ9_max_7cf53_5 rfl rfl ?_
    refine mj_goto (pc' := 10) C dJ9_max_7cf53_6 (by decide) ?_
    refine mj_iret C dJ9_max_7cf53_10 (by decide) (by decide) (by decide) ?_
    exact ⟨by unfold imax; first | rw [if_pos h2] | rw [if_neg h2], rfl⟩

set_option maxRecDepth 20000 in
theorem c_J9_min_7cf53 {l : Launch} (hst : l.stackTraces = false) (a b : Int32) : jMet l yJ9_min_7cf53 cJ9_min_7cf53 2 (some FieldType.int) 6 100 0 0 (fun avs μ => avs = [aI a, aI b]) (fun avs μ r μ' => r = some (aI (imin a b)) ∧ μ' = μ) (fun avs μ E μ' => False) := by
  refine jMet_ofF hst pf_min ?_
  intro avs μ J C hav hpre
  subst hpre
  refine ⟨Nat.le_of_ble_eq_true rfl, ?_⟩
  show J 0 [some (aI a), some (aI b)] [] μ 0 0
  refine mj_iload_n (pc' := 1) C dJ9_min_7cf53_0 rfl rfl ?_
  refine mj_iload_n (pc' := 2) C dJ9_min_7cf53_1 rfl rfl ?_
  refine mj_icmp_gt (tgt := 9) (pc' := 5) C dJ9_min_7cf53_2 (by decide) rfl (fun h2 => ?_) (fun h2 => ?_)
  · refine mj_iload_n (pc' := 10) C dJ9_min_7cf53_9 rfl rfl ?_
    refine mj_iret C dJ9_min_7cf53_10 (by decide) (by decide) (by decide) ?_
    exact ⟨by unfold imin; first | rw [if_pos h2] | rw [if_neg h2], rfl⟩
  · refine mj_iload_n (pc' := 6) C dJ9_min_7cf53_5 rfl rfl ?_
    refine mj_goto (pc' := 10) C dJ9_min_7cf53_6 (by decide) ?_
    refine mj_iret C dJ9_min_7cf53_10 (by decide) (by decide) (by decide) ?_
    exact ⟨by unfold imin; first | rw [if_pos h2] | rw [if_neg h2], rfl⟩

set_option maxRecDepth 20000 in
theorem c_X5_requireKept {l : Launch} (hst : l.stackTraces = false) (S : jS) (i : Nat) : jMet l yX5_requireKept cX5_requireKept 1 none 6 100 1 6 (fun avs μ => avs = [aR 12 i] ∧ xR S μ ∧ i < sn S 0) (fun avs μ r μ' => sf S 15 i = 0 ∧ r = none ∧ μ' = μ) (fun avs μ E μ' => sf S 15 i ≠ 0 ∧ E = exn 3 ∧ μ' = μ) := by
  refine jMet_of hst (by decide) ?_
  intro avs μ J C hav hpre
  obtain ⟨rfl, hR, hi⟩ := hpre
  refine ⟨Nat.le_of_ble_eq_true rfl, ?_⟩
  show J 0 [some (aR 12 i)] [] μ 0 0
  refine mj_aload_n (pc' := 1) C dX5_requireKept_0 rfl rfl ?_
  refine mj_getV (pc' := 4) C dX5_requireKept_1 rfl (ci := 4) (f := 6) rfl (by decide) (by decide) (fun _ => rfl) (by decide) kf_X5_203 (hR.l12 (by first | assumption | omega)) (hR.fst (by first | assumption | omega)) ?_
  refine mj_if_eq (tgt := 17) (pc' := 7) C dX5_requireKept_4 (by decide) rfl (fun h4 => ?_) (fun h4 => ?_)
  · refine mj_vret C dX5_requireKept_17 (by decide) (by decide) (by decide) ?_
    exact ⟨h4, rfl, rfl⟩
  · refine mj_throw C (text := "the file is not kept") (names := ["java/lang/RuntimeException", "java/lang/Exception"]) dX5_requireKept_7 dX5_requireKept_10 dX5_requireKept_11 dX5_requireKept_13 dX5_requireKept_16 rfl rfl kl_X5_64 kn_ISE thrw_3 thrk_3 (by decide) (by decide) (by decide) (by decide) (by decide) (by decide) (by decide) ?_
    exact ⟨h4, rfl, rfl⟩

set_option maxRecDepth 20000 in
theorem c_X5_isReadable {l : Launch} (hst : l.stackTraces = false) (S : jS) (j : Nat) : jMet l yX5_isReadable cX5_isReadable 2 (some FieldType.boolean) 6 100 0 0 (fun avs μ => avs = [aR 0 0, aI (nI j)] ∧ xR S μ ∧ j < 10) (fun avs μ r μ' => r = some (aI (b1 (canR S j))) ∧ μ' = μ) (fun avs μ E μ' => False) := by
  refine jMet_of hst (by decide) ?_
  intro avs μ J C hav hpre
  obtain ⟨rfl, hR, hj⟩ := hpre
  refine ⟨Nat.le_of_ble_eq_true rfl, ?_⟩
  show J 0 [some (aR 0 0), some (aI (nI j))] [] μ 0 0
  refine mj_aload_n (pc' := 1) C dX5_isReadable_0 rfl rfl ?_
  refine mj_getR (pc' := 4) C dX5_isReadable_1 rfl (ci := 5) (f := 0) rfl (by decide) (by decide) (fun _ => rfl) (by decide) kf_X5_9 hR.B.l0 hR.B.p00 ?_
  refine mj_iload_n (pc' := 5) C dX5_isReadable_4 rfl rfl ?_
  refine mj_ialdV (pc' := 6) C dX5_isReadable_5 rfl rfl (by decide) (by decide) hR.B.l1 rfl (by first | assumption | omega) (hR.last (by first | assumption | omega)) ?_
  refine mj_iconst (pc' := 7) (v := (-1)) C dX5_isReadable_6 rfl rfl ?_
  refine mj_icmp_eq (tgt := 23) (pc' := 10) C dX5_isReadable_7 (by decide) rfl (fun h7 => ?_) (fun h7 => ?_)
  · refine mj_iconst (pc' := 24) (v := 1) C dX5_isReadable_23 rfl rfl ?_
    refine mj_goto (pc' := 28) C dX5_isReadable_24 (by decide) ?_
    refine mj_zret C (by first | exact b1_and | rfl) dX5_isReadable_28 (by decide) (by decide) (by decide) ?_
    first | exact ⟨b1r_t (Or.inl h7), rfl⟩ | exact ⟨b1r_t (Or.inr (Int32.not_lt.mp h20)), rfl⟩ | exact ⟨b1r_f (fun h => h.elim h7 (fun h => absurd h20 (Int32.not_lt.mpr h))), rfl⟩
  · refine mj_aload_n (pc' := 11) C dX5_isReadable_10 rfl rfl ?_
    refine mj_getR (pc' := 14) C dX5_isReadable_11 rfl (ci := 5) (f := 0) rfl (by decide) (by decide) (fun _ => rfl) (by decide) kf_X5_9 hR.B.l0 hR.B.p00 ?_
    refine mj_iload_n (pc' := 15) C dX5_isReadable_14 rfl rfl ?_
    refine mj_ialdV (pc' := 16) C dX5_isReadable_15 rfl rfl (by decide) (by decide) hR.B.l1 rfl (by first | assumption | omega) (hR.last (by first | assumption | omega)) ?_
    refine mj_aload_n (pc' := 17) C dX5_isReadable_16 rfl rfl ?_
    refine mj_getV (pc' := 20) C dX5_isReadable_17 rfl (ci := 5) (f := 5) rfl (by decide) (by decide) (fun _ => rfl) (by decide) kf_X5_44 hR.B.l0 hR.now ?_
    refine mj_icmp_lt (tgt := 27) (pc' := 23) C dX5_isReadable_20 (by decide) rfl (fun h20 => ?_) (fun h20 => ?_)
    · refine mj_iconst (pc' := 28) (v := 0) C dX5_isReadable_27 rfl rfl ?_
      refine mj_zret C (by first | exact b1_and | rfl) dX5_isReadable_28 (by decide) (by decide) (by decide) ?_
      first | exact ⟨b1r_t (Or.inl h7), rfl⟩ | exact ⟨b1r_t (Or.inr (Int32.not_lt.mp h20)), rfl⟩ | exact ⟨b1r_f (fun h => h.elim h7 (fun h => absurd h20 (Int32.not_lt.mpr h))), rfl⟩
    · refine mj_iconst (pc' := 24) (v := 1) C dX5_isReadable_23 rfl rfl ?_
      refine mj_goto (pc' := 28) C dX5_isReadable_24 (by decide) ?_
      refine mj_zret C (by first | exact b1_and | rfl) dX5_isReadable_28 (by decide) (by decide) (by decide) ?_
      first | exact ⟨b1r_t (Or.inl h7), rfl⟩ | exact ⟨b1r_t (Or.inr (Int32.not_lt.mp h20)), rfl⟩ | exact ⟨b1r_f (fun h => h.elim h7 (fun h => absurd h20 (Int32.not_lt.mpr h))), rfl⟩

set_option maxRecDepth 20000 in
theorem c_X5_requireReadable {l : Launch} (hst : l.stackTraces = false) (S : jS) (j : Nat) : jMet l yX5_requireReadable cX5_requireReadable 2 none 7 140 1 6 (fun avs μ => avs = [aR 0 0, aI (nI j)] ∧ xR S μ ∧ j < 10) (fun avs μ r μ' => canR S j ∧ r = none ∧ μ' = μ) (fun avs μ E μ' => ¬ canR S j ∧ E = exn 3 ∧ μ' = μ) := by
  refine jMet_of hst (by decide) ?_
  intro avs μ J C hav hpre
  obtain ⟨rfl, hR, hj⟩ := hpre
  refine ⟨Nat.le_of_ble_eq_true rfl, ?_⟩
  show J 0 [some (aR 0 0), some (aI (nI j))] [] μ 0 0
  refine mj_aload_n (pc' := 1) C dX5_requireReadable_0 rfl rfl ?_
  refine mj_iload_n (pc' := 2) C dX5_requireReadable_1 rfl rfl ?_
  refine mj_callVN_1 (ci := 5) (pc' := 5) C (c_X5_isReadable hst S j) dX5_requireReadable_2 rfl km_X5_219 ki_yX5_isReadable kz_yX5_isReadable kn_X5 kc_yX5_isReadable rfl (by decide) (by decide) ⟨rfl, by decide, by decide, by decide +kernel⟩ ⟨by decide, by decide⟩ (by decide) ⟨by decide, by decide⟩ ⟨rfl, hR, hj⟩ (fun r2 μ2 hq2 hm2 => ?_) (fun _ _ h9 => h9)
  obtain ⟨rfl, rfl⟩ := hq2
  dsimp only [Option.toList, List.nil_append, List.cons_append]
  refine mj_if_ne (tgt := 18) (pc' := 8) C dX5_requireReadable_5 (by decide) rfl (fun h5 => ?_) (fun h5 => ?_)
  · refine mj_vret C dX5_requireReadable_18 (by decide) (by decide) (by decide) ?_
    exact ⟨b1_n h5, rfl, rfl⟩
  · refine mj_throw C (text := "the format cannot be read any more") (names := ["java/lang/RuntimeException", "java/lang/Exception"]) dX5_requireReadable_8 dX5_requireReadable_11 dX5_requireReadable_12 dX5_requireReadable_14 dX5_requireReadable_17 rfl rfl kl_X5_64 kn_ISE thrw_3 thrk_3 (by decide) (by decide) (by decide) (by decide) (by decide) (by decide) (by decide) ?_
    exact ⟨b1_0.mp (h5), rfl, rfl⟩

set_option maxRecDepth 20000 in
theorem c_X5_lawAt {l : Launch} (hst : l.stackTraces = false) (S : jS) (x : Int32) : jMet l yX5_lawAt cX5_lawAt 2 (some (FieldType.object "FormatVault$Law")) 6 100 1 6 (fun avs μ => avs = [aR 0 0, aI x] ∧ xR S μ) (fun avs μ r μ' => ¬ bad x 5 ∧ r = some (aR 10 (ix x)) ∧ μ' = μ) (fun avs μ E μ' => bad x 5 ∧ E = exn 1 ∧ μ' = μ) := by
  refine jMet_of hst (by decide) ?_
  intro avs μ J C hav hpre
  obtain ⟨rfl, hR⟩ := hpre
  refine ⟨Nat.le_of_ble_eq_true rfl, ?_⟩
  show J 0 [some (aR 0 0), some (aI x)] [] μ 0 0
  refine mj_iload_n (pc' := 1) C dX5_lawAt_0 rfl rfl ?_
  refine mj_if_lt (tgt := 9) (pc' := 4) C dX5_lawAt_1 (by decide) rfl (fun h1 => ?_) (fun h1 => ?_)
  · refine mj_throw C (text := "there is no such law") (names := ["java/lang/RuntimeException", "java/lang/Exception"]) dX5_lawAt_9 dX5_lawAt_12 dX5_lawAt_13 dX5_lawAt_15 dX5_lawAt_18 rfl rfl kl_X5_78 kn_IOOBE thrw_1 thrk_1 (by decide) (by decide) (by decide) (by decide) (by decide) (by decide) (by decide) ?_
    first | exact ⟨Or.inl h1, rfl, rfl⟩ | exact ⟨bad_hi (n := 5) h6, rfl, rfl⟩
  · refine mj_iload_n (pc' := 5) C dX5_lawAt_4 rfl rfl ?_
    refine mj_iconst (pc' := 6) (v := 5) C dX5_lawAt_5 rfl rfl ?_
    refine mj_icmp_lt (tgt := 19) (pc' := 9) C dX5_lawAt_6 (by decide) rfl (fun h6 => ?_) (fun h6 => ?_)
    · obtain ⟨j, hj, rfl, ej⟩ := bad_of (bad_no (n := 5) h1 h6) (by decide)
      refine mj_aload_n (pc' := 20) C dX5_lawAt_19 rfl rfl ?_
      refine mj_getR (pc' := 23) C dX5_lawAt_20 rfl (ci := 5) (f := 1) rfl (by decide) (by decide) (fun _ => rfl) (by decide) kf_X5_15 hR.B.l0 hR.B.p01 ?_
      refine mj_iload_n (pc' := 24) C dX5_lawAt_23 rfl rfl ?_
      refine mj_aald (pc' := 25) C dX5_lawAt_24 rfl rfl (by decide) rfl (fun _ _ => rfl) (by decide) (by decide) hR.B.l2 rfl (by first | assumption | omega) (hR.B.p2 (by first | assumption | omega)) ?_
      refine mj_aret C dX5_lawAt_25 (by decide) (by decide) (by decide) ?_
      exact ⟨bad_nI hj (by decide), by rw [ej], rfl⟩
    · refine mj_throw C (text := "there is no such law") (names := ["java/lang/RuntimeException", "java/lang/Exception"]) dX5_lawAt_9 dX5_lawAt_12 dX5_lawAt_13 dX5_lawAt_15 dX5_lawAt_18 rfl rfl kl_X5_78 kn_IOOBE thrw_1 thrk_1 (by decide) (by decide) (by decide) (by decide) (by decide) (by decide) (by decide) ?_
      first | exact ⟨Or.inl h1, rfl, rfl⟩ | exact ⟨bad_hi (n := 5) h6, rfl, rfl⟩

set_option maxRecDepth 20000 in
theorem c_X5_fileAt {l : Launch} (hst : l.stackTraces = false) (S : jS) (x : Int32) : jMet l yX5_fileAt cX5_fileAt 2 (some (FieldType.object "FormatVault$StoredFile")) 6 100 1 6 (fun avs μ => avs = [aR 0 0, aI x] ∧ xR S μ ∧ sW S) (fun avs μ r μ' => ¬ bad x (sn S 0) ∧ r = some (aR 12 (ix x)) ∧ μ' = μ) (fun avs μ E μ' => bad x (sn S 0) ∧ E = exn 1 ∧ μ' = μ) := by
  refine jMet_of hst (by decide) ?_
  intro avs μ J C hav hpre
  obtain ⟨rfl, hR, hW⟩ := hpre
  refine ⟨Nat.le_of_ble_eq_true rfl, ?_⟩
  show J 0 [some (aR 0 0), some (aI x)] [] μ 0 0
  refine mj_iload_n (pc' := 1) C dX5_fileAt_0 rfl rfl ?_
  refine mj_if_lt (tgt := 12) (pc' := 4) C dX5_fileAt_1 (by decide) rfl (fun h1 => ?_) (fun h1 => ?_)
  · refine mj_throw C (text := "there is no such file") (names := ["java/lang/RuntimeException", "java/lang/Exception"]) dX5_fileAt_12 dX5_fileAt_15 dX5_fileAt_16 dX5_fileAt_18 dX5_fileAt_21 rfl rfl kl_X5_78 kn_IOOBE thrw_1 thrk_1 (by decide) (by decide) (by decide) (by decide) (by decide) (by decide) (by decide) ?_
    first | exact ⟨Or.inl h1, rfl, rfl⟩ | exact ⟨bad_hi (n := sn S 0) h9, rfl, rfl⟩
  · refine mj_iload_n (pc' := 5) C dX5_fileAt_4 rfl rfl ?_
    refine mj_aload_n (pc' := 6) C dX5_fileAt_5 rfl rfl ?_
    refine mj_getV (pc' := 9) C dX5_fileAt_6 rfl (ci := 5) (f := 4) rfl (by decide) (by decide) (fun _ => rfl) (by decide) kf_X5_146 hR.B.l0 hR.fc ?_
    refine mj_icmp_lt (tgt := 22) (pc' := 12) C dX5_fileAt_9 (by decide) rfl (fun h9 => ?_) (fun h9 => ?_)
    · obtain ⟨j, hj, rfl, ej⟩ := bad_of (bad_no (n := sn S 0) h1 h9) (by have := hW.1.1; omega)
      have hW9 := hW.1.1
      refine mj_aload_n (pc' := 23) C dX5_fileAt_22 rfl rfl ?_
      refine mj_getR (pc' := 26) C dX5_fileAt_23 rfl (ci := 5) (f := 2) rfl (by decide) (by decide) (fun _ => rfl) (by decide) kf_X5_21 hR.B.l0 hR.B.p02 ?_
      refine mj_iload_n (pc' := 27) C dX5_fileAt_26 rfl rfl ?_
      refine mj_aald (pc' := 28) C dX5_fileAt_27 rfl rfl (by decide) rfl (fun _ _ => rfl) (by decide) (by decide) hR.B.l3 rfl (by first | assumption | omega) (hR.B.p3 (by rw [hR.n12]; first | assumption | omega)) ?_
      refine mj_aret C dX5_fileAt_28 (by decide) (by decide) (by decide) ?_
      exact ⟨bad_nI hj (by omega), by rw [ej], rfl⟩
    · refine mj_throw C (text := "there is no such file") (names := ["java/lang/RuntimeException", "java/lang/Exception"]) dX5_fileAt_12 dX5_fileAt_15 dX5_fileAt_16 dX5_fileAt_18 dX5_fileAt_21 rfl rfl kl_X5_78 kn_IOOBE thrw_1 thrk_1 (by decide) (by decide) (by decide) (by decide) (by decide) (by decide) (by decide) ?_
      first | exact ⟨Or.inl h1, rfl, rfl⟩ | exact ⟨bad_hi (n := sn S 0) h9, rfl, rfl⟩

set_option maxRecDepth 20000 in
theorem c_X5_yearsToPromiseIn {l : Launch} (hst : l.stackTraces = false) (S : jS) (j : Nat) : jMet l yX5_yearsToPromiseIn cX5_yearsToPromiseIn 2 (some FieldType.int) 7 140 0 0 (fun avs μ => avs = [aR 0 0, aI (nI j)] ∧ xR S μ ∧ j < 10) (fun avs μ r μ' => r = some (aI (if sf S 0 j = -1 then 100 else imin 100 (sf S 0 j - sf S 17 2))) ∧ μ' = μ) (fun avs μ E μ' => False) := by
  refine jMet_of hst (by decide) ?_
  intro avs μ J C hav hpre
  obtain ⟨rfl, hR, hj⟩ := hpre
  refine ⟨Nat.le_of_ble_eq_true rfl, ?_⟩
  show J 0 [some (aR 0 0), some (aI (nI j))] [] μ 0 0
  refine mj_aload_n (pc' := 1) C dX5_yearsToPromiseIn_0 rfl rfl ?_
  refine mj_getR (pc' := 4) C dX5_yearsToPromiseIn_1 rfl (ci := 5) (f := 0) rfl (by decide) (by decide) (fun _ => rfl) (by decide) kf_X5_9 hR.B.l0 hR.B.p00 ?_
  refine mj_iload_n (pc' := 5) C dX5_yearsToPromiseIn_4 rfl rfl ?_
  refine mj_ialdV (pc' := 6) C dX5_yearsToPromiseIn_5 rfl rfl (by decide) (by decide) hR.B.l1 rfl (by first | assumption | omega) (hR.last (by first | assumption | omega)) ?_
  refine mj_iconst (pc' := 7) (v := (-1)) C dX5_yearsToPromiseIn_6 rfl rfl ?_
  refine mj_icmp_ne (tgt := 15) (pc' := 10) C dX5_yearsToPromiseIn_7 (by decide) rfl (fun h7 => ?_) (fun h7 => ?_)
  · refine mj_bipush (pc' := 17) (v := 100) C dX5_yearsToPromiseIn_15 rfl rfl ?_
    refine mj_aload_n (pc' := 18) C dX5_yearsToPromiseIn_17 rfl rfl ?_
    refine mj_getR (pc' := 21) C dX5_yearsToPromiseIn_18 rfl (ci := 5) (f := 0) rfl (by decide) (by decide) (fun _ => rfl) (by decide) kf_X5_9 hR.B.l0 hR.B.p00 ?_
    refine mj_iload_n (pc' := 22) C dX5_yearsToPromiseIn_21 rfl rfl ?_
    refine mj_ialdV (pc' := 23) C dX5_yearsToPromiseIn_22 rfl rfl (by decide) (by decide) hR.B.l1 rfl (by first | assumption | omega) (hR.last (by first | assumption | omega)) ?_
    refine mj_aload_n (pc' := 24) C dX5_yearsToPromiseIn_23 rfl rfl ?_
    refine mj_getV (pc' := 27) C dX5_yearsToPromiseIn_24 rfl (ci := 5) (f := 5) rfl (by decide) (by decide) (fun _ => rfl) (by decide) kf_X5_44 hR.B.l0 hR.now ?_
    refine mj_isub (pc' := 28) C dX5_yearsToPromiseIn_27 rfl ?_
    refine mj_callSN_2 (pc' := 31) C (c_J9_min_7cf53 hst _ _) dX5_yearsToPromiseIn_28 rfl km_X5_244 ks_yJ9_min_7cf53 kn_J9 kc_yJ9_min_7cf53 ⟨by decide, by decide, by decide +kernel⟩ ⟨by decide, by decide⟩ (by decide) ⟨by decide, by decide⟩ rfl (fun r28 μ28 hq28 hm28 => ?_) (fun _ _ h9 => h9)
    obtain ⟨rfl, rfl⟩ := hq28
    dsimp only [Option.toList, List.nil_append, List.cons_append]
    refine mj_iret C dX5_yearsToPromiseIn_31 (by decide) (by decide) (by decide) ?_
    exact ⟨by first | rw [if_pos (h7)] | rw [if_neg h7], rfl⟩
  · refine mj_bipush (pc' := 12) (v := 100) C dX5_yearsToPromiseIn_10 rfl rfl ?_
    refine mj_goto (pc' := 31) C dX5_yearsToPromiseIn_12 (by decide) ?_
    refine mj_iret C dX5_yearsToPromiseIn_31 (by decide) (by decide) (by decide) ?_
    exact ⟨by first | rw [if_pos (h7)] | rw [if_neg h7], rfl⟩

set_option maxRecDepth 20000 in
theorem c_X5_isSafeIn {l : Launch} (hst : l.stackTraces = false) (S : jS) (i j : Nat) : jMet l yX5_isSafeIn cX5_isSafeIn 4 (some FieldType.boolean) 6 100 0 0 (fun avs μ => avs = [aR 0 0, aR 12 i, aI (nI j)] ∧ xR S μ ∧ sW S ∧ i < sn S 0 ∧ j < 10) (fun avs μ r μ' => r = some (aI (b1 (safe S i j))) ∧ μ' = μ) (fun avs μ E μ' => False) := by
  refine jMet_of hst (by decide) ?_
  intro avs μ J C hav hpre
  obtain ⟨rfl, hR, hW, hi, hj⟩ := hpre
  refine ⟨Nat.le_of_ble_eq_true rfl, ?_⟩
  show J 0 [some (aR 0 0), some (aR 12 i), some (aI (nI j)), none] [] μ 0 0
  refine mj_aload_n (pc' := 1) C dX5_isSafeIn_0 rfl rfl ?_
  refine mj_getR (pc' := 4) C dX5_isSafeIn_1 rfl (ci := 5) (f := 0) rfl (by decide) (by decide) (fun _ => rfl) (by decide) kf_X5_9 hR.B.l0 hR.B.p00 ?_
  refine mj_iload_n (pc' := 5) C dX5_isSafeIn_4 rfl rfl ?_
  refine mj_ialdV (pc' := 6) C dX5_isSafeIn_5 rfl rfl (by decide) (by decide) hR.B.l1 rfl (by first | assumption | omega) (hR.last (by first | assumption | omega)) ?_
  refine mj_istore_n_3 (pc' := 7) C dX5_isSafeIn_6 rfl (by decide) rfl ?_
  refine mj_iload_n (pc' := 8) C dX5_isSafeIn_7 rfl rfl ?_
  refine mj_iconst (pc' := 9) (v := (-1)) C dX5_isSafeIn_8 rfl rfl ?_
  refine mj_icmp_eq (tgt := 27) (pc' := 12) C dX5_isSafeIn_9 (by decide) rfl (fun h9 => ?_) (fun h9 => ?_)
  · refine mj_iconst (pc' := 28) (v := 1) C dX5_isSafeIn_27 rfl rfl ?_
    refine mj_goto (pc' := 32) C dX5_isSafeIn_28 (by decide) ?_
    refine mj_zret C (by first | exact b1_and | rfl) dX5_isSafeIn_32 (by decide) (by decide) (by decide) ?_
    first | exact ⟨b1r_t (Or.inl h9), rfl⟩ | exact ⟨b1r_t (Or.inr ⟨h16, Int32.not_lt.mp h24⟩), rfl⟩ | exact ⟨b1r_f (fun h => h.elim h9 (fun h => h16 h.1)), rfl⟩ | exact ⟨b1r_f (fun h => h.elim h9 (fun h => absurd h24 (Int32.not_lt.mpr h.2))), rfl⟩
  · refine mj_aload_n (pc' := 13) C dX5_isSafeIn_12 rfl rfl ?_
    refine mj_getV (pc' := 16) C dX5_isSafeIn_13 rfl (ci := 4) (f := 7) rfl (by decide) (by decide) (fun _ => rfl) (by decide) kf_X5_162 (hR.l12 (by first | assumption | omega)) (hR.fhl (by first | assumption | omega)) ?_
    refine mj_if_ne (tgt := 31) (pc' := 19) C dX5_isSafeIn_16 (by decide) rfl (fun h16 => ?_) (fun h16 => ?_)
    · refine mj_iconst (pc' := 32) (v := 0) C dX5_isSafeIn_31 rfl rfl ?_
      refine mj_zret C (by first | exact b1_and | rfl) dX5_isSafeIn_32 (by decide) (by decide) (by decide) ?_
      first | exact ⟨b1r_t (Or.inl h9), rfl⟩ | exact ⟨b1r_t (Or.inr ⟨h16, Int32.not_lt.mp h24⟩), rfl⟩ | exact ⟨b1r_f (fun h => h.elim h9 (fun h => h16 h.1)), rfl⟩ | exact ⟨b1r_f (fun h => h.elim h9 (fun h => absurd h24 (Int32.not_lt.mpr h.2))), rfl⟩
    · refine mj_iload_n (pc' := 20) C dX5_isSafeIn_19 rfl rfl ?_
      refine mj_aload_n (pc' := 21) C dX5_isSafeIn_20 rfl rfl ?_
      refine mj_getV (pc' := 24) C dX5_isSafeIn_21 rfl (ci := 4) (f := 2) rfl (by decide) (by decide) (fun _ => rfl) (by decide) kf_X5_210 (hR.l12 (by first | assumption | omega)) (hR.fen (by first | assumption | omega)) ?_
      refine mj_icmp_lt (tgt := 31) (pc' := 27) C dX5_isSafeIn_24 (by decide) rfl (fun h24 => ?_) (fun h24 => ?_)
      · refine mj_iconst (pc' := 32) (v := 0) C dX5_isSafeIn_31 rfl rfl ?_
        refine mj_zret C (by first | exact b1_and | rfl) dX5_isSafeIn_32 (by decide) (by decide) (by decide) ?_
        first | exact ⟨b1r_t (Or.inl h9), rfl⟩ | exact ⟨b1r_t (Or.inr ⟨h16, Int32.not_lt.mp h24⟩), rfl⟩ | exact ⟨b1r_f (fun h => h.elim h9 (fun h => h16 h.1)), rfl⟩ | exact ⟨b1r_f (fun h => h.elim h9 (fun h => absurd h24 (Int32.not_lt.mpr h.2))), rfl⟩
      · refine mj_iconst (pc' := 28) (v := 1) C dX5_isSafeIn_27 rfl rfl ?_
        refine mj_goto (pc' := 32) C dX5_isSafeIn_28 (by decide) ?_
        refine mj_zret C (by first | exact b1_and | rfl) dX5_isSafeIn_32 (by decide) (by decide) (by decide) ?_
        first | exact ⟨b1r_t (Or.inl h9), rfl⟩ | exact ⟨b1r_t (Or.inr ⟨h16, Int32.not_lt.mp h24⟩), rfl⟩ | exact ⟨b1r_f (fun h => h.elim h9 (fun h => h16 h.1)), rfl⟩ | exact ⟨b1r_f (fun h => h.elim h9 (fun h => absurd h24 (Int32.not_lt.mpr h.2))), rfl⟩

set_option maxRecDepth 20000 in
theorem c_X5_stateInNewYear {l : Launch} (hst : l.stackTraces = false) (S : jS) (i : Nat) : jMet l yX5_stateInNewYear cX5_stateInNewYear 2 (some FieldType.int) 7 140 0 0 (fun avs μ => avs = [aR 0 0, aR 12 i] ∧ xR S μ ∧ sW S ∧ i < sn S 0 ∧ sf S 15 i = 0) (fun avs μ r μ' => r = some (aI (ny S i)) ∧ μ' = μ) (fun avs μ E μ' => False) := by
  refine jMet_of hst (by decide) ?_
  intro avs μ J C hav hpre
  obtain ⟨rfl, hR, hW, hi, hs⟩ := hpre
  refine ⟨Nat.le_of_ble_eq_true rfl, ?_⟩
  show J 0 [some (aR 0 0), some (aR 12 i)] [] μ 0 0
  refine mj_aload_n (pc' := 1) C dX5_stateInNewYear_0 rfl rfl ?_
  refine mj_getV (pc' := 4) C dX5_stateInNewYear_1 rfl (ci := 5) (f := 5) rfl (by decide) (by decide) (fun _ => rfl) (by decide) kf_X5_44 hR.B.l0 hR.now ?_
  refine mj_aload_n (pc' := 5) C dX5_stateInNewYear_4 rfl rfl ?_
  refine mj_getV (pc' := 8) C dX5_stateInNewYear_5 rfl (ci := 4) (f := 2) rfl (by decide) (by decide) (fun _ => rfl) (by decide) kf_X5_210 (hR.l12 (by first | assumption | omega)) (hR.fen (by first | assumption | omega)) ?_
  refine mj_icmp_le (tgt := 20) (pc' := 11) C dX5_stateInNewYear_8 (by decide) rfl (fun h8 => ?_) (fun h8 => ?_)
  · have hn : ¬ (sf S 13 i < sf S 17 2 ∧ sf S 16 i = 0) := fun h => absurd h8 (Int32.not_le.mpr h.1)
    obtain ⟨u, hu, eu⟩ := (hW.2.2.1 i hi).1
    have efF : fF S i = u := by unfold fF; rw [eu]; exact ix_nI (by omega)
    refine mj_aload_n (pc' := 21) C dX5_stateInNewYear_20 rfl rfl ?_
    refine mj_aload_n (pc' := 22) C dX5_stateInNewYear_21 rfl rfl ?_
    refine mj_getV (pc' := 25) C dX5_stateInNewYear_22 rfl (ci := 4) (f := 3) rfl (by decide) (by decide) (fun _ => rfl) (by decide) kf_X5_165 (hR.l12 (by first | assumption | omega)) (hR.ffm (by first | assumption | omega)) ?_
    rw [eu]
    refine mj_callVN_1 (ci := 5) (pc' := 28) C (c_X5_isReadable hst S u) dX5_stateInNewYear_25 rfl km_X5_219 ki_yX5_isReadable kz_yX5_isReadable kn_X5 kc_yX5_isReadable rfl (by decide) (by decide) ⟨rfl, by decide, by decide, by decide +kernel⟩ ⟨by decide, by decide⟩ (by decide) ⟨by decide, by decide⟩ ⟨rfl, hR, hu⟩ (fun r25 μ25 hq25 hm25 => ?_) (fun _ _ h9 => h9)
    obtain ⟨rfl, rfl⟩ := hq25
    dsimp only [Option.toList, List.nil_append, List.cons_append]
    refine mj_if_eq (tgt := 35) (pc' := 31) C dX5_stateInNewYear_28 (by decide) rfl (fun h28 => ?_) (fun h28 => ?_)
    · have hc : (if canR S u then (0 : Int32) else 2) = 2 := if_neg (b1_0.mp h28)
      refine mj_iconst (pc' := 36) (v := 2) C dX5_stateInNewYear_35 rfl rfl ?_
      refine mj_iret C dX5_stateInNewYear_36 (by decide) (by decide) (by decide) ?_
      exact ⟨by unfold ny; rw [if_pos hs, if_neg hn, efF, hc], rfl⟩
    · have hc : (if canR S u then (0 : Int32) else 2) = 0 := if_pos (b1_n h28)
      refine mj_iconst (pc' := 32) (v := 0) C dX5_stateInNewYear_31 rfl rfl ?_
      refine mj_goto (pc' := 36) C dX5_stateInNewYear_32 (by decide) ?_
      refine mj_iret C dX5_stateInNewYear_36 (by decide) (by decide) (by decide) ?_
      exact ⟨by unfold ny; rw [if_pos hs, if_neg hn, efF, hc], rfl⟩
  · refine mj_aload_n (pc' := 12) C dX5_stateInNewYear_11 rfl rfl ?_
    refine mj_getV (pc' := 15) C dX5_stateInNewYear_12 rfl (ci := 4) (f := 7) rfl (by decide) (by decide) (fun _ => rfl) (by decide) kf_X5_162 (hR.l12 (by first | assumption | omega)) (hR.fhl (by first | assumption | omega)) ?_
    refine mj_if_ne (tgt := 20) (pc' := 18) C dX5_stateInNewYear_15 (by decide) rfl (fun h15 => ?_) (fun h15 => ?_)
    · have hn : ¬ (sf S 13 i < sf S 17 2 ∧ sf S 16 i = 0) := fun h => h15 h.2
      obtain ⟨u, hu, eu⟩ := (hW.2.2.1 i hi).1
      have efF : fF S i = u := by unfold fF; rw [eu]; exact ix_nI (by omega)
      refine mj_aload_n (pc' := 21) C dX5_stateInNewYear_20 rfl rfl ?_
      refine mj_aload_n (pc' := 22) C dX5_stateInNewYear_21 rfl rfl ?_
      refine mj_getV (pc' := 25) C dX5_stateInNewYear_22 rfl (ci := 4) (f := 3) rfl (by decide) (by decide) (fun _ => rfl) (by decide) kf_X5_165 (hR.l12 (by first | assumption | omega)) (hR.ffm (by first | assumption | omega)) ?_
      rw [eu]
      refine mj_callVN_1 (ci := 5) (pc' := 28) C (c_X5_isReadable hst S u) dX5_stateInNewYear_25 rfl km_X5_219 ki_yX5_isReadable kz_yX5_isReadable kn_X5 kc_yX5_isReadable rfl (by decide) (by decide) ⟨rfl, by decide, by decide, by decide +kernel⟩ ⟨by decide, by decide⟩ (by decide) ⟨by decide, by decide⟩ ⟨rfl, hR, hu⟩ (fun r25 μ25 hq25 hm25 => ?_) (fun _ _ h9 => h9)
      obtain ⟨rfl, rfl⟩ := hq25
      dsimp only [Option.toList, List.nil_append, List.cons_append]
      refine mj_if_eq (tgt := 35) (pc' := 31) C dX5_stateInNewYear_28 (by decide) rfl (fun h28 => ?_) (fun h28 => ?_)
      · have hc : (if canR S u then (0 : Int32) else 2) = 2 := if_neg (b1_0.mp h28)
        refine mj_iconst (pc' := 36) (v := 2) C dX5_stateInNewYear_35 rfl rfl ?_
        refine mj_iret C dX5_stateInNewYear_36 (by decide) (by decide) (by decide) ?_
        exact ⟨by unfold ny; rw [if_pos hs, if_neg hn, efF, hc], rfl⟩
      · have hc : (if canR S u then (0 : Int32) else 2) = 0 := if_pos (b1_n h28)
        refine mj_iconst (pc' := 32) (v := 0) C dX5_stateInNewYear_31 rfl rfl ?_
        refine mj_goto (pc' := 36) C dX5_stateInNewYear_32 (by decide) ?_
        refine mj_iret C dX5_stateInNewYear_36 (by decide) (by decide) (by decide) ?_
        exact ⟨by unfold ny; rw [if_pos hs, if_neg hn, efF, hc], rfl⟩
    · refine mj_iconst (pc' := 19) (v := 1) C dX5_stateInNewYear_18 rfl rfl ?_
      refine mj_iret C dX5_stateInNewYear_19 (by decide) (by decide) (by decide) ?_
      exact ⟨by unfold ny; rw [if_pos hs, if_pos ⟨Int32.not_le.mp h8, h15⟩], rfl⟩

set_option maxRecDepth 20000 in
theorem c_X1_qualityAfter {l : Launch} (hst : l.stackTraces = false) (S : jS) (c : Nat) (q : Int32) : jMet l yX1_qualityAfter cX1_qualityAfter 2 (some FieldType.int) 6 100 0 0 (fun avs μ => avs = [aR 13 c, aI q] ∧ (c < mN μ 13 ∧ mI μ 13 c 3 = sf S 3 c)) (fun avs μ r μ' => r = some (aI (stQ S c q)) ∧ μ' = μ) (fun avs μ E μ' => False) := by
  refine jMet_of hst (by decide) ?_
  intro avs μ J C hav hpre
  obtain ⟨rfl, hc, hlo⟩ := hpre
  refine ⟨Nat.le_of_ble_eq_true rfl, ?_⟩
  show J 0 [some (aR 13 c), some (aI q)] [] μ 0 0
  refine mj_iload_n (pc' := 1) C dX1_qualityAfter_0 rfl rfl ?_
  refine mj_sipush (pc' := 4) (v := 1000) C dX1_qualityAfter_1 rfl rfl ?_
  refine mj_aload_n (pc' := 5) C dX1_qualityAfter_4 rfl rfl ?_
  refine mj_getV (pc' := 8) C dX1_qualityAfter_5 rfl (ci := 1) (f := 3) rfl (by decide) (by decide) (fun _ => rfl) (by decide) kf_X1_21 hc hlo ?_
  refine mj_isub (pc' := 9) C dX1_qualityAfter_8 rfl ?_
  refine mj_imul (pc' := 10) C dX1_qualityAfter_9 rfl ?_
  refine mj_sipush (pc' := 13) (v := 1000) C dX1_qualityAfter_10 rfl rfl ?_
  refine mj_idiv (pc' := 14) C dX1_qualityAfter_13 rfl (by decide) ?_
  refine mj_iret C dX1_qualityAfter_14 (by decide) (by decide) (by decide) ?_
  exact ⟨rfl, rfl⟩
end
section
/-! METHODS OF THE FACE THAT SEARCH NOTHING -/
set_option maxRecDepth 20000 in
theorem c_X5_setLast {l : Launch} (hst : l.stackTraces = false) (S : jS) (f u : Int32) : jMet l yX5_setLast cX5_setLast 4 (some FieldType.int) 8 180 3 18 (fun avs μ => avs = [aR 0 0, aI f, aI u] ∧ xR S μ ∧ sW S) (fun avs μ r μ' => (o_setLast S f u).1 = 0 ∧ r = some (aI (o_setLast S f u).2.1) ∧ xR (o_setLast S f u).2.2 μ' ∧ xF μ μ') (fun avs μ E μ' => (o_setLast S f u).1 ≠ 0 ∧ E = exn (o_setLast S f u).1 ∧ xR S μ' ∧ xF μ μ') := by
  refine jMet_of hst (by decide) ?_
  intro avs μ J C hav hpre
  obtain ⟨rfl, hR, hW⟩ := hpre
  refine ⟨Nat.le_of_ble_eq_true rfl, ?_⟩
  show J 0 [some (aR 0 0), some (aI f), some (aI u), none] [] μ 0 0
  refine mj_iload_n (pc' := 1) C dX5_setLast_0 rfl rfl ?_
  refine mj_callSX_1 (pc' := 4) C (c_X5_requireFormat hst f) dX5_setLast_1 rfl km_X5_40 ks_yX5_requireFormat kn_X5 kc_yX5_requireFormat ⟨by decide, by decide, by decide +kernel⟩ ⟨by decide, by decide⟩ (by decide) ⟨by decide, by decide⟩ rfl (fun r1 μ1 hq1 hm1 => ?_) (fun E μ9 h9 => ?_) (by decide) (by decide)
  · obtain ⟨hb1, rfl, rfl⟩ := hq1
    dsimp only [Option.toList, List.nil_append, List.cons_append]
    obtain ⟨j, hj, rfl, ej⟩ := bad_of hb1 (by decide)
    refine mj_iload_n (pc' := 5) C dX5_setLast_4 rfl rfl ?_
    refine mj_iconst (pc' := 6) (v := (-1)) C dX5_setLast_5 rfl rfl ?_
    refine mj_icmp_eq (tgt := 20) (pc' := 9) C dX5_setLast_6 (by decide) rfl (fun h6 => ?_) (fun h6 => ?_)
    · have hnr : ¬ (u ≠ -1 ∧ (u < sf S 17 2 ∨ 1000 < u)) := fun h => h.1 h6
      refine mj_aload_n (pc' := 21) C dX5_setLast_20 rfl rfl ?_
      refine mj_iload_n (pc' := 22) C dX5_setLast_21 rfl rfl ?_
      refine mj_callVX_1 (ci := 5) (pc' := 25) C (c_X5_requireReadable hst S j) dX5_setLast_22 rfl km_X5_51 ki_yX5_requireReadable kz_yX5_requireReadable kn_X5 kc_yX5_requireReadable rfl (by decide) (by decide) ⟨rfl, by decide, by decide, by decide +kernel⟩ ⟨by decide, by decide⟩ (by decide) ⟨by decide, by decide⟩ ⟨rfl, hR, hj⟩ (fun r22 μ22 hq22 hm22 => ?_) (fun E μ9 h9 => ?_) (by decide) (by decide)
      · obtain ⟨hr22, rfl, rfl⟩ := hq22
        dsimp only [Option.toList, List.nil_append, List.cons_append]
        refine mj_aload_n (pc' := 26) C dX5_setLast_25 rfl rfl ?_
        refine mj_getR (pc' := 29) C dX5_setLast_26 rfl (ci := 5) (f := 0) rfl (by decide) (by decide) (fun _ => rfl) (by decide) kf_X5_9 hR.B.l0 hR.B.p00 ?_
        refine mj_iload_n (pc' := 30) C dX5_setLast_29 rfl rfl ?_
        refine mj_ialdV (pc' := 31) C dX5_setLast_30 rfl rfl (by decide) (by decide) hR.B.l1 rfl (by first | assumption | omega) (hR.last (by first | assumption | omega)) ?_
        refine mj_istore_n_3 (pc' := 32) C dX5_setLast_31 rfl (by decide) rfl ?_
        refine mj_aload_n (pc' := 33) C dX5_setLast_32 rfl rfl ?_
        refine mj_getR (pc' := 36) C dX5_setLast_33 rfl (ci := 5) (f := 0) rfl (by decide) (by decide) (fun _ => rfl) (by decide) kf_X5_9 hR.B.l0 hR.B.p00 ?_
        refine mj_iload_n (pc' := 37) C dX5_setLast_36 rfl rfl ?_
        refine mj_iload_n (pc' := 38) C dX5_setLast_37 rfl rfl ?_
        refine mj_iast (pc' := 39) C dX5_setLast_38 rfl rfl (by decide) (by decide) hR.B.l1 rfl (by first | assumption | omega) ?_
        refine mj_iload_n (pc' := 40) C dX5_setLast_39 rfl rfl ?_
        refine mj_iret C dX5_setLast_40 (by decide) (by decide) (by decide) ?_
        exact ret_of (o := o_setLast S (nI j) u) (by unfold o_setLast; rw [if_neg hb1, if_neg hnr, ej, if_neg (fun h => h hr22)]) (xR_last hR hj) (xF_sI (by decide) xF.rf)
      · obtain ⟨hb, rfl, rfl⟩ := h9
        exact thr_of (o := o_setLast S (nI j) u) (by unfold o_setLast; rw [if_neg hb1, if_neg hnr, ej, if_pos hb]) (by decide) hR xF.rf
    · refine mj_iload_n (pc' := 10) C dX5_setLast_9 rfl rfl ?_
      refine mj_aload_n (pc' := 11) C dX5_setLast_10 rfl rfl ?_
      refine mj_getV (pc' := 14) C dX5_setLast_11 rfl (ci := 5) (f := 5) rfl (by decide) (by decide) (fun _ => rfl) (by decide) kf_X5_44 hR.B.l0 hR.now ?_
      refine mj_sipush (pc' := 17) (v := 1000) C dX5_setLast_14 rfl rfl ?_
      refine mj_callSX_3 (pc' := 20) C (c_X5_requireRange hst u (sf S 17 2) 1000) dX5_setLast_17 rfl km_X5_47 ks_yX5_requireRange kn_X5 kc_yX5_requireRange ⟨by decide, by decide, by decide +kernel⟩ ⟨by decide, by decide⟩ (by decide) ⟨by decide, by decide⟩ rfl (fun r17 μ17 hq17 hm17 => ?_) (fun E μ9 h9 => ?_) (by decide) (by decide)
      · obtain ⟨hb17, rfl, rfl⟩ := hq17
        dsimp only [Option.toList, List.nil_append, List.cons_append]
        have hnr : ¬ (u ≠ -1 ∧ (u < sf S 17 2 ∨ 1000 < u)) := fun h => h.2.elim (fun q => absurd q (Int32.not_lt.mpr hb17.1)) (fun q => absurd q (Int32.not_lt.mpr hb17.2))
        refine mj_aload_n (pc' := 21) C dX5_setLast_20 rfl rfl ?_
        refine mj_iload_n (pc' := 22) C dX5_setLast_21 rfl rfl ?_
        refine mj_callVX_1 (ci := 5) (pc' := 25) C (c_X5_requireReadable hst S j) dX5_setLast_22 rfl km_X5_51 ki_yX5_requireReadable kz_yX5_requireReadable kn_X5 kc_yX5_requireReadable rfl (by decide) (by decide) ⟨rfl, by decide, by decide, by decide +kernel⟩ ⟨by decide, by decide⟩ (by decide) ⟨by decide, by decide⟩ ⟨rfl, hR, hj⟩ (fun r22 μ22 hq22 hm22 => ?_) (fun E μ9 h9 => ?_) (by decide) (by decide)
        · obtain ⟨hr22, rfl, rfl⟩ := hq22
          dsimp only [Option.toList, List.nil_append, List.cons_append]
          refine mj_aload_n (pc' := 26) C dX5_setLast_25 rfl rfl ?_
          refine mj_getR (pc' := 29) C dX5_setLast_26 rfl (ci := 5) (f := 0) rfl (by decide) (by decide) (fun _ => rfl) (by decide) kf_X5_9 hR.B.l0 hR.B.p00 ?_
          refine mj_iload_n (pc' := 30) C dX5_setLast_29 rfl rfl ?_
          refine mj_ialdV (pc' := 31) C dX5_setLast_30 rfl rfl (by decide) (by decide) hR.B.l1 rfl (by first | assumption | omega) (hR.last (by first | assumption | omega)) ?_
          refine mj_istore_n_3 (pc' := 32) C dX5_setLast_31 rfl (by decide) rfl ?_
          refine mj_aload_n (pc' := 33) C dX5_setLast_32 rfl rfl ?_
          refine mj_getR (pc' := 36) C dX5_setLast_33 rfl (ci := 5) (f := 0) rfl (by decide) (by decide) (fun _ => rfl) (by decide) kf_X5_9 hR.B.l0 hR.B.p00 ?_
          refine mj_iload_n (pc' := 37) C dX5_setLast_36 rfl rfl ?_
          refine mj_iload_n (pc' := 38) C dX5_setLast_37 rfl rfl ?_
          refine mj_iast (pc' := 39) C dX5_setLast_38 rfl rfl (by decide) (by decide) hR.B.l1 rfl (by first | assumption | omega) ?_
          refine mj_iload_n (pc' := 40) C dX5_setLast_39 rfl rfl ?_
          refine mj_iret C dX5_setLast_40 (by decide) (by decide) (by decide) ?_
          exact ret_of (o := o_setLast S (nI j) u) (by unfold o_setLast; rw [if_neg hb1, if_neg hnr, ej, if_neg (fun h => h hr22)]) (xR_last hR hj) (xF_sI (by decide) xF.rf)
        · obtain ⟨hb, rfl, rfl⟩ := h9
          exact thr_of (o := o_setLast S (nI j) u) (by unfold o_setLast; rw [if_neg hb1, if_neg hnr, ej, if_pos hb]) (by decide) hR xF.rf
      · obtain ⟨hb, rfl, rfl⟩ := h9
        exact thr_of (o := o_setLast S (nI j) u) (by unfold o_setLast; rw [if_neg hb1, if_pos ⟨h6, hb⟩]) (by decide) hR xF.rf
  · obtain ⟨hb, rfl, rfl⟩ := h9
    exact thr_of (o := o_setLast S f u) (by unfold o_setLast; rw [if_pos hb]) (by decide) hR xF.rf

set_option maxRecDepth 20000 in
theorem c_X5_law {l : Launch} (hst : l.stackTraces = false) (S : jS) (j y w q : Int32) : jMet l yX5_law cX5_law 6 none 8 180 4 24 (fun avs μ => avs = [aR 0 0, aI j, aI y, aI w, aI q] ∧ xR S μ ∧ sW S) (fun avs μ r μ' => r = none ∧ (o_law S j y w q).1 = 0 ∧ xR (o_law S j y w q).2.2 μ' ∧ xF μ μ') (fun avs μ E μ' => (o_law S j y w q).1 ≠ 0 ∧ E = exn (o_law S j y w q).1 ∧ xR S μ' ∧ xF μ μ') := by
  refine jMet_of hst (by decide) ?_
  intro avs μ J C hav hpre
  obtain ⟨rfl, hR, hW⟩ := hpre
  refine ⟨Nat.le_of_ble_eq_true rfl, ?_⟩
  show J 0 [some (aR 0 0), some (aI j), some (aI y), some (aI w), some (aI q), none] [] μ 0 0
  refine mj_aload_n (pc' := 1) C dX5_law_0 rfl rfl ?_
  refine mj_iload_n (pc' := 2) C dX5_law_1 rfl rfl ?_
  refine mj_callVX_1 (ci := 5) (pc' := 5) C (c_X5_lawAt hst S j) dX5_law_2 rfl km_X5_108 ki_yX5_lawAt kz_yX5_lawAt kn_X5 kc_yX5_lawAt rfl (by decide) (by decide) ⟨rfl, by decide, by decide, by decide +kernel⟩ ⟨by decide, by decide⟩ (by decide) ⟨by decide, by decide⟩ ⟨rfl, hR⟩ (fun r2 μ2 hq2 hm2 => ?_) (fun E μ9 h9 => ?_) (by decide) (by decide)
  · obtain ⟨hb2, rfl, rfl⟩ := hq2
    dsimp only [Option.toList, List.nil_append, List.cons_append]
    obtain ⟨a, ha, rfl, ea⟩ := bad_of hb2 (by decide)
    rw [ea]
    refine mj_astore_5 (pc' := 7) C dX5_law_5 rfl (by decide) rfl ?_
    refine mj_iload_n (pc' := 8) C dX5_law_7 rfl rfl ?_
    refine mj_iconst (pc' := 9) (v := 1) C dX5_law_8 rfl rfl ?_
    refine mj_bipush (pc' := 11) (v := 100) C dX5_law_9 rfl rfl ?_
    refine mj_callSX_3 (pc' := 14) C (c_X5_requireRange hst y 1 100) dX5_law_11 rfl km_X5_47 ks_yX5_requireRange kn_X5 kc_yX5_requireRange ⟨by decide, by decide, by decide +kernel⟩ ⟨by decide, by decide⟩ (by decide) ⟨by decide, by decide⟩ rfl (fun r11 μ11 hq11 hm11 => ?_) (fun E μ9 h9 => ?_) (by decide) (by decide)
    · obtain ⟨hb11, rfl, rfl⟩ := hq11
      dsimp only [Option.toList, List.nil_append, List.cons_append]
      refine mj_iload_n (pc' := 15) C dX5_law_14 rfl rfl ?_
      refine mj_iconst (pc' := 16) (v := 0) C dX5_law_15 rfl rfl ?_
      refine mj_sipush (pc' := 19) (v := 1000) C dX5_law_16 rfl rfl ?_
      refine mj_callSX_3 (pc' := 22) C (c_X5_requireRange hst w 0 1000) dX5_law_19 rfl km_X5_47 ks_yX5_requireRange kn_X5 kc_yX5_requireRange ⟨by decide, by decide, by decide +kernel⟩ ⟨by decide, by decide⟩ (by decide) ⟨by decide, by decide⟩ rfl (fun r19 μ19 hq19 hm19 => ?_) (fun E μ9 h9 => ?_) (by decide) (by decide)
      · obtain ⟨hb19, rfl, rfl⟩ := hq19
        dsimp only [Option.toList, List.nil_append, List.cons_append]
        refine mj_iload (pc' := 24) C dX5_law_22 rfl rfl ?_
        refine mj_iconst (pc' := 25) (v := 1) C dX5_law_24 rfl rfl ?_
        refine mj_bipush (pc' := 27) (v := 50) C dX5_law_25 rfl rfl ?_
        refine mj_callSX_3 (pc' := 30) C (c_X5_requireRange hst q 1 50) dX5_law_27 rfl km_X5_47 ks_yX5_requireRange kn_X5 kc_yX5_requireRange ⟨by decide, by decide, by decide +kernel⟩ ⟨by decide, by decide⟩ (by decide) ⟨by decide, by decide⟩ rfl (fun r27 μ27 hq27 hm27 => ?_) (fun E μ9 h9 => ?_) (by decide) (by decide)
        · obtain ⟨hb27, rfl, rfl⟩ := hq27
          dsimp only [Option.toList, List.nil_append, List.cons_append]
          have hng : ¬ ((y < 1 ∨ 100 < y) ∨ (w < 0 ∨ 1000 < w) ∨ (q < 1 ∨ 50 < q)) := by
            rintro ((h | h) | (h | h) | (h | h))
            · exact absurd h (Int32.not_lt.mpr hb11.1)
            · exact absurd h (Int32.not_lt.mpr hb11.2)
            · exact absurd h (Int32.not_lt.mpr hb19.1)
            · exact absurd h (Int32.not_lt.mpr hb19.2)
            · exact absurd h (Int32.not_lt.mpr hb27.1)
            · exact absurd h (Int32.not_lt.mpr hb27.2)
          refine mj_aload (pc' := 32) C dX5_law_30 rfl rfl ?_
          refine mj_iload_n (pc' := 33) C dX5_law_32 rfl rfl ?_
          refine mj_putI (pc' := 36) C dX5_law_33 rfl (ci := 2) (f := 0) rfl (by decide) (by decide) rfl (fun _ _ => rfl) (by decide) kf_X5_112 rfl rfl (hR.B.l10 (by first | assumption | omega)) ?_
          refine mj_aload (pc' := 38) C dX5_law_36 rfl rfl ?_
          refine mj_iload_n (pc' := 39) C dX5_law_38 rfl rfl ?_
          refine mj_putI (pc' := 42) C dX5_law_39 rfl (ci := 2) (f := 1) rfl (by decide) (by decide) rfl (fun _ _ => rfl) (by decide) kf_X5_115 rfl rfl (hR.B.l10 (by first | assumption | omega)) ?_
          refine mj_aload (pc' := 44) C dX5_law_42 rfl rfl ?_
          refine mj_iload (pc' := 46) C dX5_law_44 rfl rfl ?_
          refine mj_putI (pc' := 49) C dX5_law_46 rfl (ci := 2) (f := 2) rfl (by decide) (by decide) rfl (fun _ _ => rfl) (by decide) kf_X5_118 rfl rfl (hR.B.l10 (by first | assumption | omega)) ?_
          refine mj_vret C dX5_law_49 (by decide) (by decide) (by decide) ?_
          exact ⟨rfl, retv_of (o := o_law S (nI a) y w q) (v := 0) (by unfold o_law; rw [if_neg hb2, if_neg hng, ea]) (xR_law (xR_law (xR_law hR ha (Or.inl ⟨rfl, rfl⟩)) ha (Or.inr (Or.inl ⟨rfl, rfl⟩))) ha (Or.inr (Or.inr ⟨rfl, rfl⟩))) (xF_sI (by decide) (xF_sI (by decide) (xF_sI (by decide) xF.rf)))⟩
        · obtain ⟨hb, rfl, rfl⟩ := h9
          exact thr_of (o := o_law S (nI a) y w q) (by unfold o_law; rw [if_neg hb2, if_pos (Or.inr (Or.inr hb))]) (by decide) hR xF.rf
      · obtain ⟨hb, rfl, rfl⟩ := h9
        exact thr_of (o := o_law S (nI a) y w q) (by unfold o_law; rw [if_neg hb2, if_pos (Or.inr (Or.inl hb))]) (by decide) hR xF.rf
    · obtain ⟨hb, rfl, rfl⟩ := h9
      exact thr_of (o := o_law S (nI a) y w q) (by unfold o_law; rw [if_neg hb2, if_pos (Or.inl hb)]) (by decide) hR xF.rf
  · obtain ⟨hb, rfl, rfl⟩ := h9
    exact thr_of (o := o_law S j y w q) (by unfold o_law; rw [if_pos hb]) (by decide) hR xF.rf

set_option maxRecDepth 20000 in
theorem c_X5_hold {l : Launch} (hst : l.stackTraces = false) (S : jS) (i v : Int32) : jMet l yX5_hold cX5_hold 5 (some FieldType.boolean) 8 180 2 12 (fun avs μ => avs = [aR 0 0, aI i, aI v] ∧ xR S μ ∧ sW S ∧ (v = 0 ∨ v = 1)) (fun avs μ r μ' => (o_hold S i v).1 = 0 ∧ r = some (aI (o_hold S i v).2.1) ∧ xR (o_hold S i v).2.2 μ' ∧ xF μ μ') (fun avs μ E μ' => (o_hold S i v).1 ≠ 0 ∧ E = exn (o_hold S i v).1 ∧ xR S μ' ∧ xF μ μ') := by
  refine jMet_of hst (by decide) ?_
  intro avs μ J C hav hpre
  obtain ⟨rfl, hR, hW, hv⟩ := hpre
  refine ⟨Nat.le_of_ble_eq_true rfl, ?_⟩
  show J 0 [some (aR 0 0), some (aI i), some (aI v), none, none] [] μ 0 0
  refine mj_aload_n (pc' := 1) C dX5_hold_0 rfl rfl ?_
  refine mj_iload_n (pc' := 2) C dX5_hold_1 rfl rfl ?_
  refine mj_callVX_1 (ci := 5) (pc' := 5) C (c_X5_fileAt hst S i) dX5_hold_2 rfl km_X5_154 ki_yX5_fileAt kz_yX5_fileAt kn_X5 kc_yX5_fileAt rfl (by decide) (by decide) ⟨rfl, by decide, by decide, by decide +kernel⟩ ⟨by decide, by decide⟩ (by decide) ⟨by decide, by decide⟩ ⟨rfl, hR, hW⟩ (fun r2 μ2 hq2 hm2 => ?_) (fun E μ9 h9 => ?_) (by decide) (by decide)
  · obtain ⟨hb2, rfl, rfl⟩ := hq2
    dsimp only [Option.toList, List.nil_append, List.cons_append]
    obtain ⟨a, ha, rfl, ea⟩ := bad_of hb2 (by have := hW.1.1; omega)
    rw [ea]
    refine mj_astore_n_3 (pc' := 6) C dX5_hold_5 rfl (by decide) rfl ?_
    refine mj_aload_n (pc' := 7) C dX5_hold_6 rfl rfl ?_
    refine mj_callSX_1 (pc' := 10) C (c_X5_requireKept hst S a) dX5_hold_7 rfl km_X5_158 ks_yX5_requireKept kn_X5 kc_yX5_requireKept ⟨by decide, by decide, by decide +kernel⟩ ⟨by decide, by decide⟩ (by decide) ⟨by decide, by decide⟩ ⟨rfl, hR, ha⟩ (fun r7 μ7 hq7 hm7 => ?_) (fun E μ9 h9 => ?_) (by decide) (by decide)
    · obtain ⟨hk7, rfl, rfl⟩ := hq7
      dsimp only [Option.toList, List.nil_append, List.cons_append]
      refine mj_aload_n (pc' := 11) C dX5_hold_10 rfl rfl ?_
      refine mj_getV (pc' := 14) C dX5_hold_11 rfl (ci := 4) (f := 7) rfl (by decide) (by decide) (fun _ => rfl) (by decide) kf_X5_162 (hR.l12 (by first | assumption | omega)) (hR.fhl (by first | assumption | omega)) ?_
      refine mj_iload_n (pc' := 15) C dX5_hold_14 rfl rfl ?_
      refine mj_icmp_eq (tgt := 22) (pc' := 18) C dX5_hold_15 (by decide) rfl (fun h15 => ?_) (fun h15 => ?_)
      · have hbv : b1 (sf S 16 a ≠ v) = 0 := b1_f (fun h => h h15)
        refine mj_iconst (pc' := 23) (v := 0) C dX5_hold_22 rfl rfl ?_
        refine mj_istore_4 (pc' := 25) C dX5_hold_23 rfl (by decide) rfl ?_
        refine mj_aload_n (pc' := 26) C dX5_hold_25 rfl rfl ?_
        refine mj_iload_n (pc' := 27) C dX5_hold_26 rfl rfl ?_
        refine mj_putI (pc' := 30) C dX5_hold_27 rfl (ci := 4) (f := 7) rfl (by decide) (by decide) rfl (fun _ _ => rfl) (by decide) kf_X5_162 (by rcases hv with rfl | rfl <;> rfl) (by rcases hv with rfl | rfl <;> rfl) (hR.l12 (by first | assumption | omega)) ?_
        refine mj_iload (pc' := 32) C dX5_hold_30 rfl rfl ?_
        refine mj_zret C rfl dX5_hold_32 (by decide) (by decide) (by decide) ?_
        exact ret_of (o := o_hold S (nI a) v) (by unfold o_hold; rw [if_neg hb2, ea, if_neg (fun h => h hk7), hbv]) (xR_file hR (by omega)) (xF_sI (by decide) xF.rf)
      · have hbv : b1 (sf S 16 a ≠ v) = 1 := b1_t h15
        refine mj_iconst (pc' := 19) (v := 1) C dX5_hold_18 rfl rfl ?_
        refine mj_goto (pc' := 23) C dX5_hold_19 (by decide) ?_
        refine mj_istore_4 (pc' := 25) C dX5_hold_23 rfl (by decide) rfl ?_
        refine mj_aload_n (pc' := 26) C dX5_hold_25 rfl rfl ?_
        refine mj_iload_n (pc' := 27) C dX5_hold_26 rfl rfl ?_
        refine mj_putI (pc' := 30) C dX5_hold_27 rfl (ci := 4) (f := 7) rfl (by decide) (by decide) rfl (fun _ _ => rfl) (by decide) kf_X5_162 (by rcases hv with rfl | rfl <;> rfl) (by rcases hv with rfl | rfl <;> rfl) (hR.l12 (by first | assumption | omega)) ?_
        refine mj_iload (pc' := 32) C dX5_hold_30 rfl rfl ?_
        refine mj_zret C rfl dX5_hold_32 (by decide) (by decide) (by decide) ?_
        exact ret_of (o := o_hold S (nI a) v) (by unfold o_hold; rw [if_neg hb2, ea, if_neg (fun h => h hk7), hbv]) (xR_file hR (by omega)) (xF_sI (by decide) xF.rf)
    · obtain ⟨hb, rfl, rfl⟩ := h9
      exact thr_of (o := o_hold S (nI a) v) (by unfold o_hold; rw [if_neg hb2, ea, if_pos hb]) (by decide) hR xF.rf
  · obtain ⟨hb, rfl, rfl⟩ := h9
    exact thr_of (o := o_hold S i v) (by unfold o_hold; rw [if_pos hb]) (by decide) hR xF.rf

set_option maxRecDepth 20000 in
theorem c_X5_read {l : Launch} (hst : l.stackTraces = false) (S : jS) (i : Int32) : jMet l yX5_read cX5_read 4 (some FieldType.int) 8 180 4 24 (fun avs μ => avs = [aR 0 0, aI i] ∧ xR S μ ∧ sW S) (fun avs μ r μ' => (o_read S i).1 = 0 ∧ r = some (aI (o_read S i).2.1) ∧ xR (o_read S i).2.2 μ' ∧ xF μ μ') (fun avs μ E μ' => (o_read S i).1 ≠ 0 ∧ E = exn (o_read S i).1 ∧ xR S μ' ∧ xF μ μ') := by
  refine jMet_of hst (by decide) ?_
  intro avs μ J C hav hpre
  obtain ⟨rfl, hR, hW⟩ := hpre
  refine ⟨Nat.le_of_ble_eq_true rfl, ?_⟩
  show J 0 [some (aR 0 0), some (aI i), none, none] [] μ 0 0
  refine mj_aload_n (pc' := 1) C dX5_read_0 rfl rfl ?_
  refine mj_iload_n (pc' := 2) C dX5_read_1 rfl rfl ?_
  refine mj_callVX_1 (ci := 5) (pc' := 5) C (c_X5_fileAt hst S i) dX5_read_2 rfl km_X5_154 ki_yX5_fileAt kz_yX5_fileAt kn_X5 kc_yX5_fileAt rfl (by decide) (by decide) ⟨rfl, by decide, by decide, by decide +kernel⟩ ⟨by decide, by decide⟩ (by decide) ⟨by decide, by decide⟩ ⟨rfl, hR, hW⟩ (fun r2 μ2 hq2 hm2 => ?_) (fun E μ9 h9 => ?_) (by decide) (by decide)
  · obtain ⟨hb2, rfl, rfl⟩ := hq2
    dsimp only [Option.toList, List.nil_append, List.cons_append]
    obtain ⟨a, ha, rfl, ea⟩ := bad_of hb2 (by have := hW.1.1; omega)
    rw [ea]
    obtain ⟨u, hu, eu, pu⟩ := hR.flw ha
    obtain ⟨g, hg, eg⟩ := (hW.2.2.1 a ha).1
    have efL : fL S a = u := by unfold fL; rw [eu]; exact ix_nI (by omega)
    have efF : fF S a = g := by unfold fF; rw [eg]; exact ix_nI (by omega)
    refine mj_astore_n_2 (pc' := 6) C dX5_read_5 rfl (by decide) rfl ?_
    refine mj_aload_n (pc' := 7) C dX5_read_6 rfl rfl ?_
    refine mj_callSX_1 (pc' := 10) C (c_X5_requireKept hst S a) dX5_read_7 rfl km_X5_158 ks_yX5_requireKept kn_X5 kc_yX5_requireKept ⟨by decide, by decide, by decide +kernel⟩ ⟨by decide, by decide⟩ (by decide) ⟨by decide, by decide⟩ ⟨rfl, hR, ha⟩ (fun r7 μ7 hq7 hm7 => ?_) (fun E μ9 h9 => ?_) (by decide) (by decide)
    · obtain ⟨hk7, rfl, rfl⟩ := hq7
      dsimp only [Option.toList, List.nil_append, List.cons_append]
      refine mj_aload_n (pc' := 11) C dX5_read_10 rfl rfl ?_
      refine mj_aload_n (pc' := 12) C dX5_read_11 rfl rfl ?_
      refine mj_getV (pc' := 15) C dX5_read_12 rfl (ci := 4) (f := 3) rfl (by decide) (by decide) (fun _ => rfl) (by decide) kf_X5_165 (hR.l12 (by first | assumption | omega)) (hR.ffm (by first | assumption | omega)) ?_
      rw [eg]
      refine mj_callVX_1 (ci := 5) (pc' := 18) C (c_X5_requireReadable hst S g) dX5_read_15 rfl km_X5_51 ki_yX5_requireReadable kz_yX5_requireReadable kn_X5 kc_yX5_requireReadable rfl (by decide) (by decide) ⟨rfl, by decide, by decide, by decide +kernel⟩ ⟨by decide, by decide⟩ (by decide) ⟨by decide, by decide⟩ ⟨rfl, hR, hg⟩ (fun r15 μ15 hq15 hm15 => ?_) (fun E μ9 h9 => ?_) (by decide) (by decide)
      · obtain ⟨hr15, rfl, rfl⟩ := hq15
        dsimp only [Option.toList, List.nil_append, List.cons_append]
        refine mj_aload_n (pc' := 19) C dX5_read_18 rfl rfl ?_
        refine mj_getV (pc' := 22) C dX5_read_19 rfl (ci := 4) (f := 4) rfl (by decide) (by decide) (fun _ => rfl) (by decide) kf_X5_168 (hR.l12 (by first | assumption | omega)) (hR.fq (by first | assumption | omega)) ?_
        refine mj_aload_n (pc' := 23) C dX5_read_22 rfl rfl ?_
        refine mj_getR (pc' := 26) C dX5_read_23 rfl (ci := 4) (f := 1) rfl (by decide) (by decide) (fun _ => rfl) (by decide) kf_X5_170 (hR.l12 (by first | assumption | omega)) pu ?_
        refine mj_getV (pc' := 29) C dX5_read_26 rfl (ci := 2) (f := 1) rfl (by decide) (by decide) (fun _ => rfl) (by decide) kf_X5_115 (hR.B.l10 (by first | assumption | omega)) (hR.ll (by first | assumption | omega)) ?_
        refine mj_icmp_ge (tgt := 42) (pc' := 32) C dX5_read_29 (by decide) rfl (fun h29 => ?_) (fun h29 => ?_)
        · have hno : ¬ (sf S 15 a ≠ 0 ∨ ¬ canR S (fF S a) ∨ sf S 12 a < sf S 7 (fL S a)) := by rw [efF, efL]; rintro (h | h | h); exact h hk7; exact h hr15; exact absurd h (Int32.not_lt.mpr h29)
          refine mj_aload_n (pc' := 43) C dX5_read_42 rfl rfl ?_
          refine mj_getV (pc' := 46) C dX5_read_43 rfl (ci := 5) (f := 5) rfl (by decide) (by decide) (fun _ => rfl) (by decide) kf_X5_44 hR.B.l0 hR.now ?_
          refine mj_aload_n (pc' := 47) C dX5_read_46 rfl rfl ?_
          refine mj_getV (pc' := 50) C dX5_read_47 rfl (ci := 4) (f := 5) rfl (by decide) (by decide) (fun _ => rfl) (by decide) kf_X5_176 (hR.l12 (by first | assumption | omega)) (hR.frd (by first | assumption | omega)) ?_
          refine mj_isub (pc' := 51) C dX5_read_50 rfl ?_
          refine mj_istore_n_3 (pc' := 52) C dX5_read_51 rfl (by decide) rfl ?_
          refine mj_aload_n (pc' := 53) C dX5_read_52 rfl rfl ?_
          refine mj_aload_n (pc' := 54) C dX5_read_53 rfl rfl ?_
          refine mj_getV (pc' := 57) C dX5_read_54 rfl (ci := 5) (f := 5) rfl (by decide) (by decide) (fun _ => rfl) (by decide) kf_X5_44 hR.B.l0 hR.now ?_
          refine mj_putI (pc' := 60) C dX5_read_57 rfl (ci := 4) (f := 5) rfl (by decide) (by decide) rfl (fun _ _ => rfl) (by decide) kf_X5_176 rfl rfl (hR.l12 (by first | assumption | omega)) ?_
          refine mj_iload_n (pc' := 61) C dX5_read_60 rfl rfl ?_
          refine mj_iret C dX5_read_61 (by decide) (by decide) (by decide) ?_
          exact ret_of (o := o_read S (nI a)) (by unfold o_read; rw [if_neg hb2, ea, if_neg hno]) (xR_file hR (by omega)) (xF_sI (by decide) xF.rf)
        · refine mj_throw C (text := "the quality is below the least one of the law") (names := ["java/lang/RuntimeException", "java/lang/Exception"]) dX5_read_32 dX5_read_35 dX5_read_36 dX5_read_38 dX5_read_41 rfl rfl kl_X5_64 kn_ISE thrw_3 thrk_3 (by decide) (by decide) (by decide) (by decide) (by decide) (by decide) (by decide) ?_
          exact thr_of (o := o_read S (nI a)) (by unfold o_read; rw [if_neg hb2, ea, efL, if_pos (Or.inr (Or.inr (Int32.not_le.mp h29)))]) (by decide) hR xF.rf
      · obtain ⟨hb, rfl, rfl⟩ := h9
        exact thr_of (o := o_read S (nI a)) (by unfold o_read; rw [if_neg hb2, ea, efF, if_pos (Or.inr (Or.inl hb))]) (by decide) hR xF.rf
    · obtain ⟨hb, rfl, rfl⟩ := h9
      exact thr_of (o := o_read S (nI a)) (by unfold o_read; rw [if_neg hb2, ea, if_pos (Or.inl hb)]) (by decide) hR xF.rf
  · obtain ⟨hb, rfl, rfl⟩ := h9
    exact thr_of (o := o_read S i) (by unfold o_read; rw [if_pos hb]) (by decide) hR xF.rf

set_option maxRecDepth 20000 in
theorem c_X5_stateOf {l : Launch} (hst : l.stackTraces = false) (S : jS) (i : Int32) : jMet l yX5_stateOf cX5_stateOf 2 (some FieldType.int) 8 180 1 6 (fun avs μ => avs = [aR 0 0, aI i] ∧ xR S μ ∧ sW S) (fun avs μ r μ' => (o_get S 15 i).1 = 0 ∧ r = some (aI (o_get S 15 i).2.1) ∧ xR (o_get S 15 i).2.2 μ' ∧ xF μ μ') (fun avs μ E μ' => (o_get S 15 i).1 ≠ 0 ∧ E = exn (o_get S 15 i).1 ∧ xR S μ' ∧ xF μ μ') := by
  refine jMet_of hst (by decide) ?_
  intro avs μ J C hav hpre
  obtain ⟨rfl, hR, hW⟩ := hpre
  refine ⟨Nat.le_of_ble_eq_true rfl, ?_⟩
  show J 0 [some (aR 0 0), some (aI i)] [] μ 0 0
  refine mj_aload_n (pc' := 1) C dX5_stateOf_0 rfl rfl ?_
  refine mj_iload_n (pc' := 2) C dX5_stateOf_1 rfl rfl ?_
  refine mj_callVX_1 (ci := 5) (pc' := 5) C (c_X5_fileAt hst S i) dX5_stateOf_2 rfl km_X5_154 ki_yX5_fileAt kz_yX5_fileAt kn_X5 kc_yX5_fileAt rfl (by decide) (by decide) ⟨rfl, by decide, by decide, by decide +kernel⟩ ⟨by decide, by decide⟩ (by decide) ⟨by decide, by decide⟩ ⟨rfl, hR, hW⟩ (fun r2 μ2 hq2 hm2 => ?_) (fun E μ9 h9 => ?_) (by decide) (by decide)
  · obtain ⟨hb2, rfl, rfl⟩ := hq2
    dsimp only [Option.toList, List.nil_append, List.cons_append]
    obtain ⟨a, ha, rfl, ea⟩ := bad_of hb2 (by have := hW.1.1; omega)
    rw [ea]
    refine mj_getV (pc' := 8) C dX5_stateOf_5 rfl (ci := 4) (f := 6) rfl (by decide) (by decide) (fun _ => rfl) (by decide) kf_X5_203 (hR.l12 (by first | assumption | omega)) (hR.fst (by first | assumption | omega)) ?_
    refine mj_iret C dX5_stateOf_8 (by decide) (by decide) (by decide) ?_
    exact ret_of (o := o_get S 15 (nI a)) (by unfold o_get; rw [if_neg hb2, ea]) hR xF.rf
  · obtain ⟨hb, rfl, rfl⟩ := h9
    exact thr_of (o := o_get S 15 i) (by unfold o_get; rw [if_pos hb]) (by decide) hR xF.rf

set_option maxRecDepth 20000 in
theorem c_X5_formatOf {l : Launch} (hst : l.stackTraces = false) (S : jS) (i : Int32) : jMet l yX5_formatOf cX5_formatOf 2 (some FieldType.int) 8 180 1 6 (fun avs μ => avs = [aR 0 0, aI i] ∧ xR S μ ∧ sW S) (fun avs μ r μ' => (o_get S 9 i).1 = 0 ∧ r = some (aI (o_get S 9 i).2.1) ∧ xR (o_get S 9 i).2.2 μ' ∧ xF μ μ') (fun avs μ E μ' => (o_get S 9 i).1 ≠ 0 ∧ E = exn (o_get S 9 i).1 ∧ xR S μ' ∧ xF μ μ') := by
  refine jMet_of hst (by decide) ?_
  intro avs μ J C hav hpre
  obtain ⟨rfl, hR, hW⟩ := hpre
  refine ⟨Nat.le_of_ble_eq_true rfl, ?_⟩
  show J 0 [some (aR 0 0), some (aI i)] [] μ 0 0
  refine mj_aload_n (pc' := 1) C dX5_formatOf_0 rfl rfl ?_
  refine mj_iload_n (pc' := 2) C dX5_formatOf_1 rfl rfl ?_
  refine mj_callVX_1 (ci := 5) (pc' := 5) C (c_X5_fileAt hst S i) dX5_formatOf_2 rfl km_X5_154 ki_yX5_fileAt kz_yX5_fileAt kn_X5 kc_yX5_fileAt rfl (by decide) (by decide) ⟨rfl, by decide, by decide, by decide +kernel⟩ ⟨by decide, by decide⟩ (by decide) ⟨by decide, by decide⟩ ⟨rfl, hR, hW⟩ (fun r2 μ2 hq2 hm2 => ?_) (fun E μ9 h9 => ?_) (by decide) (by decide)
  · obtain ⟨hb2, rfl, rfl⟩ := hq2
    dsimp only [Option.toList, List.nil_append, List.cons_append]
    obtain ⟨a, ha, rfl, ea⟩ := bad_of hb2 (by have := hW.1.1; omega)
    rw [ea]
    refine mj_getV (pc' := 8) C dX5_formatOf_5 rfl (ci := 4) (f := 3) rfl (by decide) (by decide) (fun _ => rfl) (by decide) kf_X5_165 (hR.l12 (by first | assumption | omega)) (hR.ffm (by first | assumption | omega)) ?_
    refine mj_iret C dX5_formatOf_8 (by decide) (by decide) (by decide) ?_
    exact ret_of (o := o_get S 9 (nI a)) (by unfold o_get; rw [if_neg hb2, ea]) hR xF.rf
  · obtain ⟨hb, rfl, rfl⟩ := h9
    exact thr_of (o := o_get S 9 i) (by unfold o_get; rw [if_pos hb]) (by decide) hR xF.rf

set_option maxRecDepth 20000 in
theorem c_X5_qualityOf {l : Launch} (hst : l.stackTraces = false) (S : jS) (i : Int32) : jMet l yX5_qualityOf cX5_qualityOf 2 (some FieldType.int) 8 180 1 6 (fun avs μ => avs = [aR 0 0, aI i] ∧ xR S μ ∧ sW S) (fun avs μ r μ' => (o_get S 12 i).1 = 0 ∧ r = some (aI (o_get S 12 i).2.1) ∧ xR (o_get S 12 i).2.2 μ' ∧ xF μ μ') (fun avs μ E μ' => (o_get S 12 i).1 ≠ 0 ∧ E = exn (o_get S 12 i).1 ∧ xR S μ' ∧ xF μ μ') := by
  refine jMet_of hst (by decide) ?_
  intro avs μ J C hav hpre
  obtain ⟨rfl, hR, hW⟩ := hpre
  refine ⟨Nat.le_of_ble_eq_true rfl, ?_⟩
  show J 0 [some (aR 0 0), some (aI i)] [] μ 0 0
  refine mj_aload_n (pc' := 1) C dX5_qualityOf_0 rfl rfl ?_
  refine mj_iload_n (pc' := 2) C dX5_qualityOf_1 rfl rfl ?_
  refine mj_callVX_1 (ci := 5) (pc' := 5) C (c_X5_fileAt hst S i) dX5_qualityOf_2 rfl km_X5_154 ki_yX5_fileAt kz_yX5_fileAt kn_X5 kc_yX5_fileAt rfl (by decide) (by decide) ⟨rfl, by decide, by decide, by decide +kernel⟩ ⟨by decide, by decide⟩ (by decide) ⟨by decide, by decide⟩ ⟨rfl, hR, hW⟩ (fun r2 μ2 hq2 hm2 => ?_) (fun E μ9 h9 => ?_) (by decide) (by decide)
  · obtain ⟨hb2, rfl, rfl⟩ := hq2
    dsimp only [Option.toList, List.nil_append, List.cons_append]
    obtain ⟨a, ha, rfl, ea⟩ := bad_of hb2 (by have := hW.1.1; omega)
    rw [ea]
    refine mj_getV (pc' := 8) C dX5_qualityOf_5 rfl (ci := 4) (f := 4) rfl (by decide) (by decide) (fun _ => rfl) (by decide) kf_X5_168 (hR.l12 (by first | assumption | omega)) (hR.fq (by first | assumption | omega)) ?_
    refine mj_iret C dX5_qualityOf_8 (by decide) (by decide) (by decide) ?_
    exact ret_of (o := o_get S 12 (nI a)) (by unfold o_get; rw [if_neg hb2, ea]) hR xF.rf
  · obtain ⟨hb, rfl, rfl⟩ := h9
    exact thr_of (o := o_get S 12 i) (by unfold o_get; rw [if_pos hb]) (by decide) hR xF.rf

set_option maxRecDepth 20000 in
theorem c_X5_endOf {l : Launch} (hst : l.stackTraces = false) (S : jS) (i : Int32) : jMet l yX5_endOf cX5_endOf 2 (some FieldType.int) 8 180 1 6 (fun avs μ => avs = [aR 0 0, aI i] ∧ xR S μ ∧ sW S) (fun avs μ r μ' => (o_get S 13 i).1 = 0 ∧ r = some (aI (o_get S 13 i).2.1) ∧ xR (o_get S 13 i).2.2 μ' ∧ xF μ μ') (fun avs μ E μ' => (o_get S 13 i).1 ≠ 0 ∧ E = exn (o_get S 13 i).1 ∧ xR S μ' ∧ xF μ μ') := by
  refine jMet_of hst (by decide) ?_
  intro avs μ J C hav hpre
  obtain ⟨rfl, hR, hW⟩ := hpre
  refine ⟨Nat.le_of_ble_eq_true rfl, ?_⟩
  show J 0 [some (aR 0 0), some (aI i)] [] μ 0 0
  refine mj_aload_n (pc' := 1) C dX5_endOf_0 rfl rfl ?_
  refine mj_iload_n (pc' := 2) C dX5_endOf_1 rfl rfl ?_
  refine mj_callVX_1 (ci := 5) (pc' := 5) C (c_X5_fileAt hst S i) dX5_endOf_2 rfl km_X5_154 ki_yX5_fileAt kz_yX5_fileAt kn_X5 kc_yX5_fileAt rfl (by decide) (by decide) ⟨rfl, by decide, by decide, by decide +kernel⟩ ⟨by decide, by decide⟩ (by decide) ⟨by decide, by decide⟩ ⟨rfl, hR, hW⟩ (fun r2 μ2 hq2 hm2 => ?_) (fun E μ9 h9 => ?_) (by decide) (by decide)
  · obtain ⟨hb2, rfl, rfl⟩ := hq2
    dsimp only [Option.toList, List.nil_append, List.cons_append]
    obtain ⟨a, ha, rfl, ea⟩ := bad_of hb2 (by have := hW.1.1; omega)
    rw [ea]
    refine mj_getV (pc' := 8) C dX5_endOf_5 rfl (ci := 4) (f := 2) rfl (by decide) (by decide) (fun _ => rfl) (by decide) kf_X5_210 (hR.l12 (by first | assumption | omega)) (hR.fen (by first | assumption | omega)) ?_
    refine mj_iret C dX5_endOf_8 (by decide) (by decide) (by decide) ?_
    exact ret_of (o := o_get S 13 (nI a)) (by unfold o_get; rw [if_neg hb2, ea]) hR xF.rf
  · obtain ⟨hb, rfl, rfl⟩ := h9
    exact thr_of (o := o_get S 13 i) (by unfold o_get; rw [if_pos hb]) (by decide) hR xF.rf

set_option maxRecDepth 20000 in
theorem c_X5_setBudget {l : Launch} (hst : l.stackTraces = false) (S : jS) (b : Int32) : jMet l yX5_setBudget cX5_setBudget 3 (some FieldType.int) 8 180 1 6 (fun avs μ => avs = [aR 0 0, aI b] ∧ xR S μ ∧ sW S) (fun avs μ r μ' => (o_setBudget S b).1 = 0 ∧ r = some (aI (o_setBudget S b).2.1) ∧ xR (o_setBudget S b).2.2 μ' ∧ xF μ μ') (fun avs μ E μ' => (o_setBudget S b).1 ≠ 0 ∧ E = exn (o_setBudget S b).1 ∧ xR S μ' ∧ xF μ μ') := by
  refine jMet_of hst (by decide) ?_
  intro avs μ J C hav hpre
  obtain ⟨rfl, hR, hW⟩ := hpre
  refine ⟨Nat.le_of_ble_eq_true rfl, ?_⟩
  show J 0 [some (aR 0 0), some (aI b), none] [] μ 0 0
  refine mj_iload_n (pc' := 1) C dX5_setBudget_0 rfl rfl ?_
  refine mj_iconst (pc' := 2) (v := 0) C dX5_setBudget_1 rfl rfl ?_
  refine mj_ldc (pc' := 4) C dX5_setBudget_2 rfl kk_X5_213 ?_
  refine mj_callSX_3 (pc' := 7) C (c_X5_requireRange hst b 0 1000000) dX5_setBudget_4 rfl km_X5_47 ks_yX5_requireRange kn_X5 kc_yX5_requireRange ⟨by decide, by decide, by decide +kernel⟩ ⟨by decide, by decide⟩ (by decide) ⟨by decide, by decide⟩ rfl (fun r4 μ4 hq4 hm4 => ?_) (fun E μ9 h9 => ?_) (by decide) (by decide)
  · obtain ⟨hb4, rfl, rfl⟩ := hq4
    dsimp only [Option.toList, List.nil_append, List.cons_append]
    refine mj_aload_n (pc' := 8) C dX5_setBudget_7 rfl rfl ?_
    refine mj_getV (pc' := 11) C dX5_setBudget_8 rfl (ci := 5) (f := 6) rfl (by decide) (by decide) (fun _ => rfl) (by decide) kf_X5_32 hR.B.l0 hR.bud ?_
    refine mj_istore_n_2 (pc' := 12) C dX5_setBudget_11 rfl (by decide) rfl ?_
    refine mj_aload_n (pc' := 13) C dX5_setBudget_12 rfl rfl ?_
    refine mj_iload_n (pc' := 14) C dX5_setBudget_13 rfl rfl ?_
    refine mj_putI (pc' := 17) C dX5_setBudget_14 rfl (ci := 5) (f := 6) rfl (by decide) (by decide) rfl (fun _ _ => rfl) (by decide) kf_X5_32 rfl rfl hR.B.l0 ?_
    refine mj_iload_n (pc' := 18) C dX5_setBudget_17 rfl rfl ?_
    refine mj_iret C dX5_setBudget_18 (by decide) (by decide) (by decide) ?_
    exact ret_of (o := o_setBudget S b) (by unfold o_setBudget; rw [if_neg (fun h => h.elim (fun q => absurd q (Int32.not_lt.mpr hb4.1)) (fun q => absurd q (Int32.not_lt.mpr hb4.2)))]) (xR_vault hR (by omega)) (xF_sI (by decide) xF.rf)
  · obtain ⟨hb, rfl, rfl⟩ := h9
    exact thr_of (o := o_setBudget S b) (by unfold o_setBudget; rw [if_pos hb]) (by decide) hR xF.rf

set_option maxRecDepth 20000 in
theorem c_X5_left {l : Launch} (hst : l.stackTraces = false) (S : jS) : jMet l yX5_left cX5_left 1 (some FieldType.int) 8 180 0 0 (fun avs μ => avs = [aR 0 0] ∧ xR S μ ∧ sW S) (fun avs μ r μ' => r = some (aI (sf S 17 1)) ∧ μ' = μ) (fun avs μ E μ' => False) := by
  refine jMet_of hst (by decide) ?_
  intro avs μ J C hav hpre
  obtain ⟨rfl, hR, hW⟩ := hpre
  refine ⟨Nat.le_of_ble_eq_true rfl, ?_⟩
  show J 0 [some (aR 0 0)] [] μ 0 0
  refine mj_aload_n (pc' := 1) C dX5_left_0 rfl rfl ?_
  refine mj_getV (pc' := 4) C dX5_left_1 rfl (ci := 5) (f := 7) rfl (by decide) (by decide) (fun _ => rfl) (by decide) kf_X5_36 hR.B.l0 hR.uns ?_
  refine mj_iret C dX5_left_4 (by decide) (by decide) (by decide) ?_
  exact ⟨rfl, rfl⟩

set_option maxRecDepth 20000 in
theorem c_X5_year {l : Launch} (hst : l.stackTraces = false) (S : jS) : jMet l yX5_year cX5_year 1 (some FieldType.int) 8 180 0 0 (fun avs μ => avs = [aR 0 0] ∧ xR S μ ∧ sW S) (fun avs μ r μ' => r = some (aI (sf S 17 2)) ∧ μ' = μ) (fun avs μ E μ' => False) := by
  refine jMet_of hst (by decide) ?_
  intro avs μ J C hav hpre
  obtain ⟨rfl, hR, hW⟩ := hpre
  refine ⟨Nat.le_of_ble_eq_true rfl, ?_⟩
  show J 0 [some (aR 0 0)] [] μ 0 0
  refine mj_aload_n (pc' := 1) C dX5_year_0 rfl rfl ?_
  refine mj_getV (pc' := 4) C dX5_year_1 rfl (ci := 5) (f := 5) rfl (by decide) (by decide) (fun _ => rfl) (by decide) kf_X5_44 hR.B.l0 hR.now ?_
  refine mj_iret C dX5_year_4 (by decide) (by decide) (by decide) ?_
  exact ⟨rfl, rfl⟩

set_option maxRecDepth 20000 in
theorem c_X5_isSafe {l : Launch} (hst : l.stackTraces = false) (S : jS) (i : Int32) : jMet l yX5_isSafe cX5_isSafe 3 (some FieldType.boolean) 8 180 1 6 (fun avs μ => avs = [aR 0 0, aI i] ∧ xR S μ ∧ sW S) (fun avs μ r μ' => (o_isSafe S i).1 = 0 ∧ r = some (aI (o_isSafe S i).2.1) ∧ xR (o_isSafe S i).2.2 μ' ∧ xF μ μ') (fun avs μ E μ' => (o_isSafe S i).1 ≠ 0 ∧ E = exn (o_isSafe S i).1 ∧ xR S μ' ∧ xF μ μ') := by
  refine jMet_of hst (by decide) ?_
  intro avs μ J C hav hpre
  obtain ⟨rfl, hR, hW⟩ := hpre
  refine ⟨Nat.le_of_ble_eq_true rfl, ?_⟩
  show J 0 [some (aR 0 0), some (aI i), none] [] μ 0 0
  refine mj_aload_n (pc' := 1) C dX5_isSafe_0 rfl rfl ?_
  refine mj_iload_n (pc' := 2) C dX5_isSafe_1 rfl rfl ?_
  refine mj_callVX_1 (ci := 5) (pc' := 5) C (c_X5_fileAt hst S i) dX5_isSafe_2 rfl km_X5_154 ki_yX5_fileAt kz_yX5_fileAt kn_X5 kc_yX5_fileAt rfl (by decide) (by decide) ⟨rfl, by decide, by decide, by decide +kernel⟩ ⟨by decide, by decide⟩ (by decide) ⟨by decide, by decide⟩ ⟨rfl, hR, hW⟩ (fun r2 μ2 hq2 hm2 => ?_) (fun E μ9 h9 => ?_) (by decide) (by decide)
  · obtain ⟨hb2, rfl, rfl⟩ := hq2
    dsimp only [Option.toList, List.nil_append, List.cons_append]
    obtain ⟨a, ha, rfl, ea⟩ := bad_of hb2 (by have := hW.1.1; omega)
    rw [ea]
    obtain ⟨g, hg, eg⟩ := (hW.2.2.1 a ha).1
    have efF : fF S a = g := by unfold fF; rw [eg]; exact ix_nI (by omega)
    refine mj_astore_n_2 (pc' := 6) C dX5_isSafe_5 rfl (by decide) rfl ?_
    refine mj_aload_n (pc' := 7) C dX5_isSafe_6 rfl rfl ?_
    refine mj_getV (pc' := 10) C dX5_isSafe_7 rfl (ci := 4) (f := 6) rfl (by decide) (by decide) (fun _ => rfl) (by decide) kf_X5_203 (hR.l12 (by first | assumption | omega)) (hR.fst (by first | assumption | omega)) ?_
    refine mj_if_ne (tgt := 29) (pc' := 13) C dX5_isSafe_10 (by decide) rfl (fun h10 => ?_) (fun h10 => ?_)
    · have hbv : b1 (sf S 15 a = 0 ∧ safe S a (fF S a)) = 0 := b1_f (fun h => h10 h.1)
      refine mj_iconst (pc' := 30) (v := 0) C dX5_isSafe_29 rfl rfl ?_
      refine mj_zret C rfl dX5_isSafe_30 (by decide) (by decide) (by decide) ?_
      exact ret_of (o := o_isSafe S (nI a)) (by unfold o_isSafe; rw [if_neg hb2, ea, hbv]) hR xF.rf
    · refine mj_aload_n (pc' := 14) C dX5_isSafe_13 rfl rfl ?_
      refine mj_aload_n (pc' := 15) C dX5_isSafe_14 rfl rfl ?_
      refine mj_aload_n (pc' := 16) C dX5_isSafe_15 rfl rfl ?_
      refine mj_getV (pc' := 19) C dX5_isSafe_16 rfl (ci := 4) (f := 3) rfl (by decide) (by decide) (fun _ => rfl) (by decide) kf_X5_165 (hR.l12 (by first | assumption | omega)) (hR.ffm (by first | assumption | omega)) ?_
      rw [eg]
      refine mj_callVN_2 (ci := 5) (pc' := 22) C (c_X5_isSafeIn hst S a g) dX5_isSafe_19 rfl km_X5_206 ki_yX5_isSafeIn kz_yX5_isSafeIn kn_X5 kc_yX5_isSafeIn rfl (by decide) (by decide) ⟨rfl, by decide, by decide, by decide +kernel⟩ ⟨by decide, by decide⟩ (by decide) ⟨by decide, by decide⟩ ⟨rfl, hR, hW, ha, hg⟩ (fun r19 μ19 hq19 hm19 => ?_) (fun _ _ h9 => h9)
      obtain ⟨rfl, rfl⟩ := hq19
      dsimp only [Option.toList, List.nil_append, List.cons_append]
      refine mj_if_eq (tgt := 29) (pc' := 25) C dX5_isSafe_22 (by decide) rfl (fun h22 => ?_) (fun h22 => ?_)
      · have hbv : b1 (sf S 15 a = 0 ∧ safe S a (fF S a)) = 0 := b1_f (fun h => b1_0.mp h22 (by rw [← efF]; exact h.2))
        refine mj_iconst (pc' := 30) (v := 0) C dX5_isSafe_29 rfl rfl ?_
        refine mj_zret C rfl dX5_isSafe_30 (by decide) (by decide) (by decide) ?_
        exact ret_of (o := o_isSafe S (nI a)) (by unfold o_isSafe; rw [if_neg hb2, ea, hbv]) hR xF.rf
      · have hbv : b1 (sf S 15 a = 0 ∧ safe S a (fF S a)) = 1 := b1_t ⟨h10, by rw [efF]; exact b1_n h22⟩
        refine mj_iconst (pc' := 26) (v := 1) C dX5_isSafe_25 rfl rfl ?_
        refine mj_goto (pc' := 30) C dX5_isSafe_26 (by decide) ?_
        refine mj_zret C rfl dX5_isSafe_30 (by decide) (by decide) (by decide) ?_
        exact ret_of (o := o_isSafe S (nI a)) (by unfold o_isSafe; rw [if_neg hb2, ea, hbv]) hR xF.rf
  · obtain ⟨hb, rfl, rfl⟩ := h9
    exact thr_of (o := o_isSafe S i) (by unfold o_isSafe; rw [if_pos hb]) (by decide) hR xF.rf
end
