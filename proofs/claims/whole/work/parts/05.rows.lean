/-! ROWS: an instruction over V -/
section VR
variable {X : XX} {G : GG} {M : Mem} {cc : ByteArray} {nL pc fr lo : Nat} {own : String} {ret : Option FieldType} {lv : List (Option Value)} {st : List Value}
theorem lv_get {ls : Array Slot} {k : Nat} {v : Value} (h : lv_has ls nL (lvp lv)) (hk : lv[k]? = some (some v)) : ls[k]? = some (.val v) := h.2.2 (k, v) (lvp_mem.mpr hk)
def lng (lv : List (Option Value)) (i : Nat) : Bool := match i with
  | 0 => false
  | k + 1 => match lv[k]? with
    | some (some v) => v.category == 2
    | _ => false
theorem lv_put1 {ls : Array Slot} {i : Nat} {v : Value} (h : lv_has ls nL ((i, v) :: (lvp lv).filter (fun q => !(q.1 == i) && !(q.1 + 1 == i && q.2.category == 2)))) (hg : lng lv i = false) : lv_has ls nL (lvp (lv.set i (some v))) := by
  refine ⟨h.1, h.2.1, fun q hq => h.2.2 q ?_⟩
  obtain ⟨k, w⟩ := q
  have hk := lvp_mem.mp hq
  by_cases hki : k = i
  · subst hki
    have hlt : k < lv.length := by
      have := (List.getElem?_eq_some_iff.mp hk).1
      simpa using this
    rw [List.getElem?_set_self hlt] at hk
    cases hk
    exact List.mem_cons_self
  · rw [List.getElem?_set_ne (fun z => hki z.symm)] at hk
    refine List.mem_cons_of_mem _ (List.mem_filter.mpr ⟨lvp_mem.mpr hk, ?_⟩)
    have hn : ¬ (k + 1 = i ∧ w.category = 2) := by
      rintro ⟨rfl, h2⟩
      simp [lng, hk, h2] at hg
    simp only [Bool.and_eq_true, Bool.not_eq_true', beq_eq_false_iff_ne, ne_eq, Bool.and_eq_false_iff]
    refine ⟨hki, ?_⟩
    by_cases h1 : k + 1 = i
    · exact Or.inr (fun h2 => hn ⟨h1, h2⟩)
    · exact Or.inl h1
theorem lv_put2 {ls : Array Slot} {i : Nat} {v : Value} (h : lv_has ls nL ((i, v) :: (lvp lv).filter (fun q => !(q.1 == i) && (!(q.1 == i + 1) && !(q.1 + 1 == i && q.2.category == 2))))) (hg : lng lv i = false) : lv_has ls nL (lvp ((lv.set i (some v)).set (i + 1) none)) := by
  refine ⟨h.1, h.2.1, fun q hq => h.2.2 q ?_⟩
  obtain ⟨k, w⟩ := q
  have hk := lvp_mem.mp hq
  by_cases hki1 : k = i + 1
  · subst hki1
    have hlt : i + 1 < lv.length := by
      have := (List.getElem?_eq_some_iff.mp hk).1
      simpa using this
    rw [List.getElem?_set_self (by simpa using hlt)] at hk
    cases hk
  · rw [List.getElem?_set_ne (fun z => hki1 z.symm)] at hk
    by_cases hki : k = i
    · subst hki
      have hlt : k < lv.length := by
        have := (List.getElem?_eq_some_iff.mp hk).1
        simpa using this
      rw [List.getElem?_set_self hlt] at hk
      cases hk
      exact List.mem_cons_self
    · rw [List.getElem?_set_ne (fun z => hki z.symm)] at hk
      refine List.mem_cons_of_mem _ (List.mem_filter.mpr ⟨lvp_mem.mpr hk, ?_⟩)
      have hn : ¬ (k + 1 = i ∧ w.category = 2) := by
        rintro ⟨rfl, h2⟩
        simp [lng, hk, h2] at hg
      simp only [Bool.and_eq_true, Bool.not_eq_true', beq_eq_false_iff_ne, ne_eq, Bool.and_eq_false_iff]
      refine ⟨hki, hki1, ?_⟩
      by_cases h1 : k + 1 = i
      · exact Or.inr (fun h2 => hn ⟨h1, h2⟩)
      · exact Or.inl h1
def msk : List Bool → List (Option Value) → List (Option Value)
  | true :: bs, v :: l => v :: msk bs l
  | false :: bs, _ :: l => none :: msk bs l
  | _, _ => []
theorem msk_get : ∀ (bs : List Bool) (lv : List (Option Value)) (k : Nat) (v : Value), (msk bs lv)[k]? = some (some v) → lv[k]? = some (some v)
  | [], _, k, v, h => by simp [msk] at h
  | _ :: _, [], k, v, h => by simp [msk] at h
  | true :: bs, a :: l, 0, v, h => by simpa [msk] using h
  | false :: bs, a :: l, 0, v, h => by simp [msk] at h
  | true :: bs, a :: l, k + 1, v, h => by
    have := msk_get bs l k v (by simpa [msk] using h)
    simpa using this
  | false :: bs, a :: l, k + 1, v, h => by
    have := msk_get bs l k v (by simpa [msk] using h)
    simpa using this
/-- fewer locals told -/
theorem v_weak (bs : List Bool) (k : V X G nL M pc (msk bs lv) st) : V X G nL M pc lv st := fun H locs ls hP hS hl => k H locs ls hP hS ⟨hl.1, hl.2.1, fun q hq => hl.2.2 q (by
  obtain ⟨i, v⟩ := q
  exact lvp_mem.mpr (msk_get bs lv i v (lvp_mem.mp hq)))⟩
theorem v_iload_n (C : Cx X G cc nL own fr lo ret) {k : Fin 4} {x : Int32} (hd : decode cc pc = .ok (.iload_n k, 1)) (hl : lv[(k : Nat)]? = some (some (.int x))) (K : V X G nL M (pc + 1) lv (.int x :: st)) : V X G nL M pc lv st := fun H locs ls hP hS h => lv_iload_n C.1 C.2.1 hd rfl (lv_get h hl) (K H locs ls hP hS h)
theorem v_iload (C : Cx X G cc nL own fr lo ret) {k : Nat} {x : Int32} (hd : decode cc pc = .ok (.iload k, 2)) (hl : lv[k]? = some (some (.int x))) (K : V X G nL M (pc + 2) lv (.int x :: st)) : V X G nL M pc lv st := fun H locs ls hP hS h => lv_iload C.1 C.2.1 hd (lv_get h hl) (K H locs ls hP hS h)
theorem v_lload_n (C : Cx X G cc nL own fr lo ret) {k : Fin 4} {x : Int64} (hd : decode cc pc = .ok (.lload_n k, 1)) (hl : lv[(k : Nat)]? = some (some (.long x))) (K : V X G nL M (pc + 1) lv (.long x :: st)) : V X G nL M pc lv st := fun H locs ls hP hS h => lv_lload_n C.1 C.2.1 hd rfl (lv_get h hl) (K H locs ls hP hS h)
theorem v_lload (C : Cx X G cc nL own fr lo ret) {k : Nat} {x : Int64} (hd : decode cc pc = .ok (.lload k, 2)) (hl : lv[k]? = some (some (.long x))) (K : V X G nL M (pc + 2) lv (.long x :: st)) : V X G nL M pc lv st := fun H locs ls hP hS h => lv_lload C.1 C.2.1 hd (lv_get h hl) (K H locs ls hP hS h)
theorem v_aload_n (C : Cx X G cc nL own fr lo ret) {k : Fin 4} {x : Nat} (hd : decode cc pc = .ok (.aload_n k, 1)) (hl : lv[(k : Nat)]? = some (some (.ref x))) (K : V X G nL M (pc + 1) lv (.ref x :: st)) : V X G nL M pc lv st := fun H locs ls hP hS h => lv_aload_n C.1 C.2.1 hd rfl (lv_get h hl) (K H locs ls hP hS h)
theorem v_aload (C : Cx X G cc nL own fr lo ret) {k : Nat} {x : Nat} (hd : decode cc pc = .ok (.aload k, 2)) (hl : lv[k]? = some (some (.ref x))) (K : V X G nL M (pc + 2) lv (.ref x :: st)) : V X G nL M pc lv st := fun H locs ls hP hS h => lv_aload C.1 C.2.1 hd (lv_get h hl) (K H locs ls hP hS h)
theorem v_istore_n (C : Cx X G cc nL own fr lo ret) {k : Fin 4} {x : Int32} (hd : decode cc pc = .ok (.istore_n k, 1)) (hn : (k : Nat) < nL) (hg : lng lv k = false) (K : V X G nL M (pc + 1) (lv.set k (some (.int x))) st) : V X G nL M pc lv (.int x :: st) := fun H locs ls hP hS h => lv_istore_n C.1 C.2.1 hd rfl h hn rfl (fun ls' h' => K H locs ls' hP hS (lv_put1 h' hg))
theorem v_istore (C : Cx X G cc nL own fr lo ret) {k : Nat} {x : Int32} (hd : decode cc pc = .ok (.istore k, 2)) (hn : k < nL) (hg : lng lv k = false) (K : V X G nL M (pc + 2) (lv.set k (some (.int x))) st) : V X G nL M pc lv (.int x :: st) := fun H locs ls hP hS h => lv_istore C.1 C.2.1 hd h hn rfl (fun ls' h' => K H locs ls' hP hS (lv_put1 h' hg))
theorem v_astore_n (C : Cx X G cc nL own fr lo ret) {k : Fin 4} {x : Nat} (hd : decode cc pc = .ok (.astore_n k, 1)) (hn : (k : Nat) < nL) (hg : lng lv k = false) (K : V X G nL M (pc + 1) (lv.set k (some (.ref x))) st) : V X G nL M pc lv (.ref x :: st) := fun H locs ls hP hS h => lv_astore_n C.1 C.2.1 hd rfl h hn rfl (fun ls' h' => K H locs ls' hP hS (lv_put1 h' hg))
theorem v_astore (C : Cx X G cc nL own fr lo ret) {k : Nat} {x : Nat} (hd : decode cc pc = .ok (.astore k, 2)) (hn : k < nL) (hg : lng lv k = false) (K : V X G nL M (pc + 2) (lv.set k (some (.ref x))) st) : V X G nL M pc lv (.ref x :: st) := fun H locs ls hP hS h => lv_astore C.1 C.2.1 hd h hn rfl (fun ls' h' => K H locs ls' hP hS (lv_put1 h' hg))
theorem v_lstore (C : Cx X G cc nL own fr lo ret) {k : Nat} {x : Int64} (hd : decode cc pc = .ok (.lstore k, 2)) (hn : k + 1 < nL) (hg : lng lv k = false) (K : V X G nL M (pc + 2) ((lv.set k (some (.long x))).set (k + 1) none) st) : V X G nL M pc lv (.long x :: st) := fun H locs ls hP hS h => lv_lstore C.1 C.2.1 hd h hn rfl (fun ls' h' => K H locs ls' hP hS (lv_put2 h' hg))
theorem v_iinc (C : Cx X G cc nL own fr lo ret) {k : Nat} {n : Int} {x v : Int32} (hd : decode cc pc = .ok (.iinc k n, 3)) (hl : lv[k]? = some (some (.int x))) (hv : Int32.ofInt n = v) (hn : k < nL) (hg : lng lv k = false) (K : V X G nL M (pc + 3) (lv.set k (some (.int (x + v)))) st) : V X G nL M pc lv st := fun H locs ls hP hS h => by
  obtain ⟨j, hj⟩ := List.getElem?_of_mem (lvp_mem.mpr hl)
  exact lv_iinc C.1 C.2.1 hd h hj (by rw [hv]) hn rfl (fun ls' h' => K H locs ls' hP hS (lv_put1 h' hg))
theorem v_iconst (C : Cx X G cc nL own fr lo ret) {n : Int} {v : Int32} (hd : decode cc pc = .ok (.iconst n, 1)) (hv : Int32.ofInt n = v) (K : V X G nL M (pc + 1) lv (.int v :: st)) : V X G nL M pc lv st := fun H locs ls hP hS h => lv_iconst C.1 C.2.1 hd hv (K H locs ls hP hS h)
theorem v_bipush (C : Cx X G cc nL own fr lo ret) {n : Int} {v : Int32} (hd : decode cc pc = .ok (.bipush n, 2)) (hv : (Int8.ofInt n).toInt32 = v) (K : V X G nL M (pc + 2) lv (.int v :: st)) : V X G nL M pc lv st := fun H locs ls hP hS h => lv_bipush C.1 C.2.1 hd hv (K H locs ls hP hS h)
theorem v_sipush (C : Cx X G cc nL own fr lo ret) {n : Int} {v : Int32} (hd : decode cc pc = .ok (.sipush n, 3)) (hv : (Int16.ofInt n).toInt32 = v) (K : V X G nL M (pc + 3) lv (.int v :: st)) : V X G nL M pc lv st := fun H locs ls hP hS h => lv_sipush C.1 C.2.1 hd hv (K H locs ls hP hS h)
theorem v_lconst (C : Cx X G cc nL own fr lo ret) {n : Fin 2} {v : Int64} (hd : decode cc pc = .ok (.lconst n, 1)) (hv : Int64.ofNat (n : Nat) = v) (K : V X G nL M (pc + 1) lv (.long v :: st)) : V X G nL M pc lv st := fun H locs ls hP hS h => lv_lconst C.1 C.2.1 hd hv (K H locs ls hP hS h)
theorem v_ldc (C : Cx X G cc nL own fr lo ret) {k : Nat} {v : Int32} (hd : decode cc pc = .ok (.ldc k, 2)) (hw : Cond.constant own k v ∈ tb) (K : V X G nL M (pc + 2) lv (.int v :: st)) : V X G nL M pc lv st := fun H locs ls hP hS h => lv_ldc C.1 C.2.1 C.2.2.2.1 (C.2.2.2.2.1 _ hw) hd (K H locs ls hP hS h)
theorem v_ldc_w (C : Cx X G cc nL own fr lo ret) {k : Nat} {v : Int32} (hd : decode cc pc = .ok (.ldc_w k, 3)) (hw : Cond.constant own k v ∈ tb) (K : V X G nL M (pc + 3) lv (.int v :: st)) : V X G nL M pc lv st := fun H locs ls hP hS h => lv_ldcw C.1 C.2.1 C.2.2.2.1 (C.2.2.2.2.1 _ hw) hd (K H locs ls hP hS h)
theorem v_ldc2 (C : Cx X G cc nL own fr lo ret) {k : Nat} {v : Int64} (hd : decode cc pc = .ok (.ldc2_w k, 3)) (hw : Cond.constantLong own k v ∈ tb) (K : V X G nL M (pc + 3) lv (.long v :: st)) : V X G nL M pc lv st := fun H locs ls hP hS h => lv_ldc2 C.1 C.2.1 C.2.2.2.1 (C.2.2.2.2.1 _ hw) hd (K H locs ls hP hS h)
theorem v_iadd (C : Cx X G cc nL own fr lo ret) {x y : Int32} (hd : decode cc pc = .ok (.iadd, 1)) (K : V X G nL M (pc + 1) lv (.int (x + y) :: st)) : V X G nL M pc lv (.int y :: .int x :: st) := fun H locs ls hP hS h => lv_iadd C.1 C.2.1 hd (K H locs ls hP hS h)
theorem v_isub (C : Cx X G cc nL own fr lo ret) {x y : Int32} (hd : decode cc pc = .ok (.isub, 1)) (K : V X G nL M (pc + 1) lv (.int (x - y) :: st)) : V X G nL M pc lv (.int y :: .int x :: st) := fun H locs ls hP hS h => lv_isub C.1 C.2.1 hd (K H locs ls hP hS h)
theorem v_imul (C : Cx X G cc nL own fr lo ret) {x y : Int32} (hd : decode cc pc = .ok (.imul, 1)) (K : V X G nL M (pc + 1) lv (.int (x * y) :: st)) : V X G nL M pc lv (.int y :: .int x :: st) := fun H locs ls hP hS h => lv_imul C.1 C.2.1 hd (K H locs ls hP hS h)
theorem v_iand (C : Cx X G cc nL own fr lo ret) {x y : Int32} (hd : decode cc pc = .ok (.iand, 1)) (K : V X G nL M (pc + 1) lv (.int (x &&& y) :: st)) : V X G nL M pc lv (.int y :: .int x :: st) := fun H locs ls hP hS h => lv_iand C.1 C.2.1 hd (K H locs ls hP hS h)
theorem v_ishr (C : Cx X G cc nL own fr lo ret) {x y : Int32} (hd : decode cc pc = .ok (.ishr, 1)) (K : V X G nL M (pc + 1) lv (.int (x >>> (y &&& 31)) :: st)) : V X G nL M pc lv (.int y :: .int x :: st) := fun H locs ls hP hS h => lv_ishr C.1 C.2.1 hd (K H locs ls hP hS h)
def jrem (x y : Int32) : Int32 := x - x / y * y
def jushr (x y : Int32) : Int32 := (x.toUInt32 >>> (y.toUInt32 &&& Int32.toUInt32 31)).toInt32
theorem v_idiv (C : Cx X G cc nL own fr lo ret) {x y : Int32} (hd : decode cc pc = .ok (.idiv, 1)) (hy : ¬ y = 0) (K : V X G nL M (pc + 1) lv (.int (x / y) :: st)) : V X G nL M pc lv (.int y :: .int x :: st) := fun H locs ls hP hS h => lv_idiv C.1 C.2.1 hd hy (K H locs ls hP hS h)
theorem v_irem (C : Cx X G cc nL own fr lo ret) {x y : Int32} (hd : decode cc pc = .ok (.irem, 1)) (hy : ¬ y = 0) (K : V X G nL M (pc + 1) lv (.int (jrem x y) :: st)) : V X G nL M pc lv (.int y :: .int x :: st) := fun H locs ls hP hS h => lv_irem C.1 C.2.1 hd hy (K H locs ls hP hS h)
theorem v_iushr (C : Cx X G cc nL own fr lo ret) {x y : Int32} (hd : decode cc pc = .ok (.iushr, 1)) (K : V X G nL M (pc + 1) lv (.int (jushr x y) :: st)) : V X G nL M pc lv (.int y :: .int x :: st) := fun H locs ls hP hS h => lv_iushr C.1 C.2.1 hd rfl (K H locs ls hP hS h)
theorem v_ineg (C : Cx X G cc nL own fr lo ret) {x : Int32} (hd : decode cc pc = .ok (.ineg, 1)) (K : V X G nL M (pc + 1) lv (.int (-x) :: st)) : V X G nL M pc lv (.int x :: st) := fun H locs ls hP hS h => lv_ineg C.1 C.2.1 hd (K H locs ls hP hS h)
theorem v_i2l (C : Cx X G cc nL own fr lo ret) {x : Int32} (hd : decode cc pc = .ok (.i2l, 1)) (K : V X G nL M (pc + 1) lv (.long x.toInt64 :: st)) : V X G nL M pc lv (.int x :: st) := fun H locs ls hP hS h => lv_i2l C.1 C.2.1 hd rfl (K H locs ls hP hS h)
theorem v_i2b (C : Cx X G cc nL own fr lo ret) {x : Int32} (hd : decode cc pc = .ok (.i2b, 1)) (K : V X G nL M (pc + 1) lv (.int x.toInt8.toInt32 :: st)) : V X G nL M pc lv (.int x :: st) := fun H locs ls hP hS h => lv_i2b C.1 C.2.1 hd rfl (K H locs ls hP hS h)
theorem v_i2s (C : Cx X G cc nL own fr lo ret) {x : Int32} (hd : decode cc pc = .ok (.i2s, 1)) (K : V X G nL M (pc + 1) lv (.int x.toInt16.toInt32 :: st)) : V X G nL M pc lv (.int x :: st) := fun H locs ls hP hS h => lv_i2s C.1 C.2.1 hd rfl (K H locs ls hP hS h)
theorem v_ladd (C : Cx X G cc nL own fr lo ret) {x y : Int64} (hd : decode cc pc = .ok (.ladd, 1)) (K : V X G nL M (pc + 1) lv (.long (x + y) :: st)) : V X G nL M pc lv (.long y :: .long x :: st) := fun H locs ls hP hS h => lv_ladd C.1 C.2.1 hd (K H locs ls hP hS h)
theorem v_lcmp (C : Cx X G cc nL own fr lo ret) {x y : Int64} (hd : decode cc pc = .ok (.lcmp, 1)) (K : V X G nL M (pc + 1) lv (.int (lg_cmp x y) :: st)) : V X G nL M pc lv (.long y :: .long x :: st) := fun H locs ls hP hS h => W.lcmp C.1 C.2.1 hd (K H locs ls hP hS h)
theorem v_dup (C : Cx X G cc nL own fr lo ret) {v : Value} (hd : decode cc pc = .ok (.dup, 1)) (hv : v.category = 1) (K : V X G nL M (pc + 1) lv (v :: v :: st)) : V X G nL M pc lv (v :: st) := fun H locs ls hP hS h => lv_dup C.1 C.2.1 hd hv (K H locs ls hP hS h)
theorem v_dup2 (C : Cx X G cc nL own fr lo ret) {v w : Value} (hd : decode cc pc = .ok (.dup2, 1)) (hv : v.category = 1) (hw : w.category = 1) (K : V X G nL M (pc + 1) lv (v :: w :: v :: w :: st)) : V X G nL M pc lv (v :: w :: st) := fun H locs ls hP hS h => lv_dup2_11 C.1 C.2.1 hd hv hw (K H locs ls hP hS h)
theorem v_pop (C : Cx X G cc nL own fr lo ret) {v : Value} (hd : decode cc pc = .ok (.pop, 1)) (hv : v.category = 1) (K : V X G nL M (pc + 1) lv st) : V X G nL M pc lv (v :: st) := fun H locs ls hP hS h => lv_pop C.1 C.2.1 hd hv (K H locs ls hP hS h)
theorem v_goto (C : Cx X G cc nL own fr lo ret) {off : Int} {tgt : Nat} (hd : decode cc pc = .ok (.goto off, 3)) (ht : (pc : Int) + off = (tgt : Int)) (K : V X G nL M tgt lv st) : V X G nL M pc lv st := fun H locs ls hP hS h => lv_goto C.1 C.2.1 hd ht (K H locs ls hP hS h)
theorem v_icmp_eq (C : Cx X G cc nL own fr lo ret) {x y : Int32} {off : Int} {tgt : Nat} (hd : decode cc pc = .ok (.if_icmp .eq off, 3)) (ht : (pc : Int) + off = (tgt : Int)) (K : x = y → V X G nL M tgt lv st) (K2 : ¬ x = y → V X G nL M (pc + 3) lv st) : V X G nL M pc lv (.int y :: .int x :: st) := fun H locs ls hP hS h => lv_icmp_eq C.1 C.2.1 hd ht (fun q => K q H locs ls hP hS h) (fun q => K2 q H locs ls hP hS h)
theorem v_icmp_ne (C : Cx X G cc nL own fr lo ret) {x y : Int32} {off : Int} {tgt : Nat} (hd : decode cc pc = .ok (.if_icmp .ne off, 3)) (ht : (pc : Int) + off = (tgt : Int)) (K : ¬ x = y → V X G nL M tgt lv st) (K2 : x = y → V X G nL M (pc + 3) lv st) : V X G nL M pc lv (.int y :: .int x :: st) := fun H locs ls hP hS h => lv_icmp_ne C.1 C.2.1 hd ht (fun q => K q H locs ls hP hS h) (fun q => K2 q H locs ls hP hS h)
theorem v_icmp_lt (C : Cx X G cc nL own fr lo ret) {x y : Int32} {off : Int} {tgt : Nat} (hd : decode cc pc = .ok (.if_icmp .lt off, 3)) (ht : (pc : Int) + off = (tgt : Int)) (K : x < y → V X G nL M tgt lv st) (K2 : ¬ x < y → V X G nL M (pc + 3) lv st) : V X G nL M pc lv (.int y :: .int x :: st) := fun H locs ls hP hS h => lv_icmp_lt C.1 C.2.1 hd ht (fun q => K q H locs ls hP hS h) (fun q => K2 q H locs ls hP hS h)
theorem v_icmp_ge (C : Cx X G cc nL own fr lo ret) {x y : Int32} {off : Int} {tgt : Nat} (hd : decode cc pc = .ok (.if_icmp .ge off, 3)) (ht : (pc : Int) + off = (tgt : Int)) (K : y ≤ x → V X G nL M tgt lv st) (K2 : ¬ y ≤ x → V X G nL M (pc + 3) lv st) : V X G nL M pc lv (.int y :: .int x :: st) := fun H locs ls hP hS h => lv_icmp_ge C.1 C.2.1 hd ht (fun q => K q H locs ls hP hS h) (fun q => K2 q H locs ls hP hS h)
theorem v_icmp_gt (C : Cx X G cc nL own fr lo ret) {x y : Int32} {off : Int} {tgt : Nat} (hd : decode cc pc = .ok (.if_icmp .gt off, 3)) (ht : (pc : Int) + off = (tgt : Int)) (K : y < x → V X G nL M tgt lv st) (K2 : ¬ y < x → V X G nL M (pc + 3) lv st) : V X G nL M pc lv (.int y :: .int x :: st) := fun H locs ls hP hS h => lv_icmp_gt C.1 C.2.1 hd ht (fun q => K q H locs ls hP hS h) (fun q => K2 q H locs ls hP hS h)
theorem v_icmp_le (C : Cx X G cc nL own fr lo ret) {x y : Int32} {off : Int} {tgt : Nat} (hd : decode cc pc = .ok (.if_icmp .le off, 3)) (ht : (pc : Int) + off = (tgt : Int)) (K : x ≤ y → V X G nL M tgt lv st) (K2 : ¬ x ≤ y → V X G nL M (pc + 3) lv st) : V X G nL M pc lv (.int y :: .int x :: st) := fun H locs ls hP hS h => lv_icmp_le C.1 C.2.1 hd ht (fun q => K q H locs ls hP hS h) (fun q => K2 q H locs ls hP hS h)
theorem v_if_eq (C : Cx X G cc nL own fr lo ret) {x : Int32} {off : Int} {tgt : Nat} (hd : decode cc pc = .ok (.ifCond .eq off, 3)) (ht : (pc : Int) + off = (tgt : Int)) (K : x = 0 → V X G nL M tgt lv st) (K2 : ¬ x = 0 → V X G nL M (pc + 3) lv st) : V X G nL M pc lv (.int x :: st) := fun H locs ls hP hS h => lv_if_eq C.1 C.2.1 hd ht (fun q => K q H locs ls hP hS h) (fun q => K2 q H locs ls hP hS h)
theorem v_if_ne (C : Cx X G cc nL own fr lo ret) {x : Int32} {off : Int} {tgt : Nat} (hd : decode cc pc = .ok (.ifCond .ne off, 3)) (ht : (pc : Int) + off = (tgt : Int)) (K : ¬ x = 0 → V X G nL M tgt lv st) (K2 : x = 0 → V X G nL M (pc + 3) lv st) : V X G nL M pc lv (.int x :: st) := fun H locs ls hP hS h => lv_if_ne C.1 C.2.1 hd ht (fun q => K q H locs ls hP hS h) (fun q => K2 q H locs ls hP hS h)
theorem v_if_lt (C : Cx X G cc nL own fr lo ret) {x : Int32} {off : Int} {tgt : Nat} (hd : decode cc pc = .ok (.ifCond .lt off, 3)) (ht : (pc : Int) + off = (tgt : Int)) (K : x < 0 → V X G nL M tgt lv st) (K2 : ¬ x < 0 → V X G nL M (pc + 3) lv st) : V X G nL M pc lv (.int x :: st) := fun H locs ls hP hS h => lv_if_lt C.1 C.2.1 hd ht (fun q => K q H locs ls hP hS h) (fun q => K2 q H locs ls hP hS h)
theorem v_if_ge (C : Cx X G cc nL own fr lo ret) {x : Int32} {off : Int} {tgt : Nat} (hd : decode cc pc = .ok (.ifCond .ge off, 3)) (ht : (pc : Int) + off = (tgt : Int)) (K : 0 ≤ x → V X G nL M tgt lv st) (K2 : ¬ 0 ≤ x → V X G nL M (pc + 3) lv st) : V X G nL M pc lv (.int x :: st) := fun H locs ls hP hS h => lv_if_ge C.1 C.2.1 hd ht (fun q => K q H locs ls hP hS h) (fun q => K2 q H locs ls hP hS h)
theorem v_if_gt (C : Cx X G cc nL own fr lo ret) {x : Int32} {off : Int} {tgt : Nat} (hd : decode cc pc = .ok (.ifCond .gt off, 3)) (ht : (pc : Int) + off = (tgt : Int)) (K : 0 < x → V X G nL M tgt lv st) (K2 : ¬ 0 < x → V X G nL M (pc + 3) lv st) : V X G nL M pc lv (.int x :: st) := fun H locs ls hP hS h => lv_if_gt C.1 C.2.1 hd ht (fun q => K q H locs ls hP hS h) (fun q => K2 q H locs ls hP hS h)
theorem v_if_le (C : Cx X G cc nL own fr lo ret) {x : Int32} {off : Int} {tgt : Nat} (hd : decode cc pc = .ok (.ifCond .le off, 3)) (ht : (pc : Int) + off = (tgt : Int)) (K : x ≤ 0 → V X G nL M tgt lv st) (K2 : ¬ x ≤ 0 → V X G nL M (pc + 3) lv st) : V X G nL M pc lv (.int x :: st) := fun H locs ls hP hS h => lv_if_le C.1 C.2.1 hd ht (fun q => K q H locs ls hP hS h) (fun q => K2 q H locs ls hP hS h)
theorem v_tin (C : Cx X G cc nL own fr lo ret) {dflt l1 h1 : Int} {offs : Array Int} {len : Nat} {x : Int32} {off : Int} {tgt : Nat} (hd : decode cc pc = .ok (.tableswitch dflt l1 h1 offs, len)) (q1 : ¬ x.toInt < l1) (q2 : ¬ h1 < x.toInt) (ho : offs[(x.toInt - l1).toNat]? = some off) (ht : (pc : Int) + off = (tgt : Int)) (K : V X G nL M tgt lv st) : V X G nL M pc lv (.int x :: st) := fun H locs ls hP hS h => lv_tableIn C.1 C.2.1 hd q1 q2 ho ht (K H locs ls hP hS h)
theorem v_tout (C : Cx X G cc nL own fr lo ret) {dflt l1 h1 : Int} {offs : Array Int} {len : Nat} {x : Int32} {tgt : Nat} (hd : decode cc pc = .ok (.tableswitch dflt l1 h1 offs, len)) (q1 : x.toInt < l1 ∨ h1 < x.toInt) (ht : (pc : Int) + dflt = (tgt : Int)) (K : V X G nL M tgt lv st) : V X G nL M pc lv (.int x :: st) := fun H locs ls hP hS h => lv_tableOut C.1 C.2.1 hd q1 ht (K H locs ls hP hS h)
end VR
