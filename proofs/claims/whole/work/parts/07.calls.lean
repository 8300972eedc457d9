/-! ROWS of the calls -/
theorem gw_in {w : Cond} (h : w ∈ gw) : w ∈ tb ∧ goodWord w = true := List.mem_filter.mp h
/-- a call's words: MK by an ordinary link, MN by a nest mate's -/
def MB (y : MethodName) (cy : ByteArray) (mL : Nat) (rt : Option FieldType) (n : Nat) : Prop := Cond.code y cy mL rt ∈ tb ∧ Cond.initialized y.cls ∈ tb ∧ (y.cls ≠ "java/lang/invoke/MethodHandle" ∧ y.cls ≠ "java/lang/invoke/VarHandle" ∧ (parseMethodDescriptor y.desc).map (fun d => d.parameters.length) = some n)
def MV (y : MethodName) (ci : Nat) : Prop := Cond.instanceMethod y ∈ tb ∧ Cond.selects y.cls y y ∈ tb ∧ ci < 10 ∧ ∃ q : vw_C, vwCl[ci]? = some q ∧ q.1 = y.cls
def MS (y : MethodName) : Prop := Cond.static y ∈ tb
def ML (own : String) (idx : Nat) (y : MethodName) : Prop := Cond.methodLink own idx y ∈ tb ∨ ∃ host, Cond.methodLinkNest own idx y host ∈ tb
theorem sp_good {y : MethodName} {cy : ByteArray} {mL n : Nat} {rt : Option FieldType} (h : MB y cy mL rt n) : GoodIn tb (Cond.code y cy mL rt :: gw) := fun w hw => (List.mem_cons.mp hw).elim (fun e => by rw [e]; exact ⟨h.1, good_of_word rfl⟩) (fun q => ⟨(gw_in q).1, good_of_word (gw_in q).2⟩)
section VC
variable {X : XX} {G : GG} {M M' : Mem} {cc : ByteArray} {nL pc fr lo : Nat} {own : String} {ret : Option FieldType} {lv : List (Option Value)} {rest : List Value}
theorem v_run {y : MethodName} {H : Heap} {locs : List Loc} {ls : Array Slot} {av st : List Value} {ov : Option Value} (hr : va_Run (xp X) (xl X) (xe X) (xR X) (xs X) (xm X) (xa X) (xb X) (xh X) (xc X) H locs (xk X) (xn X) 0 0 (F0 (xm X) pc ls st) rest (Ps G ov M' av.toArray) (AG G)) (hS : va_S (AG G) (xs X).heap H locs) (h : lv_has ls nL (lvp lv)) (K : V X G nL M' (pc + 3) lv (ov.toList ++ rest)) : WX X H locs (F0 (xm X) pc ls st) := by
  intro T hT Y
  obtain ⟨v, st₀, t, T', L, h0, Y', hL, e1, e2, ⟨hv, hp, hz, hk⟩, go⟩ := hr T hT Y
  cases hv
  rw [h0] at hz hk
  obtain ⟨t2, a1, b1⟩ := K T'.heap (locs ++ L) ls (by rw [e1]; exact hp) ⟨Nat.le_trans hS.1 (by rw [e1]; exact hz), fun q h1 h2 => by rw [e1, hk q (Nat.lt_of_lt_of_le h1 hS.1) h2]; exact hS.2.1 q h1 h2, fun q hq => by
      rcases List.mem_append.mp hq with h | h
      · exact hS.2.2 q h
      · exact hL q h⟩ h T' rfl Y'
  exact ⟨t2, go t2 a1, b1⟩
theorem v_callV (C : Cx X G cc nL own fr lo ret) {idx i ci n mL fz lz : Nat} {y : MethodName} {cy : ByteArray} {rt : Option FieldType} {as : List Value} {ov : Option Value} {st : List Value} (hSp : Sp (xl X) G y cy mL rt fz lz (.ref (G.2.1 i) :: as) M ov M') (hL : ML own idx y) (hB : MB y cy mL rt n) (hV : MV y ci) (hi : (decide (i < NC) && kd i == ci) = true) (hn : as.length = n) (hst : st = as.reverse ++ .ref (G.2.1 i) :: rest) (hw : (rest.map fun v => v.category).sum ≤ 8) (hf : fz + 1 ≤ fr) (hlo : 8 + (mL + 11) + lz ≤ lo) (hd : decode cc pc = .ok (.invokevirtual idx, 3)) (K : V X G nL M' (pc + 3) lv (ov.toList ++ rest)) : V X G nL M pc lv st := fun H locs ls hP hS h => by
  obtain ⟨e1, e2, e3, e4, e5, e6, e7, e8, e9, e10, e11, e12, e13⟩ := C
  obtain ⟨b1, b2, b3⟩ := id hB
  obtain ⟨v1, v2, v3, q, v4, v5⟩ := hV
  have hi2 : i < NC ∧ kd i = ci := by simpa using hi
  have hrecv := va_recv (s := xs X) e6.ob hP (ci := ci) (q0 := i) v4 (by rw [wo_at hi2.1, ce_ob hi2.2 v3])
  rw [v5] at hrecv
  have hpre : PreV (xs X) H y.cls (G.2.1 i) (Pr G (.ref (G.2.1 i) :: as) M) as := ⟨Pr.blind, hrecv, fun U hU hW => ⟨rfl, e6.moved hW (by rw [hU]; exact hS.2.1), by rw [hU]; exact hP⟩⟩
  have hroom : (rmo fz lz).frames + 1 ≤ (xR X).frames ∧ 8 + (mL + 11) + (rmo fz lz).locals ≤ (xR X).locals := ⟨Nat.le_trans hf e8, Nat.le_trans hlo e9⟩
  rcases hL with hl | ⟨host, hl⟩
  · exact v_run (av := .ref (G.2.1 i) :: as) (y := y) (va_runV (Ts := tb) ⟨e1, e2, e3, e4, e5⟩ hSp ⟨callB_of n e5 (sp_good hB) rfl rfl rfl (e5 _ b2) (e5 _ hl) b3 hroom, e5 _ v1, e5 _ v2⟩ hpre rfl hn h.1 hst (lv_room hw) hd ⟨e12, e13⟩) hS h K
  · exact v_run (av := .ref (G.2.1 i) :: as) (y := y) (va_runVN (Ts := tb) ⟨e1, e2, e3, e4, e5⟩ hSp ⟨va_cnB n e5 (sp_good hB) rfl rfl rfl (va_Nw.of rfl (e5 _ hl)) (e5 _ b2) b3 hroom, e5 _ v1, e5 _ v2⟩ hpre rfl hn h.1 hst (lv_room hw) hd ⟨e12, e13⟩) hS h K
theorem v_callS (C : Cx X G cc nL own fr lo ret) {idx n mL fz lz : Nat} {y : MethodName} {cy : ByteArray} {rt : Option FieldType} {as : List Value} {ov : Option Value} {st : List Value} (hSp : Sp (xl X) G y cy mL rt fz lz as M ov M') (hL : ML own idx y) (hB : MB y cy mL rt n) (hV : MS y) (hn : as.length = n) (hst : st = as.reverse ++ rest) (hw : (rest.map fun v => v.category).sum ≤ 8) (hf : fz + 1 ≤ fr) (hlo : 8 + (mL + 11) + lz ≤ lo) (hd : decode cc pc = .ok (.invokestatic idx, 3)) (K : V X G nL M' (pc + 3) lv (ov.toList ++ rest)) : V X G nL M pc lv st := fun H locs ls hP hS h => by
  obtain ⟨e1, e2, e3, e4, e5, e6, e7, e8, e9, e10, e11, e12, e13⟩ := C
  obtain ⟨b1, b2, b3⟩ := id hB
  have hpre : PreS (xs X) H (Pr G as M) as := ⟨Pr.blind, fun U hU hW => ⟨rfl, e6.moved hW (by rw [hU]; exact hS.2.1), by rw [hU]; exact hP⟩⟩
  have hroom : (rmo fz lz).frames + 1 ≤ (xR X).frames ∧ 8 + (mL + 11) + (rmo fz lz).locals ≤ (xR X).locals := ⟨Nat.le_trans hf e8, Nat.le_trans hlo e9⟩
  rcases hL with hl | ⟨host, hl⟩
  · exact v_run (av := as) (y := y) (va_runS (Ts := tb) ⟨e1, e2, e3, e4, e5⟩ hSp ⟨callB_of n e5 (sp_good hB) rfl rfl rfl (e5 _ b2) (e5 _ hl) b3 hroom, e5 _ hV⟩ hpre rfl hn h.1 hst (lv_room hw) hd ⟨e12, e13⟩) hS h K
  · exact v_run (av := as) (y := y) (va_runSN (Ts := tb) ⟨e1, e2, e3, e4, e5⟩ hSp ⟨va_cnB n e5 (sp_good hB) rfl rfl rfl (va_Nw.of rfl (e5 _ hl)) (e5 _ b2) b3 hroom, e5 _ hV, trivial⟩ hpre rfl hn h.1 hst (lv_room hw) hd ⟨e12, e13⟩) hS h K
/-- a call on one of the names of lines -/
theorem v_callT (C : Cx X G cc nL own fr lo ret) {idx i n mL fz lz : Nat} {y : MethodName} {cy : ByteArray} {rt : Option FieldType} {as : List Value} {ov : Option Value} {st : List Value} (hSp : Sp (xl X) G y cy mL rt fz lz (.ref (G.2.1 (100 + i)) :: as) M ov M') (hL : ML own idx y) (hB : MB y cy mL rt n) (hV : Cond.instanceMethod y ∈ tb ∧ Cond.selects y.cls y y ∈ tb) (hyc : y.cls = "java/lang/String") (hi : i < 5) (hn : as.length = n) (hst : st = as.reverse ++ .ref (G.2.1 (100 + i)) :: rest) (hw : (rest.map fun v => v.category).sum ≤ 8) (hf : fz + 1 ≤ fr) (hlo : 8 + (mL + 11) + lz ≤ lo) (hd : decode cc pc = .ok (.invokevirtual idx, 3)) (K : V X G nL M' (pc + 3) lv (ov.toList ++ rest)) : V X G nL M pc lv st := fun H locs ls hP hS h => by
  obtain ⟨e1, e2, e3, e4, e5, e6, e7, e8, e9, e10, e11, e12, e13⟩ := C
  obtain ⟨b1, b2, b3⟩ := id hB
  have hrecv := vk_recv (s := xs X) (H := H) (locs := locs) e6.2.2.2.1 hi hS
  rw [← hyc] at hrecv
  have hpre : PreV (xs X) H y.cls (G.2.1 (100 + i)) (Pr G (.ref (G.2.1 (100 + i)) :: as) M) as := ⟨Pr.blind, hrecv, fun U hU hW => ⟨rfl, e6.moved hW (by rw [hU]; exact hS.2.1), by rw [hU]; exact hP⟩⟩
  have hroom : (rmo fz lz).frames + 1 ≤ (xR X).frames ∧ 8 + (mL + 11) + (rmo fz lz).locals ≤ (xR X).locals := ⟨Nat.le_trans hf e8, Nat.le_trans hlo e9⟩
  rcases hL with hl | ⟨host, hl⟩
  · exact v_run (av := .ref (G.2.1 (100 + i)) :: as) (y := y) (va_runV (Ts := tb) ⟨e1, e2, e3, e4, e5⟩ hSp ⟨callB_of n e5 (sp_good hB) rfl rfl rfl (e5 _ b2) (e5 _ hl) b3 hroom, e5 _ hV.1, e5 _ hV.2⟩ hpre rfl hn h.1 hst (lv_room hw) hd ⟨e12, e13⟩) hS h K
  · exact v_run (av := .ref (G.2.1 (100 + i)) :: as) (y := y) (va_runVN (Ts := tb) ⟨e1, e2, e3, e4, e5⟩ hSp ⟨va_cnB n e5 (sp_good hB) rfl rfl rfl (va_Nw.of rfl (e5 _ hl)) (e5 _ b2) b3 hroom, e5 _ hV.1, e5 _ hV.2⟩ hpre rfl hn h.1 hst (lv_room hw) hd ⟨e12, e13⟩) hS h K
theorem v_mmin (C : Cx X G cc nL own fr lo ret) {idx : Nat} {x y : Int32} (hl : Cond.methodLink own idx Lib.Math.min.name ∈ tb) (h1 : Cond.static Lib.Math.min.name ∈ tb ∧ Cond.initialized "java/lang/Math" ∈ tb ∧ Cond.code Lib.Math.min.name Lib.Math.min.code 2 (some .int) ∈ tb) (hf : 1 ≤ fr) (hlo : (rest.map fun v => v.category).sum + 13 ≤ lo) (hd : decode cc pc = .ok (.invokestatic idx, 3)) (K : V X G nL M (pc + 3) lv (.int (if x > y then y else x) :: rest)) : V X G nL M pc lv (.int y :: .int x :: rest) := fun H locs ls hP hS h => by
  obtain ⟨e1, e2, e3, e4, e5, e6, e7, e8, e9, e10, e11, e12, e13⟩ := C
  exact va_mmin e1 e2 (e3.trans h.1.symm) e4 (e5 _ hl) (e5 _ h1.1) (e5 _ h1.2.1) (e5 _ h1.2.2) (Nat.le_trans hf e8) (Nat.le_trans hlo e9) e12 e13 hd (K H locs ls hP hS h)
theorem v_mmax (C : Cx X G cc nL own fr lo ret) {idx : Nat} {x y : Int32} (hl : Cond.methodLink own idx Lib.Math.max.name ∈ tb) (h1 : Cond.static Lib.Math.max.name ∈ tb ∧ Cond.initialized "java/lang/Math" ∈ tb ∧ Cond.code Lib.Math.max.name Lib.Math.max.code 2 (some .int) ∈ tb) (hf : 1 ≤ fr) (hlo : (rest.map fun v => v.category).sum + 13 ≤ lo) (hd : decode cc pc = .ok (.invokestatic idx, 3)) (K : V X G nL M (pc + 3) lv (.int (if x < y then y else x) :: rest)) : V X G nL M pc lv (.int y :: .int x :: rest) := fun H locs ls hP hS h => by
  obtain ⟨e1, e2, e3, e4, e5, e6, e7, e8, e9, e10, e11, e12, e13⟩ := C
  exact va_mmax e1 e2 (e3.trans h.1.symm) e4 (e5 _ hl) (e5 _ h1.1) (e5 _ h1.2.1) (e5 _ h1.2.2) (Nat.le_trans hf e8) (Nat.le_trans hlo e9) e12 e13 hd (K H locs ls hP hS h)
/-- System.arraycopy between two int rows, whole (from 0 to 0) -/
theorem v_copy (C : Cx X G cc nL own fr lo ret) {idx i j n : Nat} {x : Int32} (hl : Cond.methodLink own idx arraycopyName ∈ tb) (h1 : Cond.native arraycopyName ∈ tb ∧ Cond.static arraycopyName ∈ tb ∧ Cond.initialized "java/lang/System" ∈ tb) (ha : ga i 10 n = true) (hb : ga j 10 n = true) (hx : ¬ x < 0) (hxn : x.toNatClampNeg = n) (hf : 1 ≤ fr) (hlo : (rest.map fun v => v.category).sum + (nativeFrameWords "java/lang/System" "arraycopy" 5 + 11) ≤ lo) (hd : decode cc pc = .ok (.invokestatic idx, 3)) (K : V X G nL (wra M j (va_cpy (M i) (M j) 0 0 n)) (pc + 3) lv rest) : V X G nL M pc lv (.int x :: .int 0 :: .ref (G.2.1 j) :: .int 0 :: .ref (G.2.1 i) :: rest) := fun H locs ls hP hS h => by
  obtain ⟨e1, e2, e3, e4, e5, e6, e7, e8, e9, e10, e11, e12, e13⟩ := C
  obtain ⟨a1, a2, a3⟩ := ga_of ha
  obtain ⟨b1, b2, b3⟩ := ga_of hb
  have hset : (wo G M).set j (G.2.1 j, .inl (G.2.2 j, n, .inl (va_cpy (M i) (M j) 0 0 n))) = wo G (wra M j (va_cpy (M i) (M j) 0 0 n)) := by
    have hc := ce_ar (G := G) (M := wra M j (va_cpy (M i) (M j) 0 0 n)) (i := j) (by omega) (by omega)
    rw [wra_eq, b3] at hc
    rw [← hc]
    exact wo_set b1 (fun k hk => wra_ne hk)
  exact va_copyi (D := G.1) (cl := vwCl) e1 e2 (e3.trans h.1.symm) e4 (e5 _ hl) (e5 _ h1.1) (e5 _ h1.2.1) (e5 _ h1.2.2) (e6.ar2 a1 (by omega) b1 (by omega) (ty10 a2) (ty10 b2)) hP (wo_D e7) hS i j 0 1 (n0 := n) (n1 := n) (f := M i) (g := M j) (ty := .int) (by rw [wo_at a1, ce_ar (by omega) (by omega), a3]) (by rw [wo_at b1, ce_ar (by omega) (by omega), b3]) rfl rfl rfl (by decide) (by decide) hx (by rw [hxn]; simp) (by rw [hxn]; simp) (fun _ _ => rfl) (Nat.le_trans hf e8) (Nat.le_trans hlo e9) hd (fun H1 locs1 hP1 _ hS1 => K H1 locs1 ls (by rw [hxn] at hP1; rw [← hset]; exact hP1) hS1 h)
end VC
/-- A METHOD: its contract out of the walk of its body over V -/
theorem sp_intro {l : Launch} {G : GG} {y : MethodName} {cy : ByteArray} {mL fr lo : Nat} {ret : Option FieldType} {av : List Value} {M M' : Mem} {ov : Option Value} (lv0 : List (Option Value)) (hI : IG G) (hy : plainName y.cls = true) (hlen : (lg_sl av).length ≤ mL) (hlv : ∀ q ∈ lvp lv0, q ∈ lv_args 0 av) (body : ∀ X : XX, xl X = l → Cx X G cy mL y.cls fr lo ret → Rt X G ov M' → V X G mL M 0 lv0 []) : Sp l G y cy mL ret fr lo av M ov M' := by
  refine Met.ofW (cc := cy) (maxL := mL) (ret := ret) hy rfl ?_
  intro p e s m args below meth c s₁ B hml hv
  obtain ⟨rfl, hK, hP⟩ := hv
  have hts := atoms_spec (ws := Cond.code y cy mL ret :: gw) B.pre
  have hwd : ∀ w ∈ tb, w.before av.toArray s = true := fun w hw => by
    cases hg : goodWord w with
    | true => exact hts w (List.mem_cons_of_mem _ (List.mem_filter.mpr ⟨hw, hg⟩))
    | false =>
      have hz := hK.2.2.1 w hw hg
      have hn := tbl_parts hw hg
      unfold isNest at hn
      split at hn
      next => exact va_Nw.use rfl hz
      next => exact va_Nw.use rfl hz
      next => cases hn
  have hl := lv_entry av (n := mL) hlen
  rw [lg_entry_eq]
  generalize (lg_sl av ++ List.replicate (mL - (lg_sl av).length) Slot.unset).toArray = ls at hl ⊢
  exact body (p, l, e, rmo fr lo, s, m, av.toArray, below, meth, c, 0, 0, MQ below (Ps G ov M') av.toArray s 0 0 (AG G)) rfl ⟨B.exec, B.bytes, hml, findClass_of_methodNamed B.named, hwd, hK, hI, Nat.le_refl _, Nat.le_refl _, B.returns, B.notSynchronized, Nat.le_refl _, Nat.le_refl _⟩ rfl s.heap [] ls hP va_S.rf ⟨hl.1, hl.2.1, fun q hq => hl.2.2 q (hlv q hq)⟩
