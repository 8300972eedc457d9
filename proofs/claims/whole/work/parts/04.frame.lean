/-! THE FRAME: a flat memory of ints (cell, slot), a fixed shape of 50 cells; V: what the machine does from a frame, said over the memory alone -/
abbrev Mem : Type := Nat → Nat → Int32
abbrev GG : Type := va_G × (Nat → Nat) × (Nat → ClassId)
def NC : Nat := 50
def nN (k : Nat) : List (Option Nat) := List.replicate k none
def SH : List (Nat × Nat × List (Option Nat)) := [
  (5, 0, [some 1, some 5, some 7, some 12, some 13, some 22, some 30, some 31, none, none]),
  (3, 0, some 2 :: some 3 :: nN 10), (11, 160, []),
  (1, 0, some 4 :: nN 3), (10, 32, []),
  (1, 0, some 6 :: nN 3), (10, 32, []),
  (13, 2, [some 8, some 10]),
  (1, 0, some 9 :: nN 3), (10, 32, []),
  (1, 0, some 11 :: nN 3), (10, 32, []),
  (12, 2, []),
  (14, 4, [some 14, some 16, some 18, some 20]),
  (2, 0, some 15 :: nN 2), (10, 40, []),
  (2, 0, some 17 :: nN 2), (10, 40, []),
  (2, 0, some 19 :: nN 2), (10, 40, []),
  (2, 0, some 21 :: nN 2), (10, 40, []),
  (4, 0, [some 23, some 25, some 27, some 28, some 29]),
  (0, 0, some 24 :: nN 3), (10, 480, []),
  (1, 0, some 26 :: nN 3), (10, 32, []),
  (10, 5, []), (10, 5, []), (10, 4, []), (10, 45, []), (10, 45, []),
  (6, 0, [some 33, some 34, some 35, some 36, none, none, some 37, none, none, none, none, none, none, none, some 38, none, none, none, some 39, some 40, some 41, some 42, some 43, some 44, some 45, some 46, some 47, some 48, none, some 49]),
  (10, 35, []), (10, 70, []), (12, 2, []), (10, 35, []), (10, 160, []), (10, 504, []), (10, 5, []), (10, 5, []), (10, 5, []), (10, 4, []), (10, 35, []), (10, 45, []), (10, 45, []), (10, 4, []), (10, 4, []), (10, 160, []), (10, 35, [])]
def kd (i : Nat) : Nat := (SH.getD i (99, 0, [])).1
def ln (i : Nat) : Nat := (SH.getD i (99, 0, [])).2.1
def rf (i : Nat) : List (Option Nat) := (SH.getD i (99, 0, [])).2.2
def rfn (i k : Nat) : Nat := ((rf i).getD k none).getD 0
def tyA (i : Nat) : FieldType := if kd i = 10 then .int else if kd i = 11 then .byte else if kd i = 12 then .boolean else if kd i = 13 then .object RX1 else .object RX2
abbrev vwCl : List vw_C := [(RX0, TX0, 4), (RX1, TX1, 4), (RX2, TX2, 3), (RX3, TX3, 12), (RX4, TX4, 5), (RX5, TX5, 10), (RX6, TX6, 30)]
def fv (G : GG) (M : Mem) (i k : Nat) (r : Option Nat) : Value := match r with
  | none => .int (M i k)
  | some j => .ref (G.2.1 j)
def fl (G : GG) (M : Mem) (i : Nat) : List Value := (rf i).mapIdx (fv G M i)
def ce (G : GG) (M : Mem) (i : Nat) : va_E :=
  if kd i < 10 then .inr (kd i, fl G M i) else if kd i < 13 then .inl (G.2.2 i, ln i, .inl (M i)) else .inl (G.2.2 i, ln i, .inr (.inr (.inr (.inr (fun k => ((rf i).getD k none).map G.2.1)))))
def wo (G : GG) (M : Mem) : va_W := (List.range NC).map (fun i => (G.2.1 i, ce G M i))
def wr (M : Mem) (c k : Nat) (v : Int32) : Mem := fun a b => if a = c then (if b = k then v else M a b) else M a b
def wra (M : Mem) (c : Nat) (f : Nat → Int32) : Mem := fun a b => if a = c then f b else M a b
theorem wr_ne {M : Mem} {c k a : Nat} {v : Int32} (h : a ≠ c) : wr M c k v a = M a := by funext b; simp [wr, h]
theorem wra_ne {M : Mem} {c a : Nat} {f : Nat → Int32} (h : a ≠ c) : wra M c f a = M a := by funext b; simp [wra, h]
theorem wra_eq {M : Mem} {c : Nat} {f : Nat → Int32} : wra M c f c = f := by funext b; simp [wra]
theorem wr_upd {M : Mem} {c k : Nat} {v : Int32} : wr M c k v c = upd (M c) k v := by funext b; simp [wr, upd]
theorem wo_at {G : GG} {M : Mem} {i : Nat} (hi : i < NC) : (wo G M)[i]? = some (G.2.1 i, ce G M i) := by simp [wo, hi]
theorem wo_inv {G : GG} {M : Mem} {i : Nat} {q : Nat × va_E} (h : (wo G M)[i]? = some q) : i < NC ∧ q = (G.2.1 i, ce G M i) := by
  have hl : i < (wo G M).length := (List.getElem?_eq_some_iff.mp h).1
  have hi : i < NC := by simpa [wo] using hl
  rw [wo_at hi] at h
  exact ⟨hi, (Option.some.inj h).symm⟩
theorem ce_congr {G : GG} {M M' : Mem} {j : Nat} (h : M' j = M j) : ce G M' j = ce G M j := by
  have hf : fv G M' j = fv G M j := by
    funext k r
    cases r <;> simp [fv, h]
  simp only [ce, fl, hf, h]
theorem wo_set {G : GG} {M M' : Mem} {i : Nat} (hi : i < NC) (h : ∀ j, j ≠ i → M' j = M j) : (wo G M).set i (G.2.1 i, ce G M' i) = wo G M' := by
  apply List.ext_getElem?
  intro j
  by_cases hj : j = i
  · subst hj
    rw [List.getElem?_set_self (by simpa [wo] using hi), wo_at hi]
  · rw [List.getElem?_set_ne (fun q => hj q.symm)]
    simp only [wo, List.getElem?_map]
    cases hr : (List.range NC)[j]? with
    | none => rfl
    | some k =>
      have hk : k = j := by
        have := List.getElem?_eq_some_iff.mp hr
        obtain ⟨_, h2⟩ := this
        simpa using h2.symm
      subst hk
      simp only [Option.map_some, ce_congr (h k hj)]
def IG (G : GG) : Prop := ∀ i j, i < NC → j < NC → G.2.1 i = G.2.1 j → i = j
def AG (G : GG) : Nat → Prop := fun q => ∃ i, i < NC ∧ q = G.2.1 i
theorem wo_D {G : GG} {M : Mem} (hI : IG G) : va_D (AG G) (wo G M) := by
  refine ⟨fun i j x y hx hy h => ?_, fun k q hk => ?_⟩
  · obtain ⟨h1, rfl⟩ := wo_inv hx
    obtain ⟨h2, rfl⟩ := wo_inv hy
    exact hI i j h1 h2 h
  · obtain ⟨h1, rfl⟩ := wo_inv hk
    exact ⟨k, h1, rfl⟩
/-- what the tables say of the world's classes and arrays -/
def isNest (w : Cond) : Bool := match w with
  | .fieldLinkNest .. => true
  | .methodLinkNest .. => true
  | _ => false
/-- the words that go from a caller to what it calls: those that keep, and nest mates' links -/
def tb : List Cond := lw_tbl.filter (fun w => goodWord w || isNest w)
theorem tb_mem {w : Cond} (h : w ∈ lw_tbl) (hg : (goodWord w || isNest w) = true) : w ∈ tb := List.mem_filter.mpr ⟨h, hg⟩
theorem tb_lw {w : Cond} (h : w ∈ tb) : w ∈ lw_tbl := (List.mem_filter.mp h).1
theorem tbl_parts {w : Cond} (h : w ∈ tb) (hg : goodWord w = false) : isNest w = true := by
  have := (List.mem_filter.mp h).2
  simpa [hg] using this
def NG (U : State) : Prop := ∀ w ∈ tb, goodWord w = false → va_Nw w U
theorem NG.moved {u U : State} (hW : u.WarmedH U.vm) (h : NG u) : NG U := fun w hw hg => by
  have hn := tbl_parts hw hg
  have hz := h w hw hg
  unfold isNest at hn
  split at hn
  next => exact va_Nw.warmF hW hz
  next => exact va_Nw.warmM hW hz
  next => cases hn
theorem NG.same {u U : State} (hv : u.vm = U.vm) (h : NG u) : NG U := fun w hw hg => by
  have hn := tbl_parts hw hg
  have hz := h w hw hg
  unfold isNest at hn
  split at hn
  next => exact va_Nw.same rfl hv hz
  next => exact va_Nw.same rfl hv hz
  next => cases hn
/-- the five names of lines: cells 100 to 104, their bytes 110 to 114; the two statics that the JDK's readers of texts look at -/
def stx : List (List Int32) := [[112, 114, 105, 109, 101], [99, 111, 108], [114, 111, 119], [105, 110, 102], [97, 116]]
def stl : List Nat := [5, 3, 3, 3, 2]
def stt (i : Nat) : String := ["prime", "col", "row", "inf", "at"].getD i ""
def sidx (i : Nat) : Nat := [115, 120, 122, 124, 126].getD i 0
def slen (t : Nat) : Nat := stl.getD (t - 100) 0
def sch (t k : Nat) : Int32 := (stx.getD (t - 100) []).getD k 0
def SG (G : GG) (U : State) : Prop := vk_S 5 stl stx (fun i => G.2.1 (100 + i)) (fun i => G.2.1 (110 + i)) (AG G) U U.heap ∧ (∀ i, i < 5 → vk_R RX3 (sidx i) (stt i) (G.2.1 (100 + i)) U) ∧ va_Z "java/lang/String" "COMPACT_STRINGS" "Z" (.int 1) (AG G) U U.heap ∧ va_Zq "jdk/internal/util/Preconditions" "SIOOBE_FORMATTER" "Ljava/util/function/BiFunction;" (AG G) U U.heap
theorem SG.moved {G : GG} {u U : State} (hW : u.WarmedH U.vm) (hh : ∀ a : Nat, a < u.heap.size → ¬ AG G a → U.heap[a]? = u.heap[a]?) (h : SG G u) : SG G U := ⟨(h.1.kept hh).moved hW.alike, fun i hi => (h.2.1 i hi).warm hW, (h.2.2.1.kept hh).moved hW.alike, (h.2.2.2.kept hh).moved hW.alike⟩
theorem SG.same {G : GG} {u U : State} (hv : u.vm = U.vm) (hH : u.heap = U.heap) (h : SG G u) : SG G U := by
  have ha : u.vm.Alike U.vm := by rw [hv]; exact Vm.Alike.refl U.vm
  obtain ⟨h1, h2, h3, h4⟩ := h
  rw [hH] at h1 h3 h4
  exact ⟨h1.moved ha, fun i hi => vk_R.same hv.symm (h2 i hi), h3.moved ha, h4.moved ha⟩
def KG (G : GG) (U : State) : Prop := (∀ (c : Nat) (q : vw_C), vwCl[c]? = some q → u_Kn U q.1 q.2.1 q.2.2 (G.1.1 c) (G.1.2 c)) ∧ (∀ i, i < NC → 10 ≤ kd i → ArrOfT U (G.2.2 i) (tyA i) ∧ va_RA U (G.2.2 i) (tyA i)) ∧ NG U ∧ SG G U
theorem KG.moved {G : GG} {u U : State} (hW : u.WarmedH U.vm) (hh : ∀ a : Nat, a < u.heap.size → ¬ AG G a → U.heap[a]? = u.heap[a]?) (h : KG G u) : KG G U := ⟨fun c q hq => u_Kn_moved hW.alike (h.1 c q hq), fun i hi hk => ⟨arrOfT_moved hW.alike (h.2.1 i hi hk).1, (h.2.1 i hi hk).2.moved hW.alike⟩, h.2.2.1.moved hW, h.2.2.2.moved hW hh⟩
theorem KG.same {G : GG} {u U : State} (hv : u.vm = U.vm) (hH : u.heap = U.heap) (h : KG G u) : KG G U := by
  have ha : u.vm.Alike U.vm := by rw [hv]; exact Vm.Alike.refl U.vm
  exact ⟨fun c q hq => u_Kn_moved ha (h.1 c q hq), fun i hi hk => ⟨arrOfT_moved ha (h.2.1 i hi hk).1, (h.2.1 i hi hk).2.moved ha⟩, h.2.2.1.same hv, h.2.2.2.same hv hH⟩
theorem KG.ob {G : GG} {U : State} (h : KG G U) : va_K G.1 vwCl [] U := ⟨h.1, fun k q hk => by simp at hk⟩
theorem KG.ar {G : GG} {U : State} (h : KG G U) {i : Nat} (hi : i < NC) (hk : 10 ≤ kd i) {ty : FieldType} (ht : tyA i = ty) : va_K G.1 vwCl [(G.2.2 i, ty)] U := ⟨h.1, fun k q hq => by
  cases k with
  | zero =>
    have e : q = (G.2.2 i, ty) := by simpa using hq.symm
    subst e
    rw [← ht]
    exact h.2.1 i hi hk
  | succ k => simp at hq⟩
theorem KG.ar2 {G : GG} {U : State} (h : KG G U) {i j : Nat} (hi : i < NC) (hk : 10 ≤ kd i) (hj : j < NC) (hkj : 10 ≤ kd j) {ty : FieldType} (ht : tyA i = ty) (htj : tyA j = ty) : va_K G.1 vwCl [(G.2.2 i, ty), (G.2.2 j, ty)] U := (h.ar hi hk ht).app (h.ar hj hkj htj)
abbrev XX : Type := Program × Launch × Env × Room × State × MethodId × Array Value × List Frame × Method × Code × Nat × Nat × (State → Prop)
abbrev xp (X : XX) : Program := X.1
abbrev xl (X : XX) : Launch := X.2.1
abbrev xe (X : XX) : Env := X.2.2.1
abbrev xR (X : XX) : Room := X.2.2.2.1
abbrev xs (X : XX) : State := X.2.2.2.2.1
abbrev xm (X : XX) : MethodId := X.2.2.2.2.2.1
abbrev xa (X : XX) : Array Value := X.2.2.2.2.2.2.1
abbrev xb (X : XX) : List Frame := X.2.2.2.2.2.2.2.1
abbrev xh (X : XX) : Method := X.2.2.2.2.2.2.2.2.1
abbrev xc (X : XX) : Code := X.2.2.2.2.2.2.2.2.2.1
abbrev xk (X : XX) : Nat := X.2.2.2.2.2.2.2.2.2.2.1
abbrev xn (X : XX) : Nat := X.2.2.2.2.2.2.2.2.2.2.2.1
abbrev xQ (X : XX) : State → Prop := X.2.2.2.2.2.2.2.2.2.2.2.2
abbrev WX (X : XX) (H : Heap) (locs : List Loc) (g : JFrame) : Prop := W (xp X) (xl X) (xe X) (xR X) (xs X) (xm X) (xa X) (xb X) (xh X) (xc X) H locs (xk X) (xn X) (xQ X) g
/-- the locals: by place, none where nothing is told -/
def lvp (lv : List (Option Value)) : List (Nat × Value) := (List.range lv.length).filterMap (fun k => match lv[k]? with
  | some (some v) => some (k, v)
  | _ => none)
theorem lvp_mem {lv : List (Option Value)} {k : Nat} {v : Value} : (k, v) ∈ lvp lv ↔ lv[k]? = some (some v) := by
  unfold lvp
  rw [List.mem_filterMap]
  constructor
  · rintro ⟨a, ha, h⟩
    split at h
    next w hw =>
      cases h
      exact hw
    next => cases h
  · intro h
    refine ⟨k, List.mem_range.mpr (List.getElem?_eq_some_iff.mp h).1, ?_⟩
    rw [h]
def V (X : XX) (G : GG) (nL : Nat) (M : Mem) (pc : Nat) (lv : List (Option Value)) (st : List Value) : Prop :=
  ∀ (H : Heap) (locs : List Loc) (ls : Array Slot), va_P G.1 vwCl (wo G M) H → va_S (AG G) (xs X).heap H locs → lv_has ls nL (lvp lv) → WX X H locs (F0 (xm X) pc ls st)
/-- what holds all through a method -/
def Cx (X : XX) (G : GG) (cc : ByteArray) (nL : Nat) (own : String) (fr lo : Nat) (ret : Option FieldType) : Prop :=
  (xp X).tables.exec = Jvm.exec ∧ (xc X).code = cc ∧ (xc X).maxLocals = nL ∧ (xs X).vm.findClass own = some (xm X).cls ∧ (∀ w ∈ tb, w.before (xa X) (xs X) = true) ∧ KG G (xs X) ∧ IG G ∧ fr ≤ (xR X).frames ∧ lo ≤ (xR X).locals ∧ (xh X).sig.returnType = ret ∧ (xh X).locks = false ∧ xk X ≤ (xR X).cells ∧ xn X ≤ (xR X).slots
def Ps (G : GG) (ov : Option Value) (M : Mem) : Array Value → State → Outcome → State → Prop := fun _ st o t => o = .returned ov ∧ va_P G.1 vwCl (wo G M) t.heap ∧ va_F (AG G) st t
def Pr (G : GG) (av : List Value) (M : Mem) : Array Value → State → Prop := fun v U => v = av.toArray ∧ KG G U ∧ va_P G.1 vwCl (wo G M) U.heap
def Rt (X : XX) (G : GG) (ov : Option Value) (M : Mem) : Prop := xQ X = MQ (xb X) (Ps G ov M) (xa X) (xs X) (xk X) (xn X) (AG G)
abbrev rmo (fr lo : Nat) : Room := { frames := fr, cells := 0, slots := 0, locals := lo }
def gw : List Cond := tb.filter goodWord
def Sp (l : Launch) (G : GG) (y : MethodName) (cy : ByteArray) (mL : Nat) (ret : Option FieldType) (fr lo : Nat) (av : List Value) (M : Mem) (ov : Option Value) (M' : Mem) : Prop :=
  Met l y (Cond.code y cy mL ret :: gw) (rmo fr lo) (Pr G av M) (Ps G ov M') 0 0 (AG G)
theorem Pr.blind {G : GG} {av : List Value} {M : Mem} : FrameBlind (Pr G av M) := fun a U g mk q => ⟨q.1, KG.same (u := U) (U := U.calling g mk a) rfl rfl q.2.1, q.2.2⟩
