/-! WHAT THE PROGRAM'S FUNCTIONS AND THEIR PROOFS ARE MADE OF -/
def FU : Nat := 1000
def bd {α : Type} (o : Option (Int32 × Mem)) (k : Int32 → Mem → Option α) : Option α := match o with
  | none => none
  | some x => k x.1 x.2
def bv {α : Type} (o : Option Mem) (k : Mem → Option α) : Option α := match o with
  | none => none
  | some m => k m
theorem hB {α : Type} {o : Option (Int32 × Mem)} {k : Int32 → Mem → Option α} {r : α} (h : bd o k = some r) : ∃ x m, o = some (x, m) ∧ k x m = some r := by
  cases o with
  | none => cases h
  | some x => exact ⟨x.1, x.2, rfl, h⟩
theorem hV {α : Type} {o : Option Mem} {k : Mem → Option α} {r : α} (h : bv o k = some r) : ∃ m, o = some m ∧ k m = some r := by
  cases o with
  | none => cases h
  | some x => exact ⟨x, rfl, h⟩
theorem hT {c : Prop} {d : Decidable c} {α : Type} {a b r : α} (q : c) (h : @ite α c d a b = r) : a = r := by rw [if_pos q] at h; exact h
theorem hF {c : Prop} {d : Decidable c} {α : Type} {a b r : α} (q : ¬ c) (h : @ite α c d a b = r) : b = r := by rw [if_neg q] at h; exact h
theorem hG {c : Prop} {d : Decidable c} {α : Type} {a : Option α} {r : α} (h : @ite (Option α) c d a none = some r) : c ∧ a = some r := by
  by_cases q : c
  · rw [if_pos q] at h; exact ⟨q, h⟩
  · rw [if_neg q] at h; cases h
theorem hN {c : Prop} {d : Decidable c} {α : Type} {a : Option α} {r : α} (h : @ite (Option α) c d none a = some r) : ¬ c ∧ a = some r := by
  by_cases q : c
  · rw [if_pos q] at h; cases h
  · rw [if_neg q] at h; exact ⟨q, h⟩
theorem hR {α β : Type} {a b : α} {m n : β} (h : some (a, m) = some (b, n)) : a = b ∧ m = n := by cases h; exact ⟨rfl, rfl⟩
theorem hRv {β : Type} {m n : β} (h : some m = some n) : m = n := Option.some.inj h
def isP (c : Nat) : Bool := decide (c < NC) && kd c == 1
def isS (c : Nat) : Bool := decide (c < NC) && kd c == 2
def isI (c : Nat) : Bool := decide (c < NC) && kd c == 10
def isT (c : Nat) : Bool := decide (100 ≤ c) && decide (c < 105)
theorem isP_all : ∀ c, c < NC → kd c = 1 → (gi c 1 1 && (gi c 1 2 && (gi c 1 3 && (gr c 1 0 (c + 1) && ga (c + 1) 10 32)))) = true := by decide +kernel
theorem isS_all : ∀ c, c < NC → kd c = 2 → (gi c 2 1 && (gi c 2 2 && (gr c 2 0 (c + 1) && ga (c + 1) 10 40))) = true := by decide +kernel
theorem isP_of {c : Nat} (h : isP c = true) : gi c 1 1 = true ∧ gi c 1 2 = true ∧ gi c 1 3 = true ∧ gr c 1 0 (c + 1) = true ∧ ga (c + 1) 10 32 = true := by
  have h1 : c < NC ∧ kd c = 1 := by simpa [isP] using h
  simpa using isP_all c h1.1 h1.2
theorem isS_of {c : Nat} (h : isS c = true) : gi c 2 1 = true ∧ gi c 2 2 = true ∧ gr c 2 0 (c + 1) = true ∧ ga (c + 1) 10 40 = true := by
  have h1 : c < NC ∧ kd c = 2 := by simpa [isS] using h
  simpa using isS_all c h1.1 h1.2
theorem intP1 {c : Nat} (h : isP c = true) : gi c 1 1 = true := (isP_of h).1
theorem intP2 {c : Nat} (h : isP c = true) : gi c 1 2 = true := (isP_of h).2.1
theorem intP3 {c : Nat} (h : isP c = true) : gi c 1 3 = true := (isP_of h).2.2.1
theorem refP {c : Nat} (h : isP c = true) : gr c 1 0 (c + 1) = true := (isP_of h).2.2.2.1
theorem arrP {c : Nat} (h : isP c = true) : ga (c + 1) 10 32 = true := (isP_of h).2.2.2.2
theorem intS1 {c : Nat} (h : isS c = true) : gi c 2 1 = true := (isS_of h).1
theorem intS2 {c : Nat} (h : isS c = true) : gi c 2 2 = true := (isS_of h).2.1
theorem refS {c : Nat} (h : isS c = true) : gr c 2 0 (c + 1) = true := (isS_of h).2.2.1
theorem arrS {c : Nat} (h : isS c = true) : ga (c + 1) 10 40 = true := (isS_of h).2.2.2
theorem arrI {c : Nat} (h : isI c = true) : ga c 10 (ln c) = true := by
  have h1 : c < NC ∧ kd c = 10 := by simpa [isI] using h
  simp [ga, h1.1, h1.2]
theorem ib_lt {i : Int32} {n : Nat} (h : ib i n = true) : ix i < n := by
  simp only [ib, Bool.and_eq_true, decide_eq_true_eq] at h
  exact h.2
theorem rfP_all : ∀ k, k < 2 → (rf 7)[k]? = some (some (rfn 7 k)) ∧ isP (rfn 7 k) = true := by decide +kernel
theorem rfS_all : ∀ k, k < 4 → (rf 13)[k]? = some (some (rfn 13 k)) ∧ isS (rfn 13 k) = true := by decide +kernel
theorem rfP {i : Int32} (h : ib i 2 = true) : (rf 7)[ix i]? = some (some (rfn 7 (ix i))) := (rfP_all _ (ib_lt h)).1
theorem rfS {i : Int32} (h : ib i 4 = true) : (rf 13)[ix i]? = some (some (rfn 13 (ix i))) := (rfS_all _ (ib_lt h)).1
theorem clsP {i : Int32} (h : ib i 2 = true) : isP (rfn 7 (ix i)) = true := (rfP_all _ (ib_lt h)).2
theorem clsS {i : Int32} (h : ib i 4 = true) : isS (rfn 13 (ix i)) = true := (rfS_all _ (ib_lt h)).2
theorem tT {w : Cond} (i : Nat) (h : tables_1[i]? = some w) (hg : (goodWord w || isNest w) = true) : w ∈ tb := tb_mem (List.mem_append_right _ (List.mem_of_getElem? h)) hg
theorem tS {w : Cond} (i : Nat) (h : (k2_sels lw_privs)[i]? = some w) (hg : (goodWord w || isNest w) = true) : w ∈ tb := tb_mem (List.mem_append_left _ (List.mem_of_getElem? h)) hg
theorem Cx.ig {X : XX} {G : GG} {cc : ByteArray} {nL fr lo : Nat} {own : String} {ret : Option FieldType} (C : Cx X G cc nL own fr lo ret) : IG G := C.2.2.2.2.2.2.1
theorem ti_ne {x : Int32} {k : Int32} (h : ¬ x = k) : x.toInt ≠ k.toInt := fun e => h (Int32.toInt_inj.mp e)
theorem tsw3 {x : Int32} (h0 : ¬ x = 0) (h1 : ¬ x = 1) (h2 : ¬ x = 2) : x.toInt < 0 ∨ 2 < x.toInt := by
  have a0 := ti_ne h0
  have a1 := ti_ne h1
  have a2 := ti_ne h2
  rw [show (0 : Int32).toInt = 0 from rfl] at a0
  rw [show (1 : Int32).toInt = 1 from rfl] at a1
  rw [show (2 : Int32).toInt = 2 from rfl] at a2
  omega
theorem tsw6 {x : Int32} (h0 : ¬ x = 0) (h1 : ¬ x = 1) (h2 : ¬ x = 2) (h3 : ¬ x = 3) (h4 : ¬ x = 4) (h5 : ¬ x = 5) : x.toInt < 0 ∨ 5 < x.toInt := by
  have b := tsw3 h0 h1 h2
  have a3 := ti_ne h3
  have a4 := ti_ne h4
  have a5 := ti_ne h5
  rw [show (3 : Int32).toInt = 3 from rfl] at a3
  rw [show (4 : Int32).toInt = 4 from rfl] at a4
  rw [show (5 : Int32).toInt = 5 from rfl] at a5
  omega
theorem tsw8 {x : Int32} (h0 : ¬ x = 0) (h1 : ¬ x = 1) (h2 : ¬ x = 2) (h3 : ¬ x = 3) (h4 : ¬ x = 4) (h5 : ¬ x = 5) (h6 : ¬ x = 6) (h7 : ¬ x = 7) : x.toInt < 0 ∨ 7 < x.toInt := by
  have b := tsw6 h0 h1 h2 h3 h4 h5
  have a6 := ti_ne h6
  have a7 := ti_ne h7
  rw [show (6 : Int32).toInt = 6 from rfl] at a6
  rw [show (7 : Int32).toInt = 7 from rfl] at a7
  omega
section VK
variable {X : XX} {G : GG} {M M' : Mem} {cc : ByteArray} {nL pc fr lo : Nat} {own : String} {ret : Option FieldType} {lv : List (Option Value)} {st rest : List Value}
theorem v_iald_k {k : Nat} (C : Cx X G cc nL own fr lo ret) {i n : Nat} {j : Int32} (ha : ga i 10 n = true) (hj : ib j n = true) (hk : ix j = k) (hd : decode cc pc = .ok (.iaload, 1)) (K : V X G nL M (pc + 1) lv (.int (M i k) :: st)) : V X G nL M pc lv (.int j :: .ref (G.2.1 i) :: st) := by subst hk; exact v_iald C ha hj hd K
theorem v_zald_k {k : Nat} (C : Cx X G cc nL own fr lo ret) {i n : Nat} {j : Int32} (ha : ga i 12 n = true) (hj : ib j n = true) (hk : ix j = k) (hd : decode cc pc = .ok (.baload, 1)) (K : V X G nL M (pc + 1) lv (.int (M i k) :: st)) : V X G nL M pc lv (.int j :: .ref (G.2.1 i) :: st) := by subst hk; exact v_zald C ha hj hd K
theorem v_iast_k {k : Nat} (C : Cx X G cc nL own fr lo ret) {i n : Nat} {j x : Int32} (ha : ga i 10 n = true) (hj : ib j n = true) (hk : ix j = k) (hd : decode cc pc = .ok (.iastore, 1)) (K : V X G nL (wr M i k x) (pc + 1) lv st) : V X G nL M pc lv (.int x :: .int j :: .ref (G.2.1 i) :: st) := by subst hk; exact v_iast C ha hj hd K
theorem v_zast_k {k : Nat} (C : Cx X G cc nL own fr lo ret) {i n : Nat} {j x : Int32} (ha : ga i 12 n = true) (hj : ib j n = true) (hk : ix j = k) (hz : z01 x = true) (hd : decode cc pc = .ok (.bastore, 1)) (K : V X G nL (wr M i k x) (pc + 1) lv st) : V X G nL M pc lv (.int x :: .int j :: .ref (G.2.1 i) :: st) := by subst hk; exact v_zast C ha hj hz hd K
theorem v_callVi (C : Cx X G cc nL own fr lo ret) {idx i ci n mL fz lz : Nat} {y : MethodName} {cy : ByteArray} {rt : Option FieldType} {as : List Value} {r : Int32} (hSp : Sp (xl X) G y cy mL rt fz lz (.ref (G.2.1 i) :: as) M (some (.int r)) M') (hL : ML own idx y) (hB : MB y cy mL rt n) (hV : MV y ci) (hi : (decide (i < NC) && kd i == ci) = true) (hn : as.length = n) (hst : st = as.reverse ++ .ref (G.2.1 i) :: rest) (hw : (rest.map fun v => v.category).sum ≤ 8) (hf : fz + 1 ≤ fr) (hlo : 8 + (mL + 11) + lz ≤ lo) (hd : decode cc pc = .ok (.invokevirtual idx, 3)) (K : V X G nL M' (pc + 3) lv (.int r :: rest)) : V X G nL M pc lv st := v_callV C hSp hL hB hV hi hn hst hw hf hlo hd K
theorem v_callVv (C : Cx X G cc nL own fr lo ret) {idx i ci n mL fz lz : Nat} {y : MethodName} {cy : ByteArray} {rt : Option FieldType} {as : List Value} (hSp : Sp (xl X) G y cy mL rt fz lz (.ref (G.2.1 i) :: as) M none M') (hL : ML own idx y) (hB : MB y cy mL rt n) (hV : MV y ci) (hi : (decide (i < NC) && kd i == ci) = true) (hn : as.length = n) (hst : st = as.reverse ++ .ref (G.2.1 i) :: rest) (hw : (rest.map fun v => v.category).sum ≤ 8) (hf : fz + 1 ≤ fr) (hlo : 8 + (mL + 11) + lz ≤ lo) (hd : decode cc pc = .ok (.invokevirtual idx, 3)) (K : V X G nL M' (pc + 3) lv rest) : V X G nL M pc lv st := v_callV C hSp hL hB hV hi hn hst hw hf hlo hd K
theorem v_callVr (C : Cx X G cc nL own fr lo ret) {idx i ci n mL fz lz r : Nat} {y : MethodName} {cy : ByteArray} {rt : Option FieldType} {as : List Value} (hSp : Sp (xl X) G y cy mL rt fz lz (.ref (G.2.1 i) :: as) M (some (.ref (G.2.1 r))) M') (hL : ML own idx y) (hB : MB y cy mL rt n) (hV : MV y ci) (hi : (decide (i < NC) && kd i == ci) = true) (hn : as.length = n) (hst : st = as.reverse ++ .ref (G.2.1 i) :: rest) (hw : (rest.map fun v => v.category).sum ≤ 8) (hf : fz + 1 ≤ fr) (hlo : 8 + (mL + 11) + lz ≤ lo) (hd : decode cc pc = .ok (.invokevirtual idx, 3)) (K : V X G nL M' (pc + 3) lv (.ref (G.2.1 r) :: rest)) : V X G nL M pc lv st := v_callV C hSp hL hB hV hi hn hst hw hf hlo hd K
theorem v_callSi (C : Cx X G cc nL own fr lo ret) {idx n mL fz lz : Nat} {y : MethodName} {cy : ByteArray} {rt : Option FieldType} {as : List Value} {r : Int32} (hSp : Sp (xl X) G y cy mL rt fz lz as M (some (.int r)) M') (hL : ML own idx y) (hB : MB y cy mL rt n) (hV : MS y) (hn : as.length = n) (hst : st = as.reverse ++ rest) (hw : (rest.map fun v => v.category).sum ≤ 8) (hf : fz + 1 ≤ fr) (hlo : 8 + (mL + 11) + lz ≤ lo) (hd : decode cc pc = .ok (.invokestatic idx, 3)) (K : V X G nL M' (pc + 3) lv (.int r :: rest)) : V X G nL M pc lv st := v_callS C hSp hL hB hV hn hst hw hf hlo hd K
theorem v_callSv (C : Cx X G cc nL own fr lo ret) {idx n mL fz lz : Nat} {y : MethodName} {cy : ByteArray} {rt : Option FieldType} {as : List Value} (hSp : Sp (xl X) G y cy mL rt fz lz as M none M') (hL : ML own idx y) (hB : MB y cy mL rt n) (hV : MS y) (hn : as.length = n) (hst : st = as.reverse ++ rest) (hw : (rest.map fun v => v.category).sum ≤ 8) (hf : fz + 1 ≤ fr) (hlo : 8 + (mL + 11) + lz ≤ lo) (hd : decode cc pc = .ok (.invokestatic idx, 3)) (K : V X G nL M' (pc + 3) lv rest) : V X G nL M pc lv st := v_callS C hSp hL hB hV hn hst hw hf hlo hd K
end VK
theorem w_mmin : Cond.static Lib.Math.min.name ∈ tb ∧ Cond.initialized "java/lang/Math" ∈ tb ∧ Cond.code Lib.Math.min.name Lib.Math.min.code 2 (some .int) ∈ tb := by decide +kernel
theorem w_mmax : Cond.static Lib.Math.max.name ∈ tb ∧ Cond.initialized "java/lang/Math" ∈ tb ∧ Cond.code Lib.Math.max.name Lib.Math.max.code 2 (some .int) ∈ tb := by decide +kernel
theorem w_copy : Cond.native arraycopyName ∈ tb ∧ Cond.static arraycopyName ∈ tb ∧ Cond.initialized "java/lang/System" ∈ tb := by decide +kernel
