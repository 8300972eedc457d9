/-! ROWS of the heap: fields, arrays, returns, calls -/
theorem clk0 : ∀ w ∈ u_ws RX0 TX0 4, w ∈ tb := by decide +kernel
theorem clk1 : ∀ w ∈ u_ws RX1 TX1 4, w ∈ tb := by decide +kernel
theorem clk2 : ∀ w ∈ u_ws RX2 TX2 3, w ∈ tb := by decide +kernel
theorem clk3 : ∀ w ∈ u_ws RX3 TX3 12, w ∈ tb := by decide +kernel
theorem clk4 : ∀ w ∈ u_ws RX4 TX4 5, w ∈ tb := by decide +kernel
theorem clk5 : ∀ w ∈ u_ws RX5 TX5 10, w ∈ tb := by decide +kernel
theorem clk6 : ∀ w ∈ u_ws RX6 TX6 30, w ∈ tb := by decide +kernel
def CK (ci : Nat) (q : vw_C) (ty : Nat → FieldType) : Prop := vwCl[ci]? = some q ∧ (∀ w ∈ u_ws q.1 q.2.1 q.2.2, w ∈ tb) ∧ (∀ k, k < q.2.2 → parseFieldDescriptor (q.2.1 k).2.2.1 = some (ty k)) ∧ (∀ a, a < q.2.2 → ∀ b, b < q.2.2 → a ≠ b → (q.2.1 a).2.1 ≠ (q.2.1 b).2.1)
theorem ck0 : CK 0 (RX0, TX0, 4) tyX0 := ⟨rfl, clk0, tyX0_ok, nmX0⟩
theorem ck1 : CK 1 (RX1, TX1, 4) tyX1 := ⟨rfl, clk1, tyX1_ok, nmX1⟩
theorem ck2 : CK 2 (RX2, TX2, 3) tyX2 := ⟨rfl, clk2, tyX2_ok, nmX2⟩
theorem ck3 : CK 3 (RX3, TX3, 12) tyX3 := ⟨rfl, clk3, tyX3_ok, nmX3⟩
theorem ck4 : CK 4 (RX4, TX4, 5) tyX4 := ⟨rfl, clk4, tyX4_ok, nmX4⟩
theorem ck5 : CK 5 (RX5, TX5, 10) tyX5 := ⟨rfl, clk5, tyX5_ok, nmX5⟩
theorem ck6 : CK 6 (RX6, TX6, 30) tyX6 := ⟨rfl, clk6, tyX6_ok, nmX6⟩
/-- a field's link: class ci, field k, read in the class own by the pool's number idx -/
def FK (own : String) (idx ci k : Nat) (ty : FieldType) (fin : Bool) : Prop := ∃ (q : vw_C) (ty0 : Nat → FieldType), CK ci q ty0 ∧ k < q.2.2 ∧ (q.2.1 k).1 = q.1 ∧ ty0 k = ty ∧ (q.2.1 k).2.2.2 = fin ∧ ci < 10 ∧
  (Cond.fieldLink own idx q.1 (q.2.1 k).2.1 (q.2.1 k).2.2.1 ∈ tb ∨ ∃ host, Cond.fieldLinkNest own idx q.1 (q.2.1 k).2.1 (q.2.1 k).2.2.1 host ∈ tb)
def gi (i ci k : Nat) : Bool := decide (i < NC) && (kd i == ci && (rf i)[k]? == some none)
def gr (i ci k j : Nat) : Bool := decide (i < NC) && (kd i == ci && (rf i)[k]? == some (some j))
def ga (i t n : Nat) : Bool := decide (i < NC) && (kd i == t && ln i == n)
theorem gi_of {i ci k : Nat} (h : gi i ci k = true) : i < NC ∧ kd i = ci ∧ (rf i)[k]? = some none := by simpa [gi] using h
theorem gr_of {i ci k j : Nat} (h : gr i ci k j = true) : i < NC ∧ kd i = ci ∧ (rf i)[k]? = some (some j) := by simpa [gr] using h
theorem ga_of {i t n : Nat} (h : ga i t n = true) : i < NC ∧ kd i = t ∧ ln i = n := by simpa [ga] using h
def ib (i : Int32) (n : Nat) : Bool := !(decide (i < 0)) && decide (i.toNatClampNeg < n)
theorem ib_in {i : Int32} {n : Nat} (h : ib i n = true) : vp_in i n := by
  simp only [ib, Bool.and_eq_true, Bool.not_eq_true', decide_eq_false_iff_not, decide_eq_true_eq] at h
  exact fun q => q.elim h.1 (fun z => Nat.not_le.mpr h.2 z)
abbrev ix (i : Int32) : Nat := i.toNatClampNeg
def z01 (x : Int32) : Bool := x == 0 || x == 1
theorem z01_narrow {x : Int32} (h : z01 x = true) : narrow .boolean (.int x) = .int x := by
  simp only [z01, Bool.or_eq_true, beq_iff_eq] at h
  rcases h with rfl | rfl <;> rfl
theorem z01_fits {x : Int32} (h : z01 x = true) : fits .boolean (.int x) = true := h
theorem ce_ob {G : GG} {M : Mem} {i ci : Nat} (h : kd i = ci) (hc : ci < 10) : ce G M i = .inr (ci, fl G M i) := by
  subst h
  simp only [ce, if_pos hc]
theorem ce_ar {G : GG} {M : Mem} {i : Nat} (h : 10 ≤ kd i) (h2 : kd i < 13) : ce G M i = .inl (G.2.2 i, ln i, .inl (M i)) := by
  simp only [ce, if_neg (Nat.not_lt.mpr h), if_pos h2]
theorem ce_rf {G : GG} {M : Mem} {i : Nat} (h : 13 ≤ kd i) : ce G M i = .inl (G.2.2 i, ln i, .inr (.inr (.inr (.inr (fun k => ((rf i).getD k none).map G.2.1))))) := by
  simp only [ce, if_neg (show ¬ kd i < 10 by omega), if_neg (Nat.not_lt.mpr h)]
theorem fl_at {G : GG} {M : Mem} {i k : Nat} {r : Option Nat} (h : (rf i)[k]? = some r) : (fl G M i)[k]? = some (fv G M i k r) := by simp [fl, List.getElem?_mapIdx, h]
theorem fl_set {G : GG} {M : Mem} {i k : Nat} {v : Int32} (h : (rf i)[k]? = some none) : (fl G M i).set k (.int v) = fl G (wr M i k v) i := by
  apply List.ext_getElem?
  intro j
  by_cases hj : j = k
  · subst hj
    have hlt : j < (rf i).length := (List.getElem?_eq_some_iff.mp h).1
    rw [List.getElem?_set_self (by simpa [fl] using hlt), fl_at h]
    simp [fv, wr]
  · rw [List.getElem?_set_ne (fun q => hj q.symm)]
    simp only [fl, List.getElem?_mapIdx]
    cases (rf i)[j]? with
    | none => rfl
    | some r => cases r <;> simp [fv, wr, hj]
section VH
variable {X : XX} {G : GG} {M M' : Mem} {cc : ByteArray} {nL pc fr lo : Nat} {own : String} {ret : Option FieldType} {lv : List (Option Value)} {st : List Value}
theorem v_geti (C : Cx X G cc nL own fr lo ret) {idx i ci k : Nat} {ty : FieldType} {fin : Bool} (hf : FK own idx ci k ty fin) (hi : gi i ci k = true) (hd : decode cc pc = .ok (.getfield idx, 3)) (K : V X G nL M (pc + 3) lv (.int (M i k) :: st)) : V X G nL M pc lv (.ref (G.2.1 i) :: st) := fun H locs ls hP hS h => by
  obtain ⟨h1, h2, h3⟩ := gi_of hi
  obtain ⟨⟨cn, ct, cN⟩, ty0, ⟨c1, c2, -, -⟩, c5, c6, -, -, c8, c9⟩ := hf
  dsimp only at c1 c2 c5 c6 c9
  obtain ⟨e1, e2, e3, e4, e5, e6, -⟩ := C
  rcases c9 with c9 | ⟨host, c9⟩
  · exact va_get (D := G.1) (cl := vwCl) (tys := []) (ci := ci) e1 e2 e5 c2 e4 e6.ob hP i (by rw [wo_at h1, ce_ob h2 c8]) c1 k c5 (e5 _ c9) (fun _ z => by rw [← c6]; exact z) (v := .int (M i k)) (by rw [fl_at h3]; rfl) hd (K H locs ls hP hS h)
  · exact va_getN (D := G.1) (cl := vwCl) (tys := []) (ci := ci) e1 e2 e5 c2 e4 e6.ob hP i (by rw [wo_at h1, ce_ob h2 c8]) c1 k c5 (e5 _ c9) (fun _ z => by rw [← c6]; exact z) (v := .int (M i k)) (by rw [fl_at h3]; rfl) hd (K H locs ls hP hS h)
theorem v_getr (C : Cx X G cc nL own fr lo ret) {idx i ci k j : Nat} {ty : FieldType} {fin : Bool} (hf : FK own idx ci k ty fin) (hi : gr i ci k j = true) (hd : decode cc pc = .ok (.getfield idx, 3)) (K : V X G nL M (pc + 3) lv (.ref (G.2.1 j) :: st)) : V X G nL M pc lv (.ref (G.2.1 i) :: st) := fun H locs ls hP hS h => by
  obtain ⟨h1, h2, h3⟩ := gr_of hi
  obtain ⟨⟨cn, ct, cN⟩, ty0, ⟨c1, c2, -, -⟩, c5, c6, -, -, c8, c9⟩ := hf
  dsimp only at c1 c2 c5 c6 c9
  obtain ⟨e1, e2, e3, e4, e5, e6, -⟩ := C
  rcases c9 with c9 | ⟨host, c9⟩
  · exact va_get (D := G.1) (cl := vwCl) (tys := []) (ci := ci) e1 e2 e5 c2 e4 e6.ob hP i (by rw [wo_at h1, ce_ob h2 c8]) c1 k c5 (e5 _ c9) (fun _ z => by rw [← c6]; exact z) (v := .ref (G.2.1 j)) (by rw [fl_at h3]; rfl) hd (K H locs ls hP hS h)
  · exact va_getN (D := G.1) (cl := vwCl) (tys := []) (ci := ci) e1 e2 e5 c2 e4 e6.ob hP i (by rw [wo_at h1, ce_ob h2 c8]) c1 k c5 (e5 _ c9) (fun _ z => by rw [← c6]; exact z) (v := .ref (G.2.1 j)) (by rw [fl_at h3]; rfl) hd (K H locs ls hP hS h)
theorem v_putg (C : Cx X G cc nL own fr lo ret) {idx i ci k : Nat} {ty : FieldType} {x : Int32} (hf : FK own idx ci k ty false) (hi : gi i ci k = true) (hn : narrow ty (.int x) = .int x) (hfit : fits ty (.int x) = true) (hd : decode cc pc = .ok (.putfield idx, 3)) (K : V X G nL (wr M i k x) (pc + 3) lv st) : V X G nL M pc lv (.int x :: .ref (G.2.1 i) :: st) := fun H locs ls hP hS h => by
  obtain ⟨h1, h2, h3⟩ := gi_of hi
  obtain ⟨⟨cn, ct, cN⟩, ty0, ⟨c1, c2, c3, c4⟩, c5, c6, c7, c7b, c8, c9⟩ := hf
  dsimp only at c1 c2 c3 c4 c5 c6 c7 c7b c9
  obtain ⟨e1, e2, e3, e4, e5, e6, e7, -⟩ := C
  have hlen : k < (fl G M i).length := by
    have := (List.getElem?_eq_some_iff.mp h3).1
    simpa [fl] using this
  have hset : (wo G M).set i (G.2.1 i, .inr (ci, (fl G M i).set k (.int x))) = wo G (wr M i k x) := by
    rw [fl_set h3, ← ce_ob h2 c8]
    exact wo_set h1 (fun j hj => wr_ne hj)
  have hfin : ∀ (H1 : Heap) (locs1 : List Loc), va_P G.1 vwCl ((wo G M).set i (G.2.1 i, .inr (ci, (fl G M i).set k (.int x)))) H1 → va_D (AG G) ((wo G M).set i (G.2.1 i, .inr (ci, (fl G M i).set k (.int x)))) → va_S (AG G) (xs X).heap H1 locs1 → WX X H1 locs1 (F0 (xm X) (pc + 3) ls st) := fun H1 locs1 hP1 _ hS1 => K H1 locs1 ls (by rw [← hset]; exact hP1) hS1 h
  rcases c9 with c9 | ⟨host, c9⟩
  · exact va_put (D := G.1) (cl := vwCl) (tys := []) (ci := ci) (v := .int x) (ty := ty) e1 e2 e5 c2 ty0 c3 c4 e4 e6.ob hP (wo_D e7) hS i (by rw [wo_at h1, ce_ob h2 c8]) c1 k c5 (e5 _ c9) (fun _ z => by rw [← c6]; exact z) c7b (by rw [← c7]; exact c3 k c5) hn hfit hlen hd hfin
  · exact va_putN (D := G.1) (cl := vwCl) (tys := []) (ci := ci) (v := .int x) (ty := ty) e1 e2 e5 c2 ty0 c3 c4 e4 e6.ob hP (wo_D e7) hS i (by rw [wo_at h1, ce_ob h2 c8]) c1 k c5 (e5 _ c9) (fun _ z => by rw [← c6]; exact z) c7b (by rw [← c7]; exact c3 k c5) hn hfit hlen hd hfin
theorem v_puti (C : Cx X G cc nL own fr lo ret) {idx i ci k : Nat} {x : Int32} (hf : FK own idx ci k .int false) (hi : gi i ci k = true) (hd : decode cc pc = .ok (.putfield idx, 3)) (K : V X G nL (wr M i k x) (pc + 3) lv st) : V X G nL M pc lv (.int x :: .ref (G.2.1 i) :: st) := v_putg C hf hi rfl rfl hd K
theorem v_putz (C : Cx X G cc nL own fr lo ret) {idx i ci k : Nat} {x : Int32} (hf : FK own idx ci k .boolean false) (hi : gi i ci k = true) (hz : z01 x = true) (hd : decode cc pc = .ok (.putfield idx, 3)) (K : V X G nL (wr M i k x) (pc + 3) lv st) : V X G nL M pc lv (.int x :: .ref (G.2.1 i) :: st) := v_putg C hf hi (z01_narrow hz) (z01_fits hz) hd K
theorem ty10 {i : Nat} (h : kd i = 10) : tyA i = .int := by simp [tyA, h]
theorem ty11 {i : Nat} (h : kd i = 11) : tyA i = .byte := by simp [tyA, h]
theorem ty12 {i : Nat} (h : kd i = 12) : tyA i = .boolean := by simp [tyA, h]
theorem ty13 {i : Nat} (h : kd i = 13) : tyA i = .object RX1 := by simp [tyA, h]
theorem ty14 {i : Nat} (h : kd i = 14) : tyA i = .object RX2 := by simp [tyA, h]
theorem v_iald (C : Cx X G cc nL own fr lo ret) {i n : Nat} {j : Int32} (ha : ga i 10 n = true) (hj : ib j n = true) (hd : decode cc pc = .ok (.iaload, 1)) (K : V X G nL M (pc + 1) lv (.int (M i (ix j)) :: st)) : V X G nL M pc lv (.int j :: .ref (G.2.1 i) :: st) := fun H locs ls hP hS h => by
  obtain ⟨h1, h2, h3⟩ := ga_of ha
  obtain ⟨e1, e2, e3, e4, e5, e6, -⟩ := C
  exact va_iald (D := G.1) (cl := vwCl) e1 e2 (e6.ar h1 (by omega) (ty10 h2)) hP i 0 (n := n) (f := M i) (by rw [wo_at h1, ce_ar (by omega) (by omega), h3]) rfl (ib_in hj) hd (K H locs ls hP hS h)
theorem v_bald (C : Cx X G cc nL own fr lo ret) {i n : Nat} {j : Int32} (ha : ga i 11 n = true) (hj : ib j n = true) (hd : decode cc pc = .ok (.baload, 1)) (K : V X G nL M (pc + 1) lv (.int (M i (ix j)) :: st)) : V X G nL M pc lv (.int j :: .ref (G.2.1 i) :: st) := fun H locs ls hP hS h => by
  obtain ⟨h1, h2, h3⟩ := ga_of ha
  obtain ⟨e1, e2, e3, e4, e5, e6, -⟩ := C
  exact va_bald (D := G.1) (cl := vwCl) e1 e2 (e6.ar h1 (by omega) (ty11 h2)) hP i 0 (n := n) (f := M i) (by rw [wo_at h1, ce_ar (by omega) (by omega), h3]) rfl (ib_in hj) hd (K H locs ls hP hS h)
theorem v_zald (C : Cx X G cc nL own fr lo ret) {i n : Nat} {j : Int32} (ha : ga i 12 n = true) (hj : ib j n = true) (hd : decode cc pc = .ok (.baload, 1)) (K : V X G nL M (pc + 1) lv (.int (M i (ix j)) :: st)) : V X G nL M pc lv (.int j :: .ref (G.2.1 i) :: st) := fun H locs ls hP hS h => by
  obtain ⟨h1, h2, h3⟩ := ga_of ha
  obtain ⟨e1, e2, e3, e4, e5, e6, -⟩ := C
  exact va_zald (D := G.1) (cl := vwCl) e1 e2 (e6.ar h1 (by omega) (ty12 h2)) hP i 0 (n := n) (f := M i) (by rw [wo_at h1, ce_ar (by omega) (by omega), h3]) rfl (ib_in hj) hd (K H locs ls hP hS h)
theorem wo_arr {i n k : Nat} {x : Int32} (h1 : i < NC) (h2 : 10 ≤ kd i) (h2b : kd i < 13) (h3 : ln i = n) : (wo G M).set i (G.2.1 i, .inl (G.2.2 i, n, .inl (upd (M i) k x))) = wo G (wr M i k x) := by
  rw [← h3, ← wr_upd, ← ce_ar (M := wr M i k x) h2 h2b]
  exact wo_set h1 (fun j hj => wr_ne hj)
theorem v_iast (C : Cx X G cc nL own fr lo ret) {i n : Nat} {j x : Int32} (ha : ga i 10 n = true) (hj : ib j n = true) (hd : decode cc pc = .ok (.iastore, 1)) (K : V X G nL (wr M i (ix j) x) (pc + 1) lv st) : V X G nL M pc lv (.int x :: .int j :: .ref (G.2.1 i) :: st) := fun H locs ls hP hS h => by
  obtain ⟨h1, h2, h3⟩ := ga_of ha
  obtain ⟨e1, e2, e3, e4, e5, e6, e7, -⟩ := C
  exact va_iast (D := G.1) (cl := vwCl) e1 e2 (e6.ar h1 (by omega) (ty10 h2)) hP (wo_D e7) hS i 0 (n := n) (f := M i) (by rw [wo_at h1, ce_ar (by omega) (by omega), h3]) rfl (ib_in hj) hd (fun H1 locs1 hP1 _ hS1 => K H1 locs1 ls (by rw [← wo_arr h1 (by omega) (by omega) h3]; exact hP1) hS1 h)
theorem v_bast (C : Cx X G cc nL own fr lo ret) {i n : Nat} {j x : Int32} (ha : ga i 11 n = true) (hj : ib j n = true) (hd : decode cc pc = .ok (.bastore, 1)) (K : V X G nL (wr M i (ix j) x.toInt8.toInt32) (pc + 1) lv st) : V X G nL M pc lv (.int x :: .int j :: .ref (G.2.1 i) :: st) := fun H locs ls hP hS h => by
  obtain ⟨h1, h2, h3⟩ := ga_of ha
  obtain ⟨e1, e2, e3, e4, e5, e6, e7, -⟩ := C
  exact va_bast (D := G.1) (cl := vwCl) e1 e2 (e6.ar h1 (by omega) (ty11 h2)) hP (wo_D e7) hS i 0 (n := n) (f := M i) (by rw [wo_at h1, ce_ar (by omega) (by omega), h3]) rfl (ib_in hj) hd (fun H1 locs1 hP1 _ hS1 => K H1 locs1 ls (by rw [← vp_nar_byte, ← wo_arr h1 (by omega) (by omega) h3]; exact hP1) hS1 h)
theorem v_zast (C : Cx X G cc nL own fr lo ret) {i n : Nat} {j x : Int32} (ha : ga i 12 n = true) (hj : ib j n = true) (hz : z01 x = true) (hd : decode cc pc = .ok (.bastore, 1)) (K : V X G nL (wr M i (ix j) x) (pc + 1) lv st) : V X G nL M pc lv (.int x :: .int j :: .ref (G.2.1 i) :: st) := fun H locs ls hP hS h => by
  obtain ⟨h1, h2, h3⟩ := ga_of ha
  obtain ⟨e1, e2, e3, e4, e5, e6, e7, -⟩ := C
  have hx : vp_nar .boolean x = x := by simp only [vp_nar, z01_narrow hz]
  exact va_zast (D := G.1) (cl := vwCl) e1 e2 (e6.ar h1 (by omega) (ty12 h2)) hP (wo_D e7) hS i 0 (n := n) (f := M i) (by rw [wo_at h1, ce_ar (by omega) (by omega), h3]) rfl (ib_in hj) hd (fun H1 locs1 hP1 _ hS1 => K H1 locs1 ls (by rw [hx, wo_arr h1 (by omega) (by omega) h3] at hP1; exact hP1) hS1 h)
theorem v_alen (C : Cx X G cc nL own fr lo ret) {i n : Nat} (ha : ga i 10 n = true) (hd : decode cc pc = .ok (.arraylength, 1)) (K : V X G nL M (pc + 1) lv (.int (nI n) :: st)) : V X G nL M pc lv (.ref (G.2.1 i) :: st) := fun H locs ls hP hS h => by
  obtain ⟨h1, h2, h3⟩ := ga_of ha
  obtain ⟨e1, e2, e3, e4, e5, e6, -⟩ := C
  exact va_alen (D := G.1) (cl := vwCl) e1 e2 (e6.ar h1 (by omega) (ty10 h2)) hP i 0 (x := (n, .inl (M i))) (ty := .int) (by rw [wo_at h1, ce_ar (by omega) (by omega), h3]) rfl rfl hd (K H locs ls hP hS h)
/-- an array of references: t 13 of Pairs, 14 of Sheets -/
theorem v_aald (C : Cx X G cc nL own fr lo ret) {i n t r : Nat} {j : Int32} (ha : ga i t n = true) (ht : t = 13 ∨ t = 14) (hj : ib j n = true) (hr : (rf i)[ix j]? = some (some r)) (hd : decode cc pc = .ok (.aaload, 1)) (K : V X G nL M (pc + 1) lv (.ref (G.2.1 r) :: st)) : V X G nL M pc lv (.int j :: .ref (G.2.1 i) :: st) := fun H locs ls hP hS h => by
  obtain ⟨h1, h2, h3⟩ := ga_of ha
  obtain ⟨e1, e2, e3, e4, e5, e6, -⟩ := C
  have hv : va_rf (((rf i).getD (ix j) none).map G.2.1) = .ref (G.2.1 r) := by rw [List.getD_eq_getElem?_getD, hr]; rfl
  have hk := K H locs ls hP hS h
  rw [← hv] at hk
  rcases ht with rfl | rfl
  · exact va_aldq (D := G.1) (cl := vwCl) e1 e2 (e6.ar h1 (by omega) (ty13 h2)) hP i 0 (n := n) (f := fun k => ((rf i).getD k none).map G.2.1) (by rw [wo_at h1, ce_rf (by omega), h3]) rfl (ib_in hj) hd hk
  · exact va_aldq (D := G.1) (cl := vwCl) e1 e2 (e6.ar h1 (by omega) (ty14 h2)) hP i 0 (n := n) (f := fun k => ((rf i).getD k none).map G.2.1) (by rw [wo_at h1, ce_rf (by omega), h3]) rfl (ib_in hj) hd hk
/-! returns -/
theorem ps_of {H : Heap} {locs : List Loc} {ov : Option Value} (hP : va_P G.1 vwCl (wo G M) H) (hS : va_S (AG G) (xs X).heap H locs) : ∀ t : State, t.heap = H → (xs X).WarmedH t.vm → Ps G ov M (xa X) (xs X) (.returned ov) t := fun t ht _ => ⟨rfl, by rw [ht]; exact hP, hS.F ht⟩
theorem v_iret (C : Cx X G cc nL own fr lo (some .int)) {x : Int32} (hQ : Rt X G (some (.int x)) M) (hd : decode cc pc = .ok (.ireturn, 1)) : V X G nL M pc lv [.int x] := fun H locs ls hP hS h => by
  obtain ⟨e1, e2, -, -, -, -, -, -, -, e10, e11, -⟩ := C
  show W _ _ _ _ _ _ _ _ _ _ _ _ _ _ (xQ X) _
  rw [show xQ X = _ from hQ]
  exact W.iret e1 e2 e10 (ps_of hP hS) hS.2.2 hd e11
theorem v_zret (C : Cx X G cc nL own fr lo (some .boolean)) {x : Int32} (hQ : Rt X G (some (.int x)) M) (hz : z01 x = true) (hd : decode cc pc = .ok (.ireturn, 1)) : V X G nL M pc lv [.int x] := fun H locs ls hP hS h => by
  obtain ⟨e1, e2, -, -, -, -, -, -, -, e10, e11, -⟩ := C
  show W _ _ _ _ _ _ _ _ _ _ _ _ _ _ (xQ X) _
  rw [show xQ X = _ from hQ]
  exact W.zret e1 e2 e10 (z01_narrow hz) (ps_of hP hS) hS.2.2 hd e11
theorem v_vret (C : Cx X G cc nL own fr lo none) (hQ : Rt X G none M) (hd : decode cc pc = .ok (.return_, 1)) : V X G nL M pc lv [] := fun H locs ls hP hS h => by
  obtain ⟨e1, e2, -, -, -, -, -, -, -, e10, e11, -⟩ := C
  show W _ _ _ _ _ _ _ _ _ _ _ _ _ _ (xQ X) _
  rw [show xQ X = _ from hQ]
  exact W.vret e1 e2 e10 (ps_of hP hS) hS.2.2 hd e11
theorem v_aret {cn : String} (C : Cx X G cc nL own fr lo (some (.object cn))) {r : Nat} (hQ : Rt X G (some (.ref (G.2.1 r))) M) (hd : decode cc pc = .ok (.areturn, 1)) : V X G nL M pc lv [.ref (G.2.1 r)] := fun H locs ls hP hS h => by
  obtain ⟨e1, e2, -, -, -, -, -, -, -, e10, e11, -⟩ := C
  show W _ _ _ _ _ _ _ _ _ _ _ _ _ _ (xQ X) _
  rw [show xQ X = _ from hQ]
  exact W.aret e1 e2 e10 (Or.inl ⟨_, rfl⟩) (Or.inr ⟨_, rfl⟩) (ps_of hP hS) hS.2.2 hd e11
end VH
