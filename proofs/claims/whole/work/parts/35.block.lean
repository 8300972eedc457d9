/-! PURE: block matrices -/
def Kt : Type := Nat → Nat → Nat → Nat → Nat
def ff (r w : Nat) (K : Kt) (i j : Nat) : Nat := K (i / r) (j / w) (i % r) (j % w)
def blk (K : Kt) (bi bj r w : Nat) (val : Nat → Nat → Nat) (i' j' : Nat) : Kt := fun b c x y => if b = bi ∧ c = bj ∧ x < r ∧ y < w ∧ (x < i' ∨ (x = i' ∧ y < j')) then val x y else K b c x y
def bk (K : Kt) (bi bj r w : Nat) (val : Nat → Nat → Nat) : Kt := fun b c x y => if b = bi ∧ c = bj ∧ x < r ∧ y < w then val x y else K b c x y
theorem dvm {i r b x : Nat} (hx : x < r) : (i / r = b ∧ i % r = x) ↔ i = b * r + x := by
  constructor
  · rintro ⟨rfl, rfl⟩
    have := Nat.div_add_mod i r
    rw [Nat.mul_comm] at this; omega
  · rintro rfl
    rw [Nat.mul_comm b r, Nat.mul_add_div (by omega), Nat.div_eq_of_lt hx, Nat.mul_add_mod, Nat.mod_eq_of_lt hx]
    exact ⟨rfl, rfl⟩
theorem ff_pt {r w bi bj i' j' i j : Nat} {K : Kt} {val : Nat → Nat → Nat} (hx : i' < r) (hy : j' < w) : ff r w (blk K bi bj r w val i' (j' + 1)) i j = if i = bi * r + i' ∧ j = bj * w + j' then val i' j' else ff r w (blk K bi bj r w val i' j') i j := by
  unfold ff blk
  by_cases q : i = bi * r + i' ∧ j = bj * w + j'
  · obtain ⟨e1, e2⟩ := (dvm hx).mpr q.1
    obtain ⟨e3, e4⟩ := (dvm hy).mpr q.2
    rw [if_pos q, e1, e2, e3, e4, if_pos ⟨rfl, rfl, hx, hy, .inr ⟨rfl, by omega⟩⟩]
  · rw [if_neg q]
    have n : ¬ (i / r = bi ∧ i % r = i' ∧ j / w = bj ∧ j % w = j') := fun z => q ⟨(dvm hx).mp ⟨z.1, z.2.1⟩, (dvm hy).mp z.2.2⟩
    have e : (i / r = bi ∧ j / w = bj ∧ i % r < r ∧ j % w < w ∧ (i % r < i' ∨ (i % r = i' ∧ j % w < j' + 1))) ↔ (i / r = bi ∧ j / w = bj ∧ i % r < r ∧ j % w < w ∧ (i % r < i' ∨ (i % r = i' ∧ j % w < j'))) := by
      generalize i / r = a1 at *
      generalize i % r = a2 at *
      generalize j / w = a3 at *
      generalize j % w = a4 at *
      omega
    by_cases g : i / r = bi ∧ j / w = bj ∧ i % r < r ∧ j % w < w ∧ (i % r < i' ∨ (i % r = i' ∧ j % w < j'))
    · rw [if_pos g, if_pos (e.mpr g)]
    · rw [if_neg g, if_neg (fun z => g (e.mp z))]
theorem blk_0 {K : Kt} {bi bj r w : Nat} {val : Nat → Nat → Nat} : blk K bi bj r w val 0 0 = K := by
  funext b c x y
  exact if_neg (by omega)
theorem blk_w {K : Kt} {bi bj r w i : Nat} {val : Nat → Nat → Nat} : blk K bi bj r w val i w = blk K bi bj r w val (i + 1) 0 := by
  funext b c x y
  unfold blk
  by_cases g : b = bi ∧ c = bj ∧ x < r ∧ y < w ∧ (x < i ∨ (x = i ∧ y < w))
  · rw [if_pos g, if_pos (by omega)]
  · rw [if_neg g, if_neg (by omega)]
theorem blk_r {K : Kt} {bi bj r w : Nat} {val : Nat → Nat → Nat} : blk K bi bj r w val r 0 = bk K bi bj r w val := by
  funext b c x y
  unfold blk bk
  by_cases g : b = bi ∧ c = bj ∧ x < r ∧ y < w
  · rw [if_pos g, if_pos (by omega)]
  · rw [if_neg g, if_neg (by omega)]
/-! the class -/
/-- as MC, but all twenty columns -/
def MW (C : Mem) (p h w : Nat) (F : Nat → Nat → Nat) : Prop := C 23 1 = nI p ∧ C 23 2 = nI h ∧ C 23 3 = nI w ∧ h ≤ 24 ∧ w ≤ 20 ∧ ∀ i j, i < h → j < 20 → F i j < p ∧ C 24 (i * 20 + j) = nI (F i j)
theorem MW.mc {C : Mem} {p h w : Nat} {F : Nat → Nat → Nat} (h0 : MW C p h w F) : MC C p h w F := ⟨h0.1, h0.2.1, h0.2.2.1, h0.2.2.2.1, h0.2.2.2.2.1, fun i j hi hj => h0.2.2.2.2.2 i j hi (by have := h0.2.2.2.2.1; omega)⟩
def PC (C : Mem) (c p r w : Nat) (T : Nat → Nat → Nat → Nat) : Prop := pr p ∧ r ≤ 4 ∧ w ≤ 4 ∧ C c 1 = nI p ∧ C c 2 = nI r ∧ C c 3 = nI w ∧ ∀ t i j, t < 2 → i < r → j < w → T t i j < p ∧ C (c + 1) (16 * t + 4 * i + j) = nI (T t i j)
def okc (c : Nat) : Prop := isP c = true ∧ c ≠ 23 ∧ c ≠ 24 ∧ c + 1 ≠ 23 ∧ c + 1 ≠ 24
theorem PC.mv {C C' : Mem} {c p r w : Nat} {T : Nat → Nat → Nat → Nat} (h : PC C c p r w T) (h1 : C' c = C c) (h2 : C' (c + 1) = C (c + 1)) : PC C' c p r w T := by
  unfold PC at *
  rw [h1, h2]; exact h
theorem mulZ {a : Int} {t : Nat} (h1 : -7 ≤ a) (h2 : a ≤ 7) (ht : t ≤ 7) : -49 ≤ a * (t : Int) ∧ a * (t : Int) ≤ 49 := by
  have e : t = 0 ∨ t = 1 ∨ t = 2 ∨ t = 3 ∨ t = 4 ∨ t = 5 ∨ t = 6 ∨ t = 7 := by omega
  rcases e with rfl | rfl | rfl | rfl | rfl | rfl | rfl | rfl <;> constructor <;> push_cast <;> omega
theorem cmb {a b : Int} {s t : Nat} : Int32.ofInt a * nI s + Int32.ofInt b * nI t = Int32.ofInt (a * (s : Int) + b * (t : Int)) := by
  rw [nIo, nIo, Int32.ofInt_add, Int32.ofInt_mul, Int32.ofInt_mul]
def vl2 (p : Nat) (T : Nat → Nat → Nat → Nat) (a b : Int) (x y : Nat) : Nat := md p (a * (T 0 x y : Int) + b * (T 1 x y : Int))
theorem putNum_ok {C : Mem} {h wd i j : Nat} {v : Int32} (e1 : C 23 2 = nI h) (e2 : C 23 3 = nI wd) (hh : h ≤ 24) (hw : wd ≤ 20) (hi : i < h) (hj : j < wd) : Eq_putNumber (nI i) (nI j) v C = some (wr C 24 (i * 20 + j) v) := by
  unfold Eq_putNumber
  rw [if_neg (show ¬ nI i < 0 from Int32.not_lt.mpr (nI_pos' (by omega))), e1, if_neg (nI_ge hi (by omega)), if_neg (show ¬ nI j < 0 from Int32.not_lt.mpr (nI_pos' (by omega))), e2, if_neg (nI_ge hj (by omega)), at20, if_pos (ibn (by omega) (by omega)), ixn (by omega)]
theorem putB_row {C : Mem} {c p r w h wd bi bj i : Nat} {a b : Int} {T : Nat → Nat → Nat → Nat} {K : Kt} {k3 : Nat → Int32 → Int32 → Int32 → Int32 → Int32 → Mem → Option Mem} (hc : okc c) (hP : PC C c p r w T) (hM : MW C p h wd (ff r w (blk K bi bj r w (vl2 p T a b) i 0))) (ha : -7 ≤ a ∧ a ≤ 7) (hb : -7 ≤ b ∧ b ≤ 7) (h1 : bi * r + r ≤ h) (h2 : bj * w + w ≤ wd) (hi : i < r) : ∃ C', Eq_putBlock_L15 k3 FU c (nI bi) (nI bj) (Int32.ofInt a) (Int32.ofInt b) (nI i) 0 C = k3 c (nI bi) (nI bj) (Int32.ofInt a) (Int32.ofInt b) (nI (i + 1)) C' ∧ (∀ x, x ≠ 24 → C' x = C x) ∧ MW C' p h wd (ff r w (blk K bi bj r w (vl2 p T a b) (i + 1) 0)) := by
  have hm := hM
  have hP2 := hP
  obtain ⟨hp, hr, hw, e1, e2, e3, hv⟩ := hP2
  have h7 := pr_le hp
  obtain ⟨C', g1, g2⟩ := lp (fun m j M' => Eq_putBlock_L15 k3 m c (nI bi) (nI bj) (Int32.ofInt a) (Int32.ofInt b) (nI i) (nI j) M') (fun M' => k3 c (nI bi) (nI bj) (Int32.ofInt a) (Int32.ofInt b) (nI (i + 1)) M') w (fun j M' => (∀ x, x ≠ 24 → M' x = C x) ∧ MW M' p h wd (ff r w (blk K bi bj r w (vl2 p T a b) i j))) (fun m M' h' => by
      show Eq_putBlock_L15 k3 (m + 1) c (nI bi) (nI bj) (Int32.ofInt a) (Int32.ofInt b) (nI i) (nI w) M' = _
      rw [Eq_putBlock_L15, h'.1 c hc.2.2.1, e3, if_pos (Int32.le_refl _), nI_1]) (fun m j M' hj h' => by
      show ∃ M1, _ ∧ Eq_putBlock_L15 k3 (m + 1) c (nI bi) (nI bj) (Int32.ofInt a) (Int32.ofInt b) (nI i) (nI j) M' = Eq_putBlock_L15 k3 m c (nI bi) (nI bj) (Int32.ofInt a) (Int32.ofInt b) (nI i) (nI (j + 1)) M1
      have f0 := hv 0 i j (by omega) hi hj
      have f1 := hv 1 i j (by omega) hi hj
      have z0 := mulZ ha.1 ha.2 (show T 0 i j ≤ 7 by omega)
      have z1 := mulZ hb.1 hb.2 (show T 1 i j ≤ 7 by omega)
      obtain ⟨m1, m2, m3, m4, m5, m6⟩ := h'.2
      have v0 : Pa_valueAt c 0 (nI i) (nI j) M' = some (nI (T 0 i j), M') := by
        rw [show (0 : Int32) = nI 0 from rfl, valueAt_in hc.1 (by rw [h'.1 c hc.2.2.1]; exact e2) (by rw [h'.1 c hc.2.2.1]; exact e3) hr hw (by omega) hi hj, h'.1 (c + 1) hc.2.2.2.2, f0.2]
      have v1 : Pa_valueAt c 1 (nI i) (nI j) M' = some (nI (T 1 i j), M') := by
        rw [show (1 : Int32) = nI 1 from rfl, valueAt_in hc.1 (by rw [h'.1 c hc.2.2.1]; exact e2) (by rw [h'.1 c hc.2.2.1]; exact e3) hr hw (by omega) hi hj, h'.1 (c + 1) hc.2.2.2.2, f1.2]
      rw [Eq_putBlock_L15, h'.1 c hc.2.2.1, e3, if_neg (nI_ge hj (by omega)), v0, bd_s, v1, bd_s, m1, reduce_jR hp, bd_s, h'.1 c hc.2.2.1, e2, e3, cmb, jR_md (by omega) (by omega) hp, nIm, nIm, nIa, nIa, putNum_ok m2 m3 m4 m5 (by omega) (by omega), bv_s, nI_1]
      refine ⟨_, ⟨fun x hx => by rw [wr_ne hx]; exact h'.1 x hx, by rw [wr_ne (by omega)]; exact m1, by rw [wr_ne (by omega)]; exact m2, by rw [wr_ne (by omega)]; exact m3, m4, m5, fun i' j' hi' hj' => ?_⟩, rfl⟩
      rw [ff_pt hi hj, wr_g]
      by_cases q : i' = bi * r + i ∧ j' = bj * w + j
      · rw [if_pos q, if_pos ⟨rfl, by rw [q.1, q.2]⟩]
        exact ⟨md_lt (by omega), rfl⟩
      · rw [if_neg q, if_neg (by omega)]
        exact m6 i' j' hi' hj') w FU 0 C (by omega) (FU_lt (by omega)) ⟨fun _ _ => rfl, hM⟩
  rw [blk_w] at g1
  exact ⟨C', g2, g1.1, g1.2⟩
theorem putB_ok {C : Mem} {c p r w h wd bi bj : Nat} {a b : Int} {T : Nat → Nat → Nat → Nat} {K : Kt} (hc : okc c) (hP : PC C c p r w T) (hM : MW C p h wd (ff r w K)) (ha : -7 ≤ a ∧ a ≤ 7) (hb : -7 ≤ b ∧ b ≤ 7) (h1 : bi * r + r ≤ h) (h2 : bj * w + w ≤ wd) : ∃ C', Eq_putBlock c (nI bi) (nI bj) (Int32.ofInt a) (Int32.ofInt b) C = some C' ∧ (∀ x, x ≠ 24 → C' x = C x) ∧ MW C' p h wd (ff r w (bk K bi bj r w (vl2 p T a b))) := by
  have hP2 := hP
  obtain ⟨hp, hr, hw, e1, e2, e3, hv⟩ := hP2
  unfold Eq_putBlock
  rw [if_pos hc.1]
  obtain ⟨C', g1, g2⟩ := lp (fun m i M' => Eq_putBlock_L3 m c (nI bi) (nI bj) (Int32.ofInt a) (Int32.ofInt b) (nI i) M') (fun M' => some M') r (fun i M' => (∀ x, x ≠ 24 → M' x = C x) ∧ MW M' p h wd (ff r w (blk K bi bj r w (vl2 p T a b) i 0))) (fun m M' h' => by
      show Eq_putBlock_L3 (m + 1) c (nI bi) (nI bj) (Int32.ofInt a) (Int32.ofInt b) (nI r) M' = _
      rw [Eq_putBlock_L3, h'.1 c hc.2.2.1, e2, if_pos (Int32.le_refl _)]) (fun m i M' hi h' => by
      show ∃ M1, _ ∧ Eq_putBlock_L3 (m + 1) c (nI bi) (nI bj) (Int32.ofInt a) (Int32.ofInt b) (nI i) M' = Eq_putBlock_L3 m c (nI bi) (nI bj) (Int32.ofInt a) (Int32.ofInt b) (nI (i + 1)) M1
      obtain ⟨C2, x1, x2, x3⟩ := putB_row (k3 := Eq_putBlock_L3 m) hc (hP.mv (h'.1 c hc.2.2.1) (h'.1 (c + 1) hc.2.2.2.2)) h'.2 ha hb h1 h2 hi
      rw [Eq_putBlock_L3, h'.1 c hc.2.2.1, e2, if_neg (nI_ge hi (by omega)), x1]
      exact ⟨C2, ⟨fun x hx => by rw [x2 x hx, h'.1 x hx], x3⟩, rfl⟩) r FU 0 C (by omega) (FU_lt (by omega)) ⟨fun _ _ => rfl, by rw [blk_0]; exact hM⟩
  rw [blk_r] at g1
  exact ⟨C', g2, g1.1, g1.2⟩
def K0 : Kt := fun _ _ _ _ => 0
theorem begin_ok {C : Mem} {c p r w H W : Nat} {T : Nat → Nat → Nat → Nat} (hc : okc c) (hP : PC C c p r w T) (h1 : H * r ≤ 24) (h2 : W * w ≤ 20) : ∃ C', Eq_begin c (nI H) (nI W) C = some C' ∧ (∀ x, x ≠ 23 → x ≠ 24 → C' x = C x) ∧ MW C' p (H * r) (W * w) (ff r w K0) := by
  have hP2 := hP
  obtain ⟨hp, hr, hw, e1, e2, e3, hv⟩ := hP2
  have h7 := pr_le hp
  unfold Eq_begin
  rw [if_pos hc.1, wr_ne hc.2.1, wr_ne hc.2.1, wr_ne hc.2.1, e1, e2, e3, nIm, nIm, if_neg (show ¬ nI (H * r) > (24 : Int32) from fun z => absurd z (Int32.not_lt.mpr (nI_le (b := 24) h1 (by omega)))), if_neg (show ¬ nI (W * w) > (20 : Int32) from fun z => absurd z (Int32.not_lt.mpr (nI_le (b := 20) h2 (by omega)))), fill_ok (n := 480) rfl rfl (by omega), bv_s]
  refine ⟨_, rfl, fun x n1 n2 => ?_, ?_, ?_, ?_, h1, h2, fun i j hi hj => ⟨?_, ?_⟩⟩
  · funext q; rw [wra_g, if_neg n2, wr_ne n1, wr_ne n1, wr_ne n1]
  · rw [wra_g, if_neg (by omega), wr_o (by omega), wr_o (by omega), wr_s]
  · rw [wra_g, if_neg (by omega), wr_o (by omega), wr_s]
  · rw [wra_g, if_neg (by omega), wr_s]
  · show 0 < p; omega
  · rw [wra_g, if_pos rfl, if_pos (by omega)]; rfl
