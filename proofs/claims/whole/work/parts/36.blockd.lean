/-! PURE: block matrices, the reference -/
def DP (D : Mem) (p r w : Nat) (T : Nat → Nat → Nat → Nat) : Prop := pr p ∧ r ≤ 4 ∧ w ≤ 4 ∧ D 33 0 = nI p ∧ ((D 32 17 = 0 ∧ D 33 1 = nI r ∧ D 33 2 = nI w ∧ ∀ t i j, t < 2 → i < r → j < w → T t i j < p ∧ D 33 (3 + (16 * t + 4 * i + j)) = nI (T t i j)) ∨ (D 32 17 = 1 ∧ D 33 1 = nI w ∧ D 33 2 = nI r ∧ ∀ t i j, t < 2 → i < r → j < w → T t i j < p ∧ D 33 (3 + (16 * t + 4 * j + i)) = nI (T t i j)))
theorem DP.mv {D D' : Mem} {p r w : Nat} {T : Nat → Nat → Nat → Nat} (h : DP D p r w T) (h1 : D' 33 = D 33) (h2 : D' 32 17 = D 32 17) : DP D' p r w T := by
  unfold DP at *
  rw [h1, h2]; exact h
theorem DP.rows {D : Mem} {p r w : Nat} {T : Nat → Nat → Nat → Nat} (h : DP D p r w T) : Mo_rowsNow D = some (nI r, D) := by
  obtain ⟨_, _, _, _, h | h⟩ := h
  · unfold Mo_rowsNow; rw [h.1, if_pos rfl, h.2.1]
  · unfold Mo_rowsNow; rw [h.1, if_neg (by decide), h.2.2.1]
theorem DP.cols {D : Mem} {p r w : Nat} {T : Nat → Nat → Nat → Nat} (h : DP D p r w T) : Mo_columnsNow D = some (nI w, D) := by
  obtain ⟨_, _, _, _, h | h⟩ := h
  · unfold Mo_columnsNow; rw [h.1, if_pos rfl, h.2.2.1]
  · unfold Mo_columnsNow; rw [h.1, if_neg (by decide), h.2.1]
theorem DP.at {D : Mem} {p r w t i j : Nat} {T : Nat → Nat → Nat → Nat} (h : DP D p r w T) (ht : t < 2) (hi : i < r) (hj : j < w) : Mo_entry (nI t) (nI i) (nI j) D = some (nI (T t i j), D) := by
  obtain ⟨_, hr, hw, _, h | h⟩ := h
  · unfold Mo_entry; rw [h.1, if_pos rfl, of_in ht (by omega) (by omega), bd_s, (h.2.2.2 t i j ht hi hj).2]
  · unfold Mo_entry; rw [h.1, if_neg (by decide), of_in ht (by omega) (by omega), bd_s, (h.2.2.2 t i j ht hi hj).2]
theorem DP.lt {D : Mem} {p r w t i j : Nat} {T : Nat → Nat → Nat → Nat} (h : DP D p r w T) (ht : t < 2) (hi : i < r) (hj : j < w) : T t i j < p := by
  obtain ⟨_, hr, hw, _, h | h⟩ := h
  · exact (h.2.2.2 t i j ht hi hj).1
  · exact (h.2.2.2 t i j ht hi hj).1
theorem startL_ok {D : Mem} {p r w H W : Nat} {T : Nat → Nat → Nat → Nat} (hP : DP D p r w T) (h1 : H * r ≤ 24) (h2 : W * w ≤ 20) : ∃ D', Mo_startsLarge (nI H) (nI W) D = some D' ∧ (∀ x, x ≠ 32 → x ≠ 38 → D' x = D x) ∧ (∀ k, k ≠ 15 → k ≠ 16 → D' 32 k = D 32 k) ∧ D' 32 16 = nI (W * w) ∧ MD D' p (H * r) (ff r w K0) := by
  have h7 := pr_le hP.1
  have q : DP (wr D 32 15 (nI (H * r))) p r w T := hP.mv (wr_ne (by omega)) (wr_o (by omega))
  unfold Mo_startsLarge
  rw [hP.rows, bd_s, nIm, q.cols, bd_s, nIm]
  obtain ⟨D', g1, g2⟩ := lp (fun m j M' => Mo_startsLarge_L22 m (nI j) M') (fun M' => some M') 504 (fun j M' => (∀ x, x ≠ 38 → M' x = wr (wr D 32 15 (nI (H * r))) 32 16 (nI (W * w)) x) ∧ ∀ k, k < j → M' 38 k = 0) (fun m M' _ => by
      show Mo_startsLarge_L22 (m + 1) (nI 504) M' = _
      rw [Mo_startsLarge_L22, if_pos (show (504 : Int32) ≤ nI 504 by decide)]) (fun m j M' hj h' => by
      show ∃ M1, _ ∧ Mo_startsLarge_L22 (m + 1) (nI j) M' = Mo_startsLarge_L22 m (nI (j + 1)) M1
      rw [Mo_startsLarge_L22, if_neg (show ¬ (504 : Int32) ≤ nI j from nI_ge (b := 504) hj (by omega)), if_pos (ibn (by omega) (by omega)), ixn (by omega), nI_1]
      refine ⟨_, ⟨fun x hx => by rw [wr_ne hx]; exact h'.1 x hx, fun k hk => ?_⟩, rfl⟩
      by_cases e : k = j
      · subst e; rw [wr_s]
      · rw [wr_o e]; exact h'.2 k (by omega)) 504 FU 0 _ (by omega) (FU_lt (by omega)) ⟨fun _ _ => rfl, fun k hk => by omega⟩
  refine ⟨D', g2, fun x n1 n2 => by rw [g1.1 x n2, wr_ne n1, wr_ne n1], fun k n1 n2 => by rw [g1.1 32 (by omega), wr_o n2, wr_o n1], by rw [g1.1 32 (by omega), wr_s], ?_, ?_, h1, fun i j hi hj => ⟨?_, ?_⟩⟩
  · rw [g1.1 33 (by omega), wr_ne (by omega), wr_ne (by omega)]; exact hP.2.2.2.1
  · rw [g1.1 32 (by omega), wr_o (by omega), wr_s]
  · show 0 < p; omega
  · exact g1.2 _ (by omega)
def va2 (p : Nat) (K : Kt) (bi bj : Nat) (T : Nat → Nat → Nat → Nat) (a b : Int) (x y : Nat) : Nat := md p ((K bi bj x y : Int) + a * (T 0 x y : Int) + b * (T 1 x y : Int))
theorem cmb3 {a b : Int} {k s t : Nat} : nI k + Int32.ofInt a * nI s + Int32.ofInt b * nI t = Int32.ofInt ((k : Int) + a * (s : Int) + b * (t : Int)) := by
  rw [nIo, nIo, nIo, Int32.ofInt_add, Int32.ofInt_add, Int32.ofInt_mul, Int32.ofInt_mul]
theorem at21b {r w bi bj i j : Nat} : 21 * (nI bi * nI r + nI i) + nI bj * nI w + nI j = nI (21 * (bi * r + i) + (bj * w + j)) := by
  rw [show (21 : Int32) = nI 21 from rfl, nIm, nIa, nIm, nIm, nIa, nIa, Nat.add_assoc]
theorem addB_row {D : Mem} {p r w h bi bj i : Nat} {a b : Int} {T : Nat → Nat → Nat → Nat} {K : Kt} {k3 : Int32 → Int32 → Int32 → Int32 → Int32 → Mem → Option Mem} (hP : DP D p r w T) (hM : MD D p h (ff r w (blk K bi bj r w (va2 p K bi bj T a b) i 0))) (ha : -7 ≤ a ∧ a ≤ 7) (hb : -7 ≤ b ∧ b ≤ 7) (h1 : bi * r + r ≤ h) (h2 : bj * w + w ≤ 20) (hi : i < r) : ∃ D', Mo_adds_L15 k3 FU (nI bi) (nI bj) (Int32.ofInt a) (Int32.ofInt b) (nI i) 0 D = k3 (nI bi) (nI bj) (Int32.ofInt a) (Int32.ofInt b) (nI (i + 1)) D' ∧ (∀ x, x ≠ 38 → D' x = D x) ∧ MD D' p h (ff r w (blk K bi bj r w (va2 p K bi bj T a b) (i + 1) 0)) := by
  have hp := hP.1
  have hr := hP.2.1
  have hw := hP.2.2.1
  have h7 := pr_le hp
  obtain ⟨D', g1, g2⟩ := lp (fun m j M' => Mo_adds_L15 k3 m (nI bi) (nI bj) (Int32.ofInt a) (Int32.ofInt b) (nI i) (nI j) M') (fun M' => k3 (nI bi) (nI bj) (Int32.ofInt a) (Int32.ofInt b) (nI (i + 1)) M') w (fun j M' => (∀ x, x ≠ 38 → M' x = D x) ∧ MD M' p h (ff r w (blk K bi bj r w (va2 p K bi bj T a b) i j))) (fun m M' h' => by
      show Mo_adds_L15 k3 (m + 1) (nI bi) (nI bj) (Int32.ofInt a) (Int32.ofInt b) (nI i) (nI w) M' = _
      have q : DP M' p r w T := hP.mv (h'.1 33 (by omega)) (by rw [h'.1 32 (by omega)])
      rw [Mo_adds_L15, q.cols, bd_s, if_pos (Int32.le_refl _), nI_1]) (fun m j M' hj h' => by
      show ∃ M1, _ ∧ Mo_adds_L15 k3 (m + 1) (nI bi) (nI bj) (Int32.ofInt a) (Int32.ofInt b) (nI i) (nI j) M' = Mo_adds_L15 k3 m (nI bi) (nI bj) (Int32.ofInt a) (Int32.ofInt b) (nI i) (nI (j + 1)) M1
      have q : DP M' p r w T := hP.mv (h'.1 33 (by omega)) (by rw [h'.1 32 (by omega)])
      have f0 := q.lt (t := 0) (by omega) hi hj
      have f1 := q.lt (t := 1) (by omega) hi hj
      have z0 := mulZ ha.1 ha.2 (show T 0 i j ≤ 7 by omega)
      have z1 := mulZ hb.1 hb.2 (show T 1 i j ≤ 7 by omega)
      obtain ⟨m1, m2, m4, m6⟩ := h'.2
      have kk : ff r w (blk K bi bj r w (va2 p K bi bj T a b) i j) (bi * r + i) (bj * w + j) = K bi bj i j := by
        obtain ⟨e1, e2⟩ := (dvm (b := bi) hi).mpr rfl
        obtain ⟨e3, e4⟩ := (dvm (b := bj) hj).mpr rfl
        unfold ff blk
        rw [e1, e2, e3, e4, if_neg (by omega)]
      have mm := m6 (bi * r + i) (bj * w + j) (by omega) (by omega)
      rw [kk] at mm
      have o0 : Mo_entry 0 (nI i) (nI j) M' = some (nI (T 0 i j), M') := q.at (t := 0) (by omega) hi hj
      have o1 : Mo_entry 1 (nI i) (nI j) M' = some (nI (T 1 i j), M') := q.at (t := 1) (by omega) hi hj
      rw [Mo_adds_L15, q.cols, bd_s, if_neg (nI_ge hj (by omega)), q.rows, bd_s, q.cols, bd_s, at21b, if_pos (ibn (by omega) (by omega)), o0, bd_s, o1, bd_s, ixn (by omega), mm.2, modulo_jM m1 hp, bd_s, cmb3, jM_md (by omega) (by omega) hp, if_pos (ibn (by omega) (by omega)), nI_1]
      refine ⟨_, ⟨fun x hx => by rw [wr_ne hx]; exact h'.1 x hx, by rw [wr_ne (by omega)]; exact m1, by rw [wr_ne (by omega)]; exact m2, m4, fun i' j' hi' hj' => ?_⟩, rfl⟩
      rw [ff_pt hi hj, wr_g]
      by_cases q : i' = bi * r + i ∧ j' = bj * w + j
      · rw [if_pos q, if_pos ⟨rfl, by rw [q.1, q.2]⟩]
        exact ⟨md_lt (by omega), rfl⟩
      · rw [if_neg q, if_neg (by omega)]
        exact m6 i' j' hi' hj') w FU 0 D (by omega) (FU_lt (by omega)) ⟨fun _ _ => rfl, hM⟩
  rw [blk_w] at g1
  exact ⟨D', g2, g1.1, g1.2⟩
theorem addB_ok {D : Mem} {p r w h bi bj : Nat} {a b : Int} {T : Nat → Nat → Nat → Nat} {K : Kt} (hP : DP D p r w T) (hM : MD D p h (ff r w K)) (ha : -7 ≤ a ∧ a ≤ 7) (hb : -7 ≤ b ∧ b ≤ 7) (h1 : bi * r + r ≤ h) (h2 : bj * w + w ≤ 20) : ∃ D', Mo_adds (nI bi) (nI bj) (Int32.ofInt a) (Int32.ofInt b) D = some D' ∧ (∀ x, x ≠ 38 → D' x = D x) ∧ MD D' p h (ff r w (bk K bi bj r w (va2 p K bi bj T a b))) := by
  have hr := hP.2.1
  unfold Mo_adds
  obtain ⟨D', g1, g2⟩ := lp (fun m i M' => Mo_adds_L3 m (nI bi) (nI bj) (Int32.ofInt a) (Int32.ofInt b) (nI i) M') (fun M' => some M') r (fun i M' => (∀ x, x ≠ 38 → M' x = D x) ∧ MD M' p h (ff r w (blk K bi bj r w (va2 p K bi bj T a b) i 0))) (fun m M' h' => by
      show Mo_adds_L3 (m + 1) (nI bi) (nI bj) (Int32.ofInt a) (Int32.ofInt b) (nI r) M' = _
      have q : DP M' p r w T := hP.mv (h'.1 33 (by omega)) (by rw [h'.1 32 (by omega)])
      rw [Mo_adds_L3, q.rows, bd_s, if_pos (Int32.le_refl _)]) (fun m i M' hi h' => by
      show ∃ M1, _ ∧ Mo_adds_L3 (m + 1) (nI bi) (nI bj) (Int32.ofInt a) (Int32.ofInt b) (nI i) M' = Mo_adds_L3 m (nI bi) (nI bj) (Int32.ofInt a) (Int32.ofInt b) (nI (i + 1)) M1
      have q : DP M' p r w T := hP.mv (h'.1 33 (by omega)) (by rw [h'.1 32 (by omega)])
      obtain ⟨C2, x1, x2, x3⟩ := addB_row (k3 := Mo_adds_L3 m) q h'.2 ha hb h1 h2 hi
      rw [Mo_adds_L3, q.rows, bd_s, if_neg (nI_ge hi (by omega)), x1]
      exact ⟨C2, ⟨fun x hx => by rw [x2 x hx, h'.1 x hx], x3⟩, rfl⟩) r FU 0 D (by omega) (FU_lt (by omega)) ⟨fun _ _ => rfl, by rw [blk_0]; exact hM⟩
  rw [blk_r] at g1
  exact ⟨D', g2, g1.1, g1.2⟩
/-- adding to a block of nothing is putting it -/
theorem bk_zero {p r w bi bj : Nat} {a b : Int} {T : Nat → Nat → Nat → Nat} {K : Kt} (h : ∀ x y, K bi bj x y = 0) : bk K bi bj r w (va2 p K bi bj T a b) = bk K bi bj r w (vl2 p T a b) := by
  funext x1 x2 x y
  unfold bk va2 vl2
  rw [h x y]
  simp
