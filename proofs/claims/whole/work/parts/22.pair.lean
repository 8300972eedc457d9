/-! PURE: places of the tables: cell, set, cut (shape), open -/
theorem hasPlace_ok {c r w : Nat} {M : Mem} (hc : isP c = true) (h2 : M c 2 = nI r) (h3 : M c 3 = nI w) (a b d : Int32) : Pa_hasPlace c a b d M = some (if 0 ≤ a ∧ a < 2 ∧ 0 ≤ b ∧ b < nI r ∧ 0 ≤ d ∧ d < nI w then 1 else 0, M) := by
  unfold Pa_hasPlace
  rw [if_pos hc, h2, h3]
  by_cases q1 : a < 0
  · rw [if_pos q1, if_neg (fun h => Int32.not_le.mpr q1 h.1)]
  rw [if_neg q1]
  by_cases q2 : 2 ≤ a
  · rw [if_pos q2, if_neg (fun h => Int32.not_le.mpr h.2.1 q2)]
  rw [if_neg q2]
  by_cases q3 : b < 0
  · rw [if_pos q3, if_neg (fun h => Int32.not_le.mpr q3 h.2.2.1)]
  rw [if_neg q3]
  by_cases q4 : nI r ≤ b
  · rw [if_pos q4, if_neg (fun h => Int32.not_le.mpr h.2.2.2.1 q4)]
  rw [if_neg q4]
  by_cases q5 : d < 0
  · rw [if_pos q5, if_neg (fun h => Int32.not_le.mpr q5 h.2.2.2.2.1)]
  rw [if_neg q5]
  by_cases q6 : nI w ≤ d
  · rw [if_pos q6, if_neg (fun h => Int32.not_le.mpr h.2.2.2.2.2 q6)]
  rw [if_neg q6, if_pos ⟨Int32.not_lt.mp q1, Int32.not_le.mp q2, Int32.not_lt.mp q3, Int32.not_le.mp q4, Int32.not_lt.mp q5, Int32.not_le.mp q6⟩]
theorem plc {t i j r w : Nat} (hr : r ≤ 4) (hw : w ≤ 4) (ht : t < 2) (hi : i < r) (hj : j < w) : 0 ≤ nI t ∧ nI t < 2 ∧ 0 ≤ nI i ∧ nI i < nI r ∧ 0 ≤ nI j ∧ nI j < nI w :=
  ⟨nI_pos' (by omega), nI_lt (b := 2) ht (by omega), nI_pos' (by omega), nI_lt hi (by omega), nI_pos' (by omega), nI_lt hj (by omega)⟩
theorem spt (t i j : Nat) : nI t * 16 + nI i * 4 + nI j = nI (16 * t + 4 * i + j) := by
  rw [show (16 : Int32) = nI 16 from rfl, show (4 : Int32) = nI 4 from rfl, nIm, nIm, nIa, nIa, Nat.mul_comm t 16, Nat.mul_comm i 4]
theorem spm (t i j : Nat) : 3 + 16 * nI t + 4 * nI i + nI j = nI (3 + (16 * t + 4 * i + j)) := by
  rw [show (16 : Int32) = nI 16 from rfl, show (4 : Int32) = nI 4 from rfl, show (3 : Int32) = nI 3 from rfl, nIm, nIm, nIa, nIa, nIa]
  congr 1
  omega
theorem valueAt_in {c r w t i j : Nat} {M : Mem} (hc : isP c = true) (h2 : M c 2 = nI r) (h3 : M c 3 = nI w) (hr : r ≤ 4) (hw : w ≤ 4) (ht : t < 2) (hi : i < r) (hj : j < w) : Pa_valueAt c (nI t) (nI i) (nI j) M = some (M (c + 1) (16 * t + 4 * i + j), M) := by
  unfold Pa_valueAt
  rw [if_pos hc, hasPlace_ok hc h2 h3, if_pos (plc hr hw ht hi hj), bd_s, if_neg (by decide)]
  unfold Pa_spot
  rw [bd_s, spt, if_pos (ibn (by omega) (by omega)), ixn (by omega)]
theorem valueAt_out {c r w : Nat} {a b d : Int32} {M : Mem} (hc : isP c = true) (h2 : M c 2 = nI r) (h3 : M c 3 = nI w) (h : ¬ (0 ≤ a ∧ a < 2 ∧ 0 ≤ b ∧ b < nI r ∧ 0 ≤ d ∧ d < nI w)) : Pa_valueAt c a b d M = some (0, M) := by
  unfold Pa_valueAt
  rw [if_pos hc, hasPlace_ok hc h2 h3, if_neg h, bd_s, if_pos rfl]
theorem putValue_in {c r w t i j : Nat} {M : Mem} {v : Int32} (hc : isP c = true) (h2 : M c 2 = nI r) (h3 : M c 3 = nI w) (hr : r ≤ 4) (hw : w ≤ 4) (ht : t < 2) (hi : i < r) (hj : j < w) : Pa_putValue c (nI t) (nI i) (nI j) v M = some (wr M (c + 1) (16 * t + 4 * i + j) v) := by
  unfold Pa_putValue
  rw [if_pos hc, hasPlace_ok hc h2 h3, if_pos (plc hr hw ht hi hj), bd_s, if_neg (by decide)]
  unfold Pa_spot
  rw [bd_s, spt, if_pos (ibn (by omega) (by omega)), ixn (by omega)]
theorem putValue_out {c r w : Nat} {a b d v : Int32} {M : Mem} (hc : isP c = true) (h2 : M c 2 = nI r) (h3 : M c 3 = nI w) (h : ¬ (0 ≤ a ∧ a < 2 ∧ 0 ≤ b ∧ b < nI r ∧ 0 ≤ d ∧ d < nI w)) : Pa_putValue c a b d v M = some M := by
  unfold Pa_putValue
  rw [if_pos hc, hasPlace_ok hc h2 h3, if_neg h, bd_s, if_pos rfl]
theorem of_in {t i j : Nat} {M : Mem} (ht : t < 2) (hi : i < 4) (hj : j < 4) : Mo_of (nI t) (nI i) (nI j) M = some (M 33 (3 + (16 * t + 4 * i + j)), M) := by
  unfold Mo_of
  rw [spm, if_pos (ibn (by omega) (by omega)), ixn (by omega)]
theorem becomes_in {t i j : Nat} {M : Mem} {v : Int32} (ht : t < 2) (hi : i < 4) (hj : j < 4) : Mo_becomes (nI t) (nI i) (nI j) v M = some (wr M 33 (3 + (16 * t + 4 * i + j)) v) := by
  unfold Mo_becomes
  rw [spm, if_pos (ibn (by omega) (by omega)), ixn (by omega)]
theorem isTable_ok (a : Int32) (M : Mem) : Mo_isTable a M = some (if 0 ≤ a ∧ a < 2 then 1 else 0, M) := by
  unfold Mo_isTable
  rw [in_0_1, bd_s]
  have e : (0 ≤ a ∧ a ≤ 1) ↔ (0 ≤ a ∧ a < 2) := by
    rw [show (1 : Int32) = nI 2 - 1 from rfl, le_p1 (by omega), show (2 : Int32) = nI 2 from rfl]
  by_cases h : 0 ≤ a ∧ a < 2
  · rw [if_pos (e.mpr h), if_pos h, if_pos (show z01 1 = true from rfl)]
  · rw [if_neg (mt e.mp h), if_neg h, if_pos (show z01 0 = true from rfl)]
theorem in_0p {r : Nat} (h : r ≤ 100000) (a : Int32) (M : Mem) : Mo_in a.toInt64 0 ((nI r - 1).toInt64) M = some (if 0 ≤ a ∧ a < nI r then 1 else 0, M) := by
  rw [in_0c]
  by_cases q : 0 ≤ a ∧ a < nI r
  · rw [if_pos q, if_pos ⟨q.1, (le_p1 h).mpr q.2⟩]
  · rw [if_neg q, if_neg (fun g => q ⟨g.1, (le_p1 h).mp g.2⟩)]
theorem in_1p {r : Nat} (h : r ≤ 100000) (a : Int32) (M : Mem) : Mo_in a.toInt64 1 ((nI r - 1).toInt64) M = some (if 1 ≤ a ∧ a < nI r then 1 else 0, M) := by
  rw [in_1c]
  by_cases q : 1 ≤ a ∧ a < nI r
  · rw [if_pos q, if_pos ⟨q.1, (le_p1 h).mpr q.2⟩]
  · rw [if_neg q, if_neg (fun g => q ⟨g.1, (le_p1 h).mp g.2⟩)]
theorem isPlace_ok {r w : Nat} {M : Mem} (h1 : M 33 1 = nI r) (h2 : M 33 2 = nI w) (hr : r ≤ 4) (hw : w ≤ 4) (b d : Int32) : Mo_isPlace b d M = some (if 0 ≤ b ∧ b < nI r ∧ 0 ≤ d ∧ d < nI w then 1 else 0, M) := by
  unfold Mo_isPlace
  rw [h1, in_0p (by omega), bd_s]
  by_cases q1 : 0 ≤ b ∧ b < nI r
  · rw [if_pos q1, if_neg (by decide), h2, in_0p (by omega), bd_s]
    by_cases q2 : 0 ≤ d ∧ d < nI w
    · rw [if_pos q2, if_neg (by decide), if_pos ⟨q1.1, q1.2, q2.1, q2.2⟩]
    · rw [if_neg q2, if_pos rfl, if_neg (fun h => q2 ⟨h.2.2.1, h.2.2.2⟩)]
  · rw [if_neg q1, if_pos rfl, if_neg (fun h => q1 ⟨h.1, h.2.1⟩)]
/-- a place, by numbers -/
theorem plc_of {a b d : Int32} {r w : Nat} (hr : r ≤ 4) (hw : w ≤ 4) (h : 0 ≤ a ∧ a < 2 ∧ 0 ≤ b ∧ b < nI r ∧ 0 ≤ d ∧ d < nI w) : ∃ t i j, t < 2 ∧ i < r ∧ j < w ∧ a = nI t ∧ b = nI i ∧ d = nI j := by
  obtain ⟨t, ht, e1⟩ := ran (n := 2) (by omega) h.1 h.2.1
  obtain ⟨i, hi, e2⟩ := ran (n := r) (by omega) h.2.2.1 h.2.2.2.1
  obtain ⟨j, hj, e3⟩ := ran (n := w) (by omega) h.2.2.2.2.1 h.2.2.2.2.2
  exact ⟨t, i, j, ht, hi, hj, e1, e2, e3⟩
/-- what else there is stays: only the pair and the reference's tables have changed -/
theorem Rel.pair {M M' : Mem} (h : Rel M) (hc : ∀ c, c ≠ 5 → c ≠ 6 → c ≠ 33 → c < 22 ∨ 32 ≤ c → c ≠ 43 → c ≠ 49 → c ≠ 32 → M' c = M c) (h32 : M' 32 = M 32) (hp : PRel (M' 5) (M' 6) (M' 33)) : Rel M' := by
  obtain ⟨hT, -, hI, hS, hF⟩ := h
  have g : ∀ c, c ≠ 5 → c ≠ 6 → c ≠ 33 → c < 22 ∨ 32 ≤ c → c ≠ 43 → c ≠ 49 → M' c = M c := fun c a1 a2 a3 a4 a5 a6 => by
    by_cases q : c = 32
    · subst q; exact h32
    · exact hc c a1 a2 a3 a4 a5 a6 q
  exact ⟨hT.mv (by rw [g 1 (by omega) (by omega) (by omega) (by omega) (by omega) (by omega)]) (g 2 (by omega) (by omega) (by omega) (by omega) (by omega) (by omega)) (by rw [h32]) (g 37 (by omega) (by omega) (by omega) (by omega) (by omega) (by omega)), hp,
    hI.mv (g 12 (by omega) (by omega) (by omega) (by omega) (by omega) (by omega)) (g 35 (by omega) (by omega) (by omega) (by omega) (by omega) (by omega)) (g 8 (by omega) (by omega) (by omega) (by omega) (by omega) (by omega)) (g 9 (by omega) (by omega) (by omega) (by omega) (by omega) (by omega)) (g 10 (by omega) (by omega) (by omega) (by omega) (by omega) (by omega)) (g 11 (by omega) (by omega) (by omega) (by omega) (by omega) (by omega)) (g 34 (by omega) (by omega) (by omega) (by omega) (by omega) (by omega)),
    hS.mv (fun c h1 h2 => g c (by omega) (by omega) (by omega) (by omega) (by omega) (by omega)) (g 46 (by omega) (by omega) (by omega) (by omega) (by omega) (by omega)) (g 47 (by omega) (by omega) (by omega) (by omega) (by omega) (by omega)) (g 48 (by omega) (by omega) (by omega) (by omega) (by omega) (by omega)),
    hF.mv (g 0 (by omega) (by omega) (by omega) (by omega) (by omega) (by omega)) (by rw [h32]) (by rw [h32]) (by rw [h32])⟩
theorem isP5 : isP 5 = true := rfl
theorem op_cell : Op_cell Rel := by
  intro M a b d hR
  obtain ⟨-, ⟨p, r, w, hp, hr, hw, e1, e2, e3, s0, s1, s2, hv, hz⟩, -⟩ := id hR
  by_cases h : 0 ≤ a ∧ a < 2 ∧ 0 ≤ b ∧ b < nI r ∧ 0 ≤ d ∧ d < nI w
  · obtain ⟨t, i, j, ht, hi, hj, rfl, rfl, rfl⟩ := plc_of hr hw h
    obtain ⟨v, g1, g2, g3⟩ := hv t i j ht hi hj
    refine ⟨nI v, M, M, ?_, ?_, hR⟩
    · unfold Pf_cell
      rw [hasPlace_ok isP5 e2 e3, if_pos h, bd_s, if_neg (by decide), valueAt_in isP5 e2 e3 hr hw ht hi hj, bd_s, g2]
    · unfold Mo_cell
      rw [isTable_ok, if_pos ⟨h.1, h.2.1⟩, bd_s, if_neg (by decide), isPlace_ok s1 s2 hr hw, if_pos h.2.2, bd_s, if_neg (by decide), of_in ht (by omega) (by omega), bd_s, g3]
  · refine ⟨-1, M, M, ?_, ?_, hR⟩
    · unfold Pf_cell
      rw [hasPlace_ok isP5 e2 e3, if_neg h, bd_s, if_pos rfl]
    · unfold Mo_cell
      rw [isTable_ok, bd_s]
      by_cases q : 0 ≤ a ∧ a < 2
      · rw [if_pos q, if_neg (by decide), isPlace_ok s1 s2 hr hw, if_neg (fun g => h ⟨q.1, q.2, g⟩), bd_s, if_pos rfl]
      · rw [if_neg q, if_pos rfl]
theorem maySet_ok {p r w : Nat} {M : Mem} (e1 : M 5 1 = nI p) (e2 : M 5 2 = nI r) (e3 : M 5 3 = nI w) (a b d v : Int32) : Pf_maySet a b d v M = some (if (0 ≤ a ∧ a < 2 ∧ 0 ≤ b ∧ b < nI r ∧ 0 ≤ d ∧ d < nI w) ∧ 0 ≤ v ∧ v < nI p then 1 else 0, M) := by
  unfold Pf_maySet
  rw [hasPlace_ok isP5 e2 e3, bd_s, e1]
  by_cases h : 0 ≤ a ∧ a < 2 ∧ 0 ≤ b ∧ b < nI r ∧ 0 ≤ d ∧ d < nI w
  · rw [if_pos h, if_neg (by decide)]
    by_cases q1 : v < 0
    · rw [if_pos q1, if_neg (fun g => Int32.not_le.mpr q1 g.2.1)]
    · rw [if_neg q1]
      by_cases q2 : nI p ≤ v
      · rw [if_pos q2, if_neg (fun g => Int32.not_le.mpr g.2.2 q2)]
      · rw [if_neg q2, if_pos ⟨h, Int32.not_lt.mp q1, Int32.not_le.mp q2⟩]
  · rw [if_neg h, if_pos rfl, if_neg (fun g => h g.1)]
theorem pr_le {p : Nat} (h : pr p) : 2 ≤ p ∧ p ≤ 7 := by rcases h with rfl | rfl | rfl | rfl <;> omega
/-- set, class and reference, as functions of a memory that holds the tables -/
theorem Pf_set_in {p r w t i j v : Nat} {M : Mem} (e1 : M 5 1 = nI p) (e2 : M 5 2 = nI r) (e3 : M 5 3 = nI w) (hp : pr p) (hr : r ≤ 4) (hw : w ≤ 4) (ht : t < 2) (hi : i < r) (hj : j < w) (hv : v < p) : Pf_set (nI t) (nI i) (nI j) (nI v) M = some (M 6 (16 * t + 4 * i + j), wr M 6 (16 * t + 4 * i + j) (nI v)) := by
  have h7 := pr_le hp
  unfold Pf_set
  rw [maySet_ok e1 e2 e3, if_pos ⟨plc hr hw ht hi hj, nI_pos' (by omega), nI_lt hv (by omega)⟩, bd_s, if_neg (by decide), valueAt_in isP5 e2 e3 hr hw ht hi hj, bd_s, putValue_in isP5 e2 e3 hr hw ht hi hj, bv_s]
theorem Pf_set_out {p r w : Nat} {a b d v : Int32} {M : Mem} (e1 : M 5 1 = nI p) (e2 : M 5 2 = nI r) (e3 : M 5 3 = nI w) (h : ¬ ((0 ≤ a ∧ a < 2 ∧ 0 ≤ b ∧ b < nI r ∧ 0 ≤ d ∧ d < nI w) ∧ 0 ≤ v ∧ v < nI p)) : Pf_set a b d v M = some (-1, M) := by
  unfold Pf_set
  rw [maySet_ok e1 e2 e3, if_neg h, bd_s, if_pos rfl]
theorem Mo_set_in {p r w t i j v : Nat} {M : Mem} (e1 : M 33 0 = nI p) (e2 : M 33 1 = nI r) (e3 : M 33 2 = nI w) (hp : pr p) (hr : r ≤ 4) (hw : w ≤ 4) (ht : t < 2) (hi : i < r) (hj : j < w) (hv : v < p) : Mo_set (nI t) (nI i) (nI j) (nI v) M = some (M 33 (3 + (16 * t + 4 * i + j)), wr M 33 (3 + (16 * t + 4 * i + j)) (nI v)) := by
  have h7 := pr_le hp
  have h := plc hr hw ht hi hj
  unfold Mo_set
  rw [isTable_ok, if_pos ⟨h.1, h.2.1⟩, bd_s, if_neg (by decide), isPlace_ok e2 e3 hr hw, if_pos h.2.2, bd_s, if_neg (by decide), e1, in_0p (by omega), bd_s, if_pos (show 0 ≤ nI v ∧ nI v < nI p from ⟨nI_pos' (by omega), nI_lt hv (by omega)⟩), if_neg (by decide), of_in ht (by omega) (by omega), bd_s, becomes_in ht (by omega) (by omega), bv_s]
theorem Mo_set_out {p r w : Nat} {a b d v : Int32} {M : Mem} (e1 : M 33 0 = nI p) (e2 : M 33 1 = nI r) (e3 : M 33 2 = nI w) (hp : pr p) (hr : r ≤ 4) (hw : w ≤ 4) (h : ¬ ((0 ≤ a ∧ a < 2 ∧ 0 ≤ b ∧ b < nI r ∧ 0 ≤ d ∧ d < nI w) ∧ 0 ≤ v ∧ v < nI p)) : Mo_set a b d v M = some (-1, M) := by
  have h7 := pr_le hp
  unfold Mo_set
  rw [isTable_ok, bd_s]
  by_cases q : 0 ≤ a ∧ a < 2
  · rw [if_pos q, if_neg (by decide), isPlace_ok e2 e3 hr hw, bd_s]
    by_cases q2 : 0 ≤ b ∧ b < nI r ∧ 0 ≤ d ∧ d < nI w
    · rw [if_pos q2, if_neg (by decide), e1, in_0p (by omega), bd_s, if_neg (fun g => h ⟨⟨q.1, q.2, q2⟩, g⟩), if_pos rfl]
    · rw [if_neg q2, if_pos rfl]
  · rw [if_neg q, if_pos rfl]
theorem pos_inj {t i j t' i' j' : Nat} (hi : i < 4) (hj : j < 4) (hi' : i' < 4) (hj' : j' < 4) (h : 16 * t + 4 * i + j = 16 * t' + 4 * i' + j') : t = t' ∧ i = i' ∧ j = j' := by omega
theorem PRel.set {A B S B' S' : Nat → Int32} {p r w t i j v : Nat} (hp : pr p) (hr : r ≤ 4) (hw : w ≤ 4) (e1 : A 1 = nI p) (e2 : A 2 = nI r) (e3 : A 3 = nI w) (s0 : S 0 = nI p) (s1 : S 1 = nI r) (s2 : S 2 = nI w)
    (hv : ∀ t i j, t < 2 → i < r → j < w → ∃ v, v < p ∧ B (16 * t + 4 * i + j) = nI v ∧ S (3 + (16 * t + 4 * i + j)) = nI v) (hz : ∀ t i j, t < 2 → i < 4 → j < 4 → r ≤ i ∨ w ≤ j → B (16 * t + 4 * i + j) = 0)
    (ht : t < 2) (hi : i < r) (hj : j < w) (hvp : v < p) (hB : ∀ k, B' k = if k = 16 * t + 4 * i + j then nI v else B k) (hS : ∀ k, S' k = if k = 3 + (16 * t + 4 * i + j) then nI v else S k) : PRel A B' S' := by
  refine ⟨p, r, w, hp, hr, hw, e1, e2, e3, by rw [hS, if_neg (by omega)]; exact s0, by rw [hS, if_neg (by omega)]; exact s1, by rw [hS, if_neg (by omega)]; exact s2, fun t' i' j' a1 a2 a3 => ?_, fun t' i' j' a1 a2 a3 a4 => ?_⟩
  · by_cases q : 16 * t' + 4 * i' + j' = 16 * t + 4 * i + j
    · exact ⟨v, hvp, by rw [hB, if_pos q], by rw [hS, if_pos (by omega)]⟩
    · obtain ⟨v', g1, g2, g3⟩ := hv t' i' j' a1 a2 a3
      exact ⟨v', g1, by rw [hB, if_neg q]; exact g2, by rw [hS, if_neg (by omega)]; exact g3⟩
  · rw [hB, if_neg (fun q => by have := pos_inj a2 a3 (by omega) (by omega) q; omega)]
    exact hz t' i' j' a1 a2 a3 a4
theorem op_set : Op_set Rel := by
  intro M a b d v hR
  obtain ⟨-, ⟨p, r, w, hp, hr, hw, e1, e2, e3, s0, s1, s2, hv, hz⟩, -⟩ := id hR
  have h7 := pr_le hp
  by_cases h : (0 ≤ a ∧ a < 2 ∧ 0 ≤ b ∧ b < nI r ∧ 0 ≤ d ∧ d < nI w) ∧ 0 ≤ v ∧ v < nI p
  · obtain ⟨t, i, j, ht, hi, hj, rfl, rfl, rfl⟩ := plc_of hr hw h.1
    obtain ⟨u, hu, rfl⟩ := ran (n := p) (by omega) h.2.1 h.2.2
    obtain ⟨x, g1, g2, g3⟩ := hv t i j ht hi hj
    refine ⟨nI x, wr M 6 (16 * t + 4 * i + j) (nI u), wr (wr M 6 (16 * t + 4 * i + j) (nI u)) 33 (3 + (16 * t + 4 * i + j)) (nI u), ?_, ?_, ?_⟩
    · rw [Pf_set_in e1 e2 e3 hp hr hw ht hi hj hu, g2]
    · rw [Mo_set_in (p := p) (r := r) (w := w) (by simp [wr_g, s0]) (by simp [wr_g, s1]) (by simp [wr_g, s2]) hp hr hw ht hi hj hu]
      simp [wr_g, g3]
    · refine hR.pair (fun c a1 a2 a3 _ _ _ _ => by rw [wr_ne a3, wr_ne a2]) (by simp [wr_ne]) ?_
      exact (PRel.set (A := M 5) (B := M 6) (S := M 33) (B' := wr (wr M 6 (16 * t + 4 * i + j) (nI u)) 33 (3 + (16 * t + 4 * i + j)) (nI u) 6) (S' := wr (wr M 6 (16 * t + 4 * i + j) (nI u)) 33 (3 + (16 * t + 4 * i + j)) (nI u) 33) hp hr hw e1 e2 e3 s0 s1 s2 hv hz ht hi hj hu (fun k => by simp [wr_g]) (fun k => by simp [wr_g])).mv (by simp [wr_ne]) rfl rfl
  · refine ⟨-1, M, M, Pf_set_out e1 e2 e3 h, Mo_set_out s0 s1 s2 hp hr hw h, hR⟩
