/-! PURE: read, one entry set on both sides -/
theorem Okv.get {p r w : Nat} {q : Nat → Int32} (hp : pr p) (hr : r ≤ 4) (hw : w ≤ 4) (h : Okv p r w q) : ∃ t i j v, t < 2 ∧ i < r ∧ j < w ∧ v < p ∧ q 0 = nI t ∧ q 1 = nI i ∧ q 2 = nI j ∧ q 3 = nI v := by
  have h7 := pr_le hp
  obtain ⟨⟨a1, a2, a3, a4, a5, a6⟩, a7, a8⟩ := h
  obtain ⟨t, ht, e0⟩ := ran (n := 2) (by omega) a1 a2
  obtain ⟨i, hi, e1⟩ := ran (n := r) (by omega) a3 a4
  obtain ⟨j, hj, e2⟩ := ran (n := w) (by omega) a5 a6
  obtain ⟨v, hv, e3⟩ := ran (n := p) (by omega) a7 a8
  exact ⟨t, i, j, v, ht, hi, hj, hv, e0, e1, e2, e3⟩
theorem setC {C : Mem} {s n z r w t i j v : Nat} (hs : s < 4) (hn : n ≤ 40) (h : C (14 + 2 * s) 2 = nI n) (hz : z + 4 ≤ n) (e2 : C 5 2 = nI r) (e3 : C 5 3 = nI w) (hr : r ≤ 4) (hw : w ≤ 4) (ht : t < 2) (hi : i < r) (hj : j < w) (q0 : C (15 + 2 * s) z = nI t) (q1 : C (15 + 2 * s) (z + 1) = nI i) (q2 : C (15 + 2 * s) (z + 2) = nI j) (q3 : C (15 + 2 * s) (z + 3) = nI v) : Pf_setFrom (14 + 2 * s) (nI z) C = some (wr C 6 (16 * t + 4 * i + j) (nI v)) := by
  obtain ⟨r1, r2, r3, r4⟩ := rfn13 s hs
  unfold Pf_setFrom
  rw [if_pos r2, cellAt_in hs hn h (by omega), bd_s, show nI z + 1 = nI (z + 1) from nIa z 1, cellAt_in hs hn h (by omega), bd_s, show nI z + 2 = nI (z + 2) from nIa z 2, cellAt_in hs hn h (by omega), bd_s, show nI z + 3 = nI (z + 3) from nIa z 3, cellAt_in hs hn h (by omega), bd_s, q0, q1, q2, q3, putValue_in isP5 e2 e3 hr hw ht hi hj, bv_s]
theorem P2.set {C D : Mem} {p r w t i j v : Nat} (h : P2 C D) (e1 : C 5 1 = nI p) (e2 : C 5 2 = nI r) (e3 : C 5 3 = nI w) (hp : pr p) (hr : r ≤ 4) (hw : w ≤ 4) (ht : t < 2) (hi : i < r) (hj : j < w) (hv : v < p) : P2 (wr C 6 (16 * t + 4 * i + j) (nI v)) (wr D 33 (3 + (16 * t + 4 * i + j)) (nI v)) := by
  have h7 := pr_le hp
  obtain ⟨p', r', w', hp', hr', hw', f1, f2, f3, s0, s1, s2, hvv, hzz⟩ := id h
  have h7' := pr_le hp'
  have ep : p' = p := (nI_eq (by omega) (by omega)).mp (f1.symm.trans e1)
  have er : r' = r := (nI_eq (by omega) (by omega)).mp (f2.symm.trans e2)
  have ew : w' = w := (nI_eq (by omega) (by omega)).mp (f3.symm.trans e3)
  subst ep; subst er; subst ew
  refine ⟨p', r', w', hp, hr, hw, by rw [wr_ne (by omega)]; exact e1, by rw [wr_ne (by omega)]; exact e2, by rw [wr_ne (by omega)]; exact e3, by rw [wr_o (by omega)]; exact s0, by rw [wr_o (by omega)]; exact s1, by rw [wr_o (by omega)]; exact s2, fun t' i' j' a1 a2 a3 => ?_, fun t' i' j' a1 a2 a3 a4 => ?_⟩
  · by_cases q : 16 * t' + 4 * i' + j' = 16 * t + 4 * i + j
    · rw [q]
      exact ⟨v, hv, by rw [wr_s], by rw [wr_s]⟩
    · obtain ⟨x, x1, x2, x3⟩ := hvv t' i' j' a1 a2 a3
      exact ⟨x, x1, by rw [wr_o q]; exact x2, by rw [wr_o (by omega)]; exact x3⟩
  · have q : 16 * t' + 4 * i' + j' ≠ 16 * t + 4 * i + j := fun q => by
      obtain ⟨_, b2, b3⟩ := pos_inj a2 a3 (by omega) (by omega) q
      omega
    rw [wr_o q]; exact hzz t' i' j' a1 a2 a3 a4
