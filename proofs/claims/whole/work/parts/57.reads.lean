/-! PURE: read, one entry -/
def Okv (p r w : Nat) (q : Nat → Int32) : Prop := (0 ≤ q 0 ∧ q 0 < 2 ∧ 0 ≤ q 1 ∧ q 1 < nI r ∧ 0 ≤ q 2 ∧ q 2 < nI w) ∧ 0 ≤ q 3 ∧ q 3 < nI p
theorem cellAt_in {C : Mem} {s n z : Nat} (hs : s < 4) (hn : n ≤ 40) (h : C (14 + 2 * s) 2 = nI n) (hz : z < n) : Se_cellAt (14 + 2 * s) (nI z) C = some (C (15 + 2 * s) z, C) := by
  obtain ⟨r1, r2, r3, r4⟩ := rfn13 s hs
  unfold Se_cellAt
  rw [if_pos r2, findAt_some r2 h hn, if_pos ⟨nI_pos' (by omega), nI_lt hz (by omega)⟩, bd_s, if_pos rfl, if_pos (ibn (by omega) (by omega)), ixn (by omega), show 14 + 2 * s + 1 = 15 + 2 * s by omega]
theorem mayC {C : Mem} {s n z p r w : Nat} (hs : s < 4) (hn : n ≤ 40) (h : C (14 + 2 * s) 2 = nI n) (hz : z + 4 ≤ n) (e1 : C 5 1 = nI p) (e2 : C 5 2 = nI r) (e3 : C 5 3 = nI w) : ∃ v, Pf_maySetFrom (14 + 2 * s) (nI z) C = some (v, C) ∧ ((v = 1 ∧ Okv p r w (fun i => C (15 + 2 * s) (z + i))) ∨ (v = 0 ∧ ¬ Okv p r w (fun i => C (15 + 2 * s) (z + i)))) := by
  obtain ⟨r1, r2, r3, r4⟩ := rfn13 s hs
  unfold Pf_maySetFrom
  rw [if_pos r2, cellAt_in hs hn h (by omega), bd_s, show nI z + 1 = nI (z + 1) from nIa z 1, cellAt_in hs hn h (by omega), bd_s, show nI z + 2 = nI (z + 2) from nIa z 2, cellAt_in hs hn h (by omega), bd_s, show nI z + 3 = nI (z + 3) from nIa z 3, cellAt_in hs hn h (by omega), bd_s]
  unfold Pf_maySet
  rw [hasPlace_ok isP5 e2 e3, bd_s]
  unfold Okv
  by_cases q : 0 ≤ C (15 + 2 * s) z ∧ C (15 + 2 * s) z < 2 ∧ 0 ≤ C (15 + 2 * s) (z + 1) ∧ C (15 + 2 * s) (z + 1) < nI r ∧ 0 ≤ C (15 + 2 * s) (z + 2) ∧ C (15 + 2 * s) (z + 2) < nI w
  · rw [if_pos q, if_neg (by decide), e1]
    by_cases q1 : 0 ≤ C (15 + 2 * s) (z + 3)
    · rw [if_neg (Int32.not_lt.mpr q1)]
      by_cases q2 : C (15 + 2 * s) (z + 3) < nI p
      · rw [if_neg (Int32.not_le.mpr q2), bd_s, if_pos z01_1]
        exact ⟨1, rfl, .inl ⟨rfl, q, q1, q2⟩⟩
      · rw [if_pos (Int32.not_lt.mp q2), bd_s, if_pos z01_0]
        exact ⟨0, rfl, .inr ⟨rfl, fun g => q2 g.2.2⟩⟩
    · rw [if_pos (Int32.not_le.mp q1), bd_s, if_pos z01_0]
      exact ⟨0, rfl, .inr ⟨rfl, fun g => q1 g.2.1⟩⟩
  · rw [if_neg q, if_pos rfl, bd_s, if_pos z01_0]
    exact ⟨0, rfl, .inr ⟨rfl, fun g => q g.1⟩⟩
