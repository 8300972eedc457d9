/-! PURE: read, the reference's four -/
theorem L77_ok {k62 : Int32 → Int32 → Int32 → Int32 → Int32 → Int32 → Int32 → Mem → Option (Int32 × Mem)} {D : Mem} {s e : Nat} {sh : Option (Nat × Nat)} {ln0 pos v4 v6 : Int32} (hs : s < 4) (he : e ≤ 10) (h : SD D s sh) (hl : ∃ a, a < 3 ∧ ln0 = nI a) : Mo_read_L77 k62 FU (nI s) ln0 pos v4 0 v6 (nI e) 0 D = Mo_read_b164 k62 (nI s) ln0 pos v4 (cdF sh ln0 pos e) v6 (nI e) D := by
  have i4 : ib (nI s) 4 = true := ibn hs (by omega)
  have e4 : (4 * nI e).toInt = 4 * (e : Int) := by
    rw [show (4 : Int32) = nI 4 from rfl, nIm, nI_t (by omega)]; omega
  obtain ⟨m0, hm0⟩ : ∃ m, FU = m + 6 := ⟨FU - 6, by have : (6 : Nat) < FU := FU_lt (by omega); omega⟩
  rw [hm0]
  cases sh with
  | none =>
    have h' : D 46 s = -4 := h
    rw [Mo_read_L77, if_neg (by decide), if_pos rfl, if_pos i4, ixn (by omega), h', if_pos rfl, Mo_read_b156, L77_stop (by decide)]
    rfl
  | some an =>
    obtain ⟨a, n⟩ := an
    obtain ⟨h1, h2, h3, h4⟩ := (show a < 3 ∧ n ≤ 40 ∧ D 46 s = nI a ∧ D 47 s = nI n from h)
    show _ = Mo_read_b164 k62 (nI s) ln0 pos v4 (if ln0 = nI a then (if 0 ≤ pos.toInt + 4 * e ∧ pos.toInt + 4 * e + 4 ≤ n then 0 else 2) else 3) v6 (nI e) D
    by_cases q : ln0 = nI a
    · subst q
      rw [if_pos rfl]
      -- one of the four
      have st : ∀ (m i : Nat), i < 4 → Mo_read_L77 k62 (m + 2) (nI s) (nI a) pos v4 0 v6 (nI e) (nI i) D = if 0 ≤ pos.toInt + 4 * e + i ∧ pos.toInt + 4 * e + i < n then Mo_read_L77 k62 (m + 1) (nI s) (nI a) pos v4 0 v6 (nI e) (nI (i + 1)) D else Mo_read_b164 k62 (nI s) (nI a) pos v4 2 v6 (nI e) D := fun m i hi => by
        have c0 := cmp0 pos (4 * nI e) (nI i)
        have cn := cmpn pos (4 * nI e) (nI i) (nI n)
        rw [e4, nI_t (by omega)] at c0 cn
        rw [nI_t (n := n) (by omega)] at cn
        rw [Mo_read_L77, if_neg (show ¬ (4 : Int32) ≤ nI i from nI_ge (b := 4) hi (by omega)), if_pos rfl, if_pos i4, if_pos i4, if_pos i4, ixn (by omega), h3, if_neg (lane_ne h1), if_pos rfl, h4, Mo_read_b151, Mo_read_b156, Mo_read_b156, nI_1, L77_stop (by decide)]
        by_cases z1 : pos.toInt + 4 * e + i < 0
        · rw [if_pos (c0.mpr z1), if_neg (by omega)]
        · rw [if_neg (fun g => z1 (c0.mp g))]
          by_cases z2 : pos.toInt + 4 * e + i < n
          · rw [if_pos (cn.mpr z2), if_pos (by omega)]
          · rw [if_neg (fun g => z2 (cn.mp g)), if_neg (by omega)]
      have en : ∀ m, Mo_read_L77 k62 (m + 1) (nI s) (nI a) pos v4 0 v6 (nI e) (nI 4) D = Mo_read_b164 k62 (nI s) (nI a) pos v4 0 v6 (nI e) D := fun m => by
        rw [Mo_read_L77, if_pos (show (4 : Int32) ≤ nI 4 by decide)]
      have s0 := st (m0 + 4) 0 (by omega)
      have s1 := st (m0 + 3) 1 (by omega)
      have s2 := st (m0 + 2) 2 (by omega)
      have s3 := st (m0 + 1) 3 (by omega)
      have s4 := en (m0 + 1)
      have s0' : Mo_read_L77 k62 (m0 + 6) (nI s) (nI a) pos v4 0 v6 (nI e) 0 D = _ := s0
      rw [s0']
      by_cases z : 0 ≤ pos.toInt + 4 * e ∧ pos.toInt + 4 * e + 4 ≤ n
      · rw [if_pos z, if_pos (by omega), s1, if_pos (by omega), s2, if_pos (by omega), s3, if_pos (by omega), s4]
      · rw [if_neg z]
        by_cases z0 : 0 ≤ pos.toInt + 4 * e + (0 : Nat) ∧ pos.toInt + 4 * e + (0 : Nat) < n
        · rw [if_pos z0, s1]
          by_cases z1 : 0 ≤ pos.toInt + 4 * e + (1 : Nat) ∧ pos.toInt + 4 * e + (1 : Nat) < n
          · rw [if_pos z1, s2]
            by_cases z2 : 0 ≤ pos.toInt + 4 * e + (2 : Nat) ∧ pos.toInt + 4 * e + (2 : Nat) < n
            · rw [if_pos z2, s3, if_neg (by omega)]
            · rw [if_neg z2]
          · rw [if_neg z1]
        · rw [if_neg z0]
    · rw [if_neg q, Mo_read_L77, if_neg (by decide), if_pos rfl, if_pos i4, if_pos i4, ixn (by omega), h3, if_neg (lane_ne h1), if_neg (fun g => q g.symm), Mo_read_b156, L77_stop (by decide)]
