/-! PURE: feed, end, fault, torn -/
theorem op_fault : Op_fault Rel := fun M hR => ⟨M 0 8, M, M, rfl, by show some (M 32 12, M) = _; rw [hR.2.2.2.2.1], hR⟩
theorem op_torn : Op_torn Rel := fun M hR => ⟨M 0 9, M, M, rfl, by show some (M 32 28, M) = _; rw [hR.2.2.2.2.2.1], hR⟩
theorem i8n : ∀ c, c < 128 → (nI c).toInt8.toInt32 = nI c := by decide +kernel
theorem op_feed : Op_feed Rel := by
  intro M a hR
  obtain ⟨⟨k, hk, e1, e2, hb⟩, hP, hI, hS, hF⟩ := id hR
  by_cases h0 : a < 0
  · have hn : ¬ (0 ≤ a ∧ a ≤ 127) := fun h => Int32.not_le.mpr h0 h.1
    exact ⟨-1, M, M, by simp [Pf_feed, h0], by simp [Mo_feed, in_0_127, bd_s, hn], hR⟩
  by_cases h1 : a ≤ 127
  · obtain ⟨c, hc, rfl⟩ := ranl (n := 127) (by omega) (Int32.not_lt.mp h0) h1
    have hi : (0 ≤ nI c ∧ nI c ≤ 127) := ⟨Int32.not_lt.mp h0, h1⟩
    have hc8 := i8n c (by omega)
    by_cases hk2 : k = 160
    · subst hk2
      have q : ¬ (nI 160 < (160 : Int32)) := by decide
      have q2 : nI 160 = (160 : Int32) := rfl
      exact ⟨-3, M, M, by simp [Pf_feed, h0, h1, Tr_addByte, e1, q, bd_s], by simp [Mo_feed, in_0_127, bd_s, hi, e2, q2], hR⟩
    · have q : nI k < (160 : Int32) := nI_lt (b := 160) (by omega) (by omega)
      have q2 : ¬ nI k = (160 : Int32) := fun h => hk2 ((nI_eq (by omega) (by omega)).mp (show nI k = nI 160 from h))
      have q3 : ib (nI k) 160 = true := ibn (by omega) (by omega)
      have q4 : ix (nI k) = k := ixn (by omega)
      refine ⟨nI (k + 1), wr (wr M 2 k (nI c)) 1 2 (nI (k + 1)), wr (wr (wr (wr M 2 k (nI c)) 1 2 (nI (k + 1))) 37 k (nI c)) 32 7 (nI (k + 1)), ?_, ?_, ?_⟩
      · simp [Pf_feed, h0, h1, Tr_addByte, e1, q, q3, q4, hc8, bd_s, wr_g, nI_succ]
      · simp [Mo_feed, in_0_127, bd_s, hi, wr_g, e2, q2, q3, q4, nI_succ]
      · refine ⟨⟨k + 1, by omega, by simp [wr_g], by simp [wr_g], ?_⟩, hP.mv (by simp [wr_ne]) (by simp [wr_ne]) (by simp [wr_ne]), hI.mv (by simp [wr_ne]) (by simp [wr_ne]) (by simp [wr_ne]) (by simp [wr_ne]) (by simp [wr_ne]) (by simp [wr_ne]) (by simp [wr_ne]), hS.mv (fun c h1 h2 => by rw [wr_ne (by omega), wr_ne (by omega), wr_ne (by omega), wr_ne (by omega)]) (by simp [wr_ne]) (by simp [wr_ne]) (by simp [wr_ne]), hF.mv (by simp [wr_ne]) (by simp [wr_g]) (by simp [wr_g]) (by simp [wr_g])⟩
        intro j hj
        by_cases hjk : j = k
        · exact ⟨c, by omega, by simp [wr_g, hjk], by simp [wr_g, hjk]⟩
        · obtain ⟨b, g1, g2, g3⟩ := hb j (by omega)
          exact ⟨b, g1, by simp [wr_g, hjk, g2], by simp [wr_g, hjk, g3]⟩
  · have hn : ¬ (0 ≤ a ∧ a ≤ 127) := fun h => h1 h.2
    exact ⟨-1, M, M, by simp [Pf_feed, h0, h1], by simp [Mo_feed, in_0_127, bd_s, hn], hR⟩
theorem op_end : Op_end Rel := by
  intro M a hR
  obtain ⟨⟨k, hk, e1, e2, hb⟩, hP, hI, hS, hF⟩ := id hR
  by_cases h0 : a < 0
  · have hn : ¬ (0 ≤ a ∧ a ≤ nI k) := fun h => Int32.not_le.mpr h0 h.1
    exact ⟨-1, M, M, by simp [Pf_end, h0], by simp [Mo_end, in_0c, e2, bd_s, hn], hR⟩
  by_cases h1 : a ≤ nI k
  · obtain ⟨c, hc, rfl⟩ := ranl (n := k) (by omega) (Int32.not_lt.mp h0) h1
    have hi : (0 ≤ nI c ∧ nI c ≤ nI k) := ⟨Int32.not_lt.mp h0, h1⟩
    refine ⟨nI k, wr M 1 2 (nI c), wr (wr M 1 2 (nI c)) 32 7 (nI c), ?_, ?_, ?_⟩
    · simp [Pf_end, h0, h1, e1]
    · simp [Mo_end, in_0c, bd_s, hi, wr_g, e2]
    · refine ⟨⟨c, by omega, by simp [wr_g], by simp [wr_g], fun j hj => ?_⟩, hP.mv (by simp [wr_ne]) (by simp [wr_ne]) (by simp [wr_ne]), hI.mv (by simp [wr_ne]) (by simp [wr_ne]) (by simp [wr_ne]) (by simp [wr_ne]) (by simp [wr_ne]) (by simp [wr_ne]) (by simp [wr_ne]), hS.mv (fun c h1 h2 => by rw [wr_ne (by omega), wr_ne (by omega)]) (by simp [wr_ne]) (by simp [wr_ne]) (by simp [wr_ne]), hF.mv (by simp [wr_ne]) (by simp [wr_g]) (by simp [wr_g]) (by simp [wr_g])⟩
      obtain ⟨b, g1, g2, g3⟩ := hb j (by omega)
      exact ⟨b, g1, by simp [wr_g, g2], by simp [wr_g, g3]⟩
  · have hn : ¬ (0 ≤ a ∧ a ≤ nI k) := fun h => h1 h.2
    exact ⟨-1, M, M, by simp [Pf_end, h0, h1, e1], by simp [Mo_end, in_0c, bd_s, hn, e2], hR⟩
