/-! PURE: sheets: sheet, lay -/
theorem wr_wra {M : Mem} {c i : Nat} {f : Nat → Int32} {v : Int32} : wr (wra M c f) c i v = wra M c (fun b => if b = i then v else f b) := by
  funext a b
  by_cases h : a = c <;> simp [wr_g, wra_g, h]
theorem fill_ok {c n : Nat} {v : Int32} {M : Mem} (hc : isI c = true) (hl : ln c = n) (hn : n ≤ 600) : Ja_fill c v M = some (wra M c (fun k => if k < n then v else M c k)) := by
  unfold Ja_fill
  rw [if_pos hc, hl]
  obtain ⟨M', h1, h2⟩ := lp (fun m i M' => Ja_fill_L5 m c v (nI i) (nI n) M') (fun M' => some M') n (fun i M' => M' = wra M c (fun k => if k < i then v else M c k)) (fun m M' _ => by
      show Ja_fill_L5 (m + 1) c v (nI n) (nI n) M' = _
      rw [Ja_fill_L5, if_pos (Int32.le_refl _)]) (fun m i M' hi e => by
      refine ⟨wra M c (fun k => if k < i + 1 then v else M c k), rfl, ?_⟩
      show Ja_fill_L5 (m + 1) c v (nI i) (nI n) M' = Ja_fill_L5 m c v (nI (i + 1)) (nI n) _
      rw [Ja_fill_L5, if_neg (nI_ge hi (by omega)), hl, if_pos (ibn hi (by omega)), ixn (by omega), e, wr_wra, nI_1]
      congr 2
      funext b
      grind) n FU 0 M (by omega) (FU_lt (by omega)) (by
      funext a b
      by_cases h : a = c <;> simp [wra_g, h])
  have h3 : Ja_fill_L5 FU c v 0 (nI n) M = some M' := h2
  rw [h3, h1]
theorem isSheet_ok (a : Int32) (M : Mem) : Pf_isSheet a M = some (if 0 ≤ a ∧ a < 4 then 1 else 0, M) := by
  unfold Pf_isSheet
  by_cases q1 : a < 0
  · rw [if_pos q1, if_neg (fun h => Int32.not_le.mpr q1 h.1)]
  rw [if_neg q1]
  by_cases q2 : 4 ≤ a
  · rw [if_pos q2, if_neg (fun h => Int32.not_le.mpr h.2 q2)]
  rw [if_neg q2, if_pos ⟨Int32.not_lt.mp q1, Int32.not_le.mp q2⟩]
theorem isLane_ok (a : Int32) (M : Mem) : Pf_isLane a M = some (if 0 ≤ a ∧ a < 3 then 1 else 0, M) := by
  unfold Pf_isLane
  by_cases q1 : a < 0
  · rw [if_pos q1, if_neg (fun h => Int32.not_le.mpr q1 h.1)]
  rw [if_neg q1]
  by_cases q2 : 3 ≤ a
  · rw [if_pos q2, if_neg (fun h => Int32.not_le.mpr h.2 q2)]
  rw [if_neg q2, if_pos ⟨Int32.not_lt.mp q1, Int32.not_le.mp q2⟩]
theorem in_0l {n : Nat} (h : n < 1000) (a : Int32) (M : Mem) : Mo_in a.toInt64 0 ((nI n).toInt64) M = some (if 0 ≤ a ∧ a < nI (n + 1) then 1 else 0, M) := by
  rw [in_0c]
  have e : a ≤ nI n ↔ a < nI (n + 1) := by
    rw [Int32.le_iff_toInt_le, Int32.lt_iff_toInt_lt, nI_toInt (by omega), nI_toInt (by omega)]
    omega
  by_cases q : 0 ≤ a ∧ a < nI (n + 1)
  · rw [if_pos q, if_pos ⟨q.1, e.mpr q.2⟩]
  · rw [if_neg q, if_neg (fun g => q ⟨g.1, e.mp g.2⟩)]
theorem in_3 (a : Int32) (M : Mem) : Mo_in a.toInt64 0 3 M = some (if 0 ≤ a ∧ a < 4 then 1 else 0, M) := in_0l (n := 3) (by omega) a M
theorem in_2 (a : Int32) (M : Mem) : Mo_in a.toInt64 0 2 M = some (if 0 ≤ a ∧ a < 3 then 1 else 0, M) := in_0l (n := 2) (by omega) a M
theorem in_1 (a : Int32) (M : Mem) : Mo_in a.toInt64 0 1 M = some (if 0 ≤ a ∧ a < 2 then 1 else 0, M) := in_0l (n := 1) (by omega) a M
theorem in_4 (a : Int32) (M : Mem) : Mo_in a.toInt64 0 4 M = some (if 0 ≤ a ∧ a < 5 then 1 else 0, M) := in_0l (n := 4) (by omega) a M
theorem mSheet_ok (a b : Int32) (M : Mem) : Mo_isSheet a b M = some (if (0 ≤ a ∧ a < 4) ∧ 0 ≤ b ∧ b < 3 then 1 else 0, M) := by
  unfold Mo_isSheet
  rw [in_3, bd_s]
  by_cases q1 : 0 ≤ a ∧ a < 4
  · rw [if_pos q1, if_neg (by decide), in_2, bd_s]
    by_cases q2 : 0 ≤ b ∧ b < 3
    · rw [if_pos q2, if_neg (by decide), if_pos ⟨q1, q2⟩]
    · rw [if_neg q2, if_pos rfl, if_neg (fun h => q2 h.2)]
  · rw [if_neg q1, if_pos rfl, if_neg (fun h => q1 h.1)]
theorem rfn13 : ∀ k, k < 4 → rfn 13 k = 14 + 2 * k ∧ isS (14 + 2 * k) = true ∧ isI (15 + 2 * k) = true ∧ ln (15 + 2 * k) = 40 := by decide +kernel
theorem Rel.sheet {M M' : Mem} (h : Rel M) (hc : ∀ c, c < 14 ∨ (32 ≤ c ∧ c ≠ 46 ∧ c ≠ 47 ∧ c ≠ 48) → M' c = M c) (hs : RS M') : Rel M' := by
  obtain ⟨hT, hP, hI, -, hF⟩ := h
  exact ⟨hT.mv (by rw [hc 1 (by omega)]) (hc 2 (by omega)) (by rw [hc 32 (by omega)]) (hc 37 (by omega)), hP.mv (hc 5 (by omega)) (hc 6 (by omega)) (hc 33 (by omega)), hI.mv (hc 12 (by omega)) (hc 35 (by omega)) (hc 8 (by omega)) (hc 9 (by omega)) (hc 10 (by omega)) (hc 11 (by omega)) (hc 34 (by omega)), hs, hF.mv (hc 0 (by omega)) (by rw [hc 32 (by omega)]) (by rw [hc 32 (by omega)]) (by rw [hc 32 (by omega)])⟩
theorem mSheet_loop {k : Nat} {M : Mem} (hk : k < 4) : Mo_sheet_L40 FU (nI k) 0 M = some (1, wra M 48 (fun b => if 40 * k ≤ b ∧ b < 40 * k + 40 then 0 else M 48 b)) := by
  obtain ⟨M', h1, h2⟩ := lp (fun m i M' => Mo_sheet_L40 m (nI k) (nI i) M') (fun M' => some (1, M')) 40 (fun i M' => M' = wra M 48 (fun b => if 40 * k ≤ b ∧ b < 40 * k + i then 0 else M 48 b)) (fun m M' _ => by
      show Mo_sheet_L40 (m + 1) (nI k) (nI 40) M' = _
      rw [Mo_sheet_L40, if_pos (by decide)]) (fun m i M' hi e => by
      refine ⟨wra M 48 (fun b => if 40 * k ≤ b ∧ b < 40 * k + (i + 1) then 0 else M 48 b), rfl, ?_⟩
      show Mo_sheet_L40 (m + 1) (nI k) (nI i) M' = Mo_sheet_L40 m (nI k) (nI (i + 1)) _
      rw [Mo_sheet_L40, if_neg (show ¬ (40 : Int32) ≤ nI i from nI_ge (b := 40) hi (by omega)), show (40 : Int32) = nI 40 from rfl, nIm, nIa, if_pos (ibn (by omega) (by omega)), ixn (by omega), e, wr_wra, nI_1]
      congr 2
      funext b
      grind) 40 FU 0 M (by omega) (FU_lt (by omega)) (by
      funext a b
      by_cases h : a = 48 <;> simp [wra_g, h]
      intros; omega)
  have h3 : Mo_sheet_L40 FU (nI k) 0 M = some (1, M') := h2
  rw [h3, h1]
theorem op_sheet : Op_sheet Rel := by
  intro M a b d hR
  by_cases h1 : 0 ≤ a ∧ a < 4
  · by_cases h2 : 0 ≤ b ∧ b < 3
    · by_cases h3 : d ≤ 40
      · by_cases h4 : 0 ≤ d
        · obtain ⟨k, hk, rfl⟩ := ran (n := 4) (by omega) h1.1 h1.2
          obtain ⟨u, hu, rfl⟩ := ran (n := 3) (by omega) h2.1 h2.2
          obtain ⟨n, hn, rfl⟩ := ranl (n := 40) (by omega) h4 h3
          obtain ⟨r1, r2, r3, r4⟩ := rfn13 k hk
          have q1 : ib (nI k) 4 = true := ibn hk (by omega)
          have q2 : ix (nI k) = k := ixn (by omega)
          have q3 : ¬ (nI n > 40) := Int32.not_lt.mpr h3
          refine ⟨1, wr (wr (wra M (15 + 2 * k) (fun i => if i < 40 then 0 else M (15 + 2 * k) i)) (14 + 2 * k) 1 (nI u)) (14 + 2 * k) 2 (nI n), wra (wr (wr (wr (wr (wra M (15 + 2 * k) (fun i => if i < 40 then 0 else M (15 + 2 * k) i)) (14 + 2 * k) 1 (nI u)) (14 + 2 * k) 2 (nI n)) 46 k (nI u)) 47 k (nI n)) 48 (fun i => if 40 * k ≤ i ∧ i < 40 * k + 40 then 0 else M 48 i), ?_, ?_, ?_⟩
          · unfold Pf_sheet
            rw [isSheet_ok, if_pos h1, bd_s, if_neg (by decide), isLane_ok, if_pos h2, bd_s, if_neg (by decide), if_pos h3, if_pos h4, if_pos q1, q2, r1]
            unfold Se_makeNew
            rw [if_pos r2, show 14 + 2 * k + 1 = 15 + 2 * k by omega, fill_ok r3 r4 (by omega), bv_s, if_neg q3, bv_s]
          · unfold Mo_sheet
            rw [mSheet_ok, if_pos ⟨h1, h2⟩, bd_s, if_neg (by decide), if_pos h3, if_pos h4, if_pos q1, if_pos q1, q2, mSheet_loop hk]
            congr 3
            funext i
            rw [wr_ne (by omega), wr_ne (by omega), wr_ne (by omega), wr_ne (by omega), wra_ne (by omega)]
          · refine hR.sheet (fun c hc => ?_) ?_
            · rw [wra_ne (by omega), wr_ne (by omega), wr_ne (by omega), wr_ne (by omega), wr_ne (by omega), wra_ne (by omega)]
            · intro k' hk'
              by_cases e : k' = k
              · subst e
                refine Or.inr ⟨u, n, hu, hn, by simp [wr_g, wra_g]; grind, by simp [wr_g, wra_g]; grind, by simp [wr_g, wra_g], by simp [wr_g, wra_g], fun i hi => ?_⟩
                simp [wr_g, wra_g]
                grind
              · have q := hR.2.2.2.1 k' hk'
                have c1 : wra (wr (wr (wr (wr (wra M (15 + 2 * k) (fun i => if i < 40 then 0 else M (15 + 2 * k) i)) (14 + 2 * k) 1 (nI u)) (14 + 2 * k) 2 (nI n)) 46 k (nI u)) 47 k (nI n)) 48 (fun i => if 40 * k ≤ i ∧ i < 40 * k + 40 then 0 else M 48 i) (14 + 2 * k') = M (14 + 2 * k') := by
                  rw [wra_ne (by omega), wr_ne (by omega), wr_ne (by omega), wr_ne (by omega), wr_ne (by omega), wra_ne (by omega)]
                have c2 : wra (wr (wr (wr (wr (wra M (15 + 2 * k) (fun i => if i < 40 then 0 else M (15 + 2 * k) i)) (14 + 2 * k) 1 (nI u)) (14 + 2 * k) 2 (nI n)) 46 k (nI u)) 47 k (nI n)) 48 (fun i => if 40 * k ≤ i ∧ i < 40 * k + 40 then 0 else M 48 i) (15 + 2 * k') = M (15 + 2 * k') := by
                  rw [wra_ne (by omega), wr_ne (by omega), wr_ne (by omega), wr_ne (by omega), wr_ne (by omega), wra_ne (by omega)]
                rw [c1, c2]
                rcases q with ⟨g1, g2⟩ | ⟨a', n', g1, g2, g3, g4, g5, g6, g7⟩
                · exact Or.inl ⟨g1, by simp [wr_g, wra_g, e]; grind⟩
                · refine Or.inr ⟨a', n', g1, g2, g3, g4, by simp [wr_g, wra_g, e]; grind, by simp [wr_g, wra_g, e]; grind, fun i hi => ?_⟩
                  rw [g7 i hi]
                  simp [wr_g, wra_g]
                  intros; omega
        · have h4' : d < 0 := Int32.not_le.mp h4
          refine ⟨-14, M, M, ?_, ?_, hR⟩
          · unfold Pf_sheet
            rw [isSheet_ok, if_pos h1, bd_s, if_neg (by decide), isLane_ok, if_pos h2, bd_s, if_neg (by decide), if_pos h3, if_neg h4]
          · unfold Mo_sheet
            rw [mSheet_ok, if_pos ⟨h1, h2⟩, bd_s, if_neg (by decide), if_pos h3, if_neg h4]
      · refine ⟨-1, M, M, ?_, ?_, hR⟩
        · unfold Pf_sheet
          rw [isSheet_ok, if_pos h1, bd_s, if_neg (by decide), isLane_ok, if_pos h2, bd_s, if_neg (by decide), if_neg h3]
        · unfold Mo_sheet
          rw [mSheet_ok, if_pos ⟨h1, h2⟩, bd_s, if_neg (by decide), if_neg h3]
    · refine ⟨-1, M, M, ?_, ?_, hR⟩
      · unfold Pf_sheet
        rw [isSheet_ok, if_pos h1, bd_s, if_neg (by decide), isLane_ok, if_neg h2, bd_s, if_pos rfl]
      · unfold Mo_sheet
        rw [mSheet_ok, if_neg (fun h => h2 h.2), bd_s, if_pos rfl]
  · refine ⟨-1, M, M, ?_, ?_, hR⟩
    · unfold Pf_sheet
      rw [isSheet_ok, if_neg h1, bd_s, if_pos rfl]
    · unfold Mo_sheet
      rw [mSheet_ok, if_neg (fun h => h1 h.1), bd_s, if_pos rfl]
theorem lane_ne {a : Nat} (ha : a < 3) : ¬ nI a = (-4 : Int32) := by
  have e : a = 0 ∨ a = 1 ∨ a = 2 := by omega
  rcases e with rfl | rfl | rfl <;> decide
theorem size_ne {n : Nat} (hn : n ≤ 40) : ¬ nI n = (-1 : Int32) := fun h => by
  have := nI_pos (n := n) (by omega)
  rw [h] at this
  exact this (by decide)
/-- what is kept of a number by the lane -/
def ked (a : Nat) (v : Int32) : Int32 := if a = 0 then v.toInt8.toInt32 else if a = 1 then v.toInt16.toInt32 else v
theorem findAt_none {k : Nat} {a : Int32} {M : Mem} (hs : isS k = true) (h : M k 2 = -1) : Se_findAt k a M = some (1, M) := by
  unfold Se_findAt Se_isNothing
  rw [if_pos hs, if_pos hs, if_pos h, bd_s, if_neg (by decide)]
theorem findAt_some {k n : Nat} {a : Int32} {M : Mem} (hs : isS k = true) (h : M k 2 = nI n) (hn : n ≤ 40) : Se_findAt k a M = some (if 0 ≤ a ∧ a < nI n then 0 else 2, M) := by
  unfold Se_findAt Se_isNothing
  rw [if_pos hs, if_pos hs, if_neg (by rw [h]; exact size_ne hn), bd_s, if_pos rfl, h]
  by_cases q1 : a < 0
  · rw [if_pos q1, if_neg (fun g => Int32.not_le.mpr q1 g.1)]
  rw [if_neg q1]
  by_cases q2 : a < nI n
  · rw [if_pos q2, if_pos ⟨Int32.not_lt.mp q1, q2⟩]
  · rw [if_neg q2, if_neg (fun g => q2 g.2)]
theorem op_lay : Op_lay Rel := by
  intro M a b v hR
  by_cases h1 : 0 ≤ a ∧ a < 4
  · obtain ⟨k, hk, rfl⟩ := ran (n := 4) (by omega) h1.1 h1.2
    obtain ⟨r1, r2, r3, r4⟩ := rfn13 k hk
    have q1 : ib (nI k) 4 = true := ibn hk (by omega)
    have q2 : ix (nI k) = k := ixn (by omega)
    have h0 : (0 : Int32) ≤ 0 ∧ (0 : Int32) < 3 := by decide
    rcases hR.2.2.2.1 k hk with ⟨g1, g2⟩ | ⟨u, n, hu, hn, g3, g4, g5, g6, g7⟩
    · refine ⟨-11, M, M, ?_, ?_, hR⟩
      · unfold Pf_lay
        rw [isSheet_ok, if_pos h1, bd_s, if_neg (by decide), if_pos q1, q2, r1, findAt_none r2 g1, bd_s, if_neg (by decide)]
        rfl
      · unfold Mo_lay
        rw [mSheet_ok, if_pos ⟨h1, h0⟩, bd_s, if_neg (by decide), if_pos q1, q2, if_pos g2]
    · by_cases h2 : 0 ≤ b ∧ b < nI n
      · obtain ⟨j, hj, rfl⟩ := ran (n := n) (by omega) h2.1 h2.2
        have q3 : ib (nI j) 40 = true := ibn (by omega) (by omega)
        have q4 : ix (nI j) = j := ixn (by omega)
        refine ⟨1, wr M (15 + 2 * k) j (ked u v), wr (wr M (15 + 2 * k) j (ked u v)) 48 (40 * k + j) (ked u v), ?_, ?_, ?_⟩
        · unfold Pf_lay
          rw [isSheet_ok, if_pos h1, bd_s, if_neg (by decide), if_pos q1, q2, r1, findAt_some r2 g4 hn, if_pos h2, bd_s, if_pos rfl, if_pos q1]
          unfold Se_putCell Se_putCell_b39
          rw [if_pos r2, findAt_some r2 g4 hn, if_pos h2, bd_s, if_pos rfl, g3, q4, show 14 + 2 * k + 1 = 15 + 2 * k by omega]
          have e : u = 0 ∨ u = 1 ∨ u = 2 := by omega
          rcases e with rfl | rfl | rfl
          · rw [if_pos (show nI 0 = 0 from rfl), if_pos q3]; rfl
          · rw [if_neg (by decide), if_pos (show nI 1 = 1 from rfl), if_pos q3]; rfl
          · rw [if_neg (by decide), if_neg (by decide), if_pos q3]; rfl
        · have m46 : wr M (15 + 2 * k) j (ked u v) 46 k = nI u := by rw [wr_ne (by omega)]; exact g5
          have m47 : wr M (15 + 2 * k) j (ked u v) 47 k = nI n := by rw [wr_ne (by omega)]; exact g6
          unfold Mo_lay Mo_lay_b85
          rw [mSheet_ok, if_pos ⟨h1, h0⟩, bd_s, if_neg (by decide), if_pos q1, q2, m46, if_neg (lane_ne hu), if_pos q1, m47, in_0p (by omega), bd_s, if_pos h2, if_neg (by decide), if_pos q1, m46, if_pos q1, show (40 : Int32) = nI 40 from rfl, nIm, nIa, ixn (by omega)]
          have q5 : ib (nI (40 * k + j)) 160 = true := ibn (by omega) (by omega)
          have e : u = 0 ∨ u = 1 ∨ u = 2 := by omega
          rcases e with rfl | rfl | rfl
          · rw [if_pos (show nI 0 = 0 from rfl), if_pos q5]; rfl
          · rw [if_neg (by decide), if_pos (show nI 1 = 1 from rfl), if_pos q5]; rfl
          · rw [if_neg (by decide), if_neg (by decide), if_pos q5]; rfl
        · refine hR.sheet (fun c hc => by rw [wr_ne (by omega), wr_ne (by omega)]) ?_
          intro k' hk'
          have c1 : wr (wr M (15 + 2 * k) j (ked u v)) 48 (40 * k + j) (ked u v) (14 + 2 * k') = M (14 + 2 * k') := by rw [wr_ne (by omega), wr_ne (by omega)]
          have c3 : wr (wr M (15 + 2 * k) j (ked u v)) 48 (40 * k + j) (ked u v) 46 = M 46 := by rw [wr_ne (by omega), wr_ne (by omega)]
          have c4 : wr (wr M (15 + 2 * k) j (ked u v)) 48 (40 * k + j) (ked u v) 47 = M 47 := by rw [wr_ne (by omega), wr_ne (by omega)]
          rw [c1, c3, c4]
          rcases hR.2.2.2.1 k' hk' with q | ⟨a', n', f1, f2, f3, f4, f5, f6, f7⟩
          · exact Or.inl q
          · refine Or.inr ⟨a', n', f1, f2, f3, f4, f5, f6, fun i hi => ?_⟩
            rw [wr_g, wr_g, wr_g, wr_g]
            have := f7 i hi
            grind
      · refine ⟨-12, M, M, ?_, ?_, hR⟩
        · unfold Pf_lay
          rw [isSheet_ok, if_pos h1, bd_s, if_neg (by decide), if_pos q1, q2, r1, findAt_some r2 g4 hn, if_neg h2, bd_s, if_neg (by decide)]
          rfl
        · unfold Mo_lay
          rw [mSheet_ok, if_pos ⟨h1, h0⟩, bd_s, if_neg (by decide), if_pos q1, q2, g5, if_neg (lane_ne hu), if_pos q1, g6, in_0p (by omega), bd_s, if_neg h2, if_pos rfl]
  · refine ⟨-1, M, M, ?_, ?_, hR⟩
    · unfold Pf_lay
      rw [isSheet_ok, if_neg h1, bd_s, if_pos rfl]
    · unfold Mo_lay
      rw [mSheet_ok, if_neg (fun h => h1 h.1), bd_s, if_pos rfl]
