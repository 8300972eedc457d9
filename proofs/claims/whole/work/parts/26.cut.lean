/-! PURE: cut, open -/
/-- while the places that fall away are made 0 -/
def ShI (M : Mem) (c r w m n t i j : Nat) (M' : Mem) : Prop := (∀ a, a ≠ c + 1 → M' a = M a) ∧ (∀ q, M' (c + 1) q = M (c + 1) q ∨ M' (c + 1) q = 0) ∧ (∀ t' i' j', t' < 2 → i' < 4 → j' < 4 → i' < m → j' < n → M' (c + 1) (16 * t' + 4 * i' + j') = M (c + 1) (16 * t' + 4 * i' + j')) ∧
  ∀ t' i' j', t' < 2 → i' < r → j' < w → m ≤ i' ∨ n ≤ j' → (t' < t ∨ (t' = t ∧ (i' < i ∨ (i' = i ∧ j' < j)))) → M' (c + 1) (16 * t' + 4 * i' + j') = 0
theorem ShI.le {M M' : Mem} {c r w m n t i j t2 i2 j2 : Nat} (h : ShI M c r w m n t i j M') (hh : ∀ t' i' j', t' < 2 → i' < r → j' < w → (t' < t2 ∨ (t' = t2 ∧ (i' < i2 ∨ (i' = i2 ∧ j' < j2)))) → (t' < t ∨ (t' = t ∧ (i' < i ∨ (i' = i ∧ j' < j))))) : ShI M c r w m n t2 i2 j2 M' := ⟨h.1, h.2.1, h.2.2.1, fun t' i' j' a1 a2 a3 a4 a5 => h.2.2.2 t' i' j' a1 a2 a3 a4 (hh t' i' j' a1 a2 a3 a5)⟩
theorem shr_in {M : Mem} {c r w m n t i : Nat} {k2 : Nat → Int32 → Int32 → Int32 → Mem → Option Mem} {k10 : Nat → Int32 → Int32 → Int32 → Int32 → Mem → Option Mem} (hc : isP c = true) (e2 : M c 2 = nI r) (e3 : M c 3 = nI w) (hr : r ≤ 4) (hw : w ≤ 4) (hm : m ≤ 4) (hn : n ≤ 4) (ht : t < 2) (hi : i < r) {M1 : Mem} (h : ShI M c r w m n t i 0 M1) : ∃ M2, ShI M c r w m n t (i + 1) 0 M2 ∧ Pa_shrinkTo_L22 k2 k10 FU c (nI m) (nI n) (nI t) (nI i) 0 M1 = k10 c (nI m) (nI n) (nI t) (nI (i + 1)) M2 := by
  have hcc : c + 1 ≠ c := by omega
  have hcc' : c ≠ c + 1 := by omega
  obtain ⟨M2, g1, g2⟩ := lp (fun f j M' => Pa_shrinkTo_L22 k2 k10 f c (nI m) (nI n) (nI t) (nI i) (nI j) M') (fun M' => k10 c (nI m) (nI n) (nI t) (nI (i + 1)) M') w (fun j M' => ShI M c r w m n t i j M') (fun f M' h' => by
      show Pa_shrinkTo_L22 k2 k10 (f + 1) c (nI m) (nI n) (nI t) (nI i) (nI w) M' = _
      rw [Pa_shrinkTo_L22, h'.1 c hcc', e3, if_pos (Int32.le_refl _), nI_1]) (fun f j M' hj h' => by
      show ∃ M1, ShI M c r w m n t i (j + 1) M1 ∧ Pa_shrinkTo_L22 k2 k10 (f + 1) c (nI m) (nI n) (nI t) (nI i) (nI j) M' = Pa_shrinkTo_L22 k2 k10 f c (nI m) (nI n) (nI t) (nI i) (nI (j + 1)) M1
      have f2 : M' c 2 = nI r := by rw [h'.1 c hcc']; exact e2
      have f3 : M' c 3 = nI w := by rw [h'.1 c hcc']; exact e3
      rw [Pa_shrinkTo_L22, f3, if_neg (nI_ge hj (by omega))]
      unfold Pa_shrinkTo_b43 Pa_shrinkTo_b53
      rw [putValue_in hc f2 f3 hr hw ht hi hj, bv_s, nI_1]
      have hwr : m ≤ i ∨ n ≤ j → ShI M c r w m n t i (j + 1) (wr M' (c + 1) (16 * t + 4 * i + j) 0) := fun hb => by
        obtain ⟨a1, a2, a3, a4⟩ := h'
        refine ⟨fun a ha => by rw [wr_ne ha]; exact a1 a ha, fun q => ?_, fun t' i' j' b1 b2 b3 b4 b5 => ?_, fun t' i' j' b1 b2 b3 b4 b5 => ?_⟩
        · rw [wr_g]
          by_cases hq : q = 16 * t + 4 * i + j
          · exact Or.inr (by rw [if_pos ⟨rfl, hq⟩])
          · rw [if_neg (fun z => hq z.2)]; exact a2 q
        · rw [wr_o (fun z => by have := pos_inj b2 b3 (by omega) (by omega) z; omega)]
          exact a3 t' i' j' b1 b2 b3 b4 b5
        · rw [wr_g]
          by_cases hq : 16 * t' + 4 * i' + j' = 16 * t + 4 * i + j
          · rw [if_pos ⟨rfl, hq⟩]
          · rw [if_neg (fun z => hq z.2)]
            refine a4 t' i' j' b1 b2 b3 b4 ?_
            by_cases z : t' = t ∧ i' = i ∧ j' = j
            · obtain ⟨rfl, rfl, rfl⟩ := z; exact absurd rfl hq
            · omega
      by_cases q1 : nI m ≤ nI i
      · have q1' : m ≤ i := (nI_leI (by omega) (by omega)).mp q1
        rw [if_pos q1]
        exact ⟨_, hwr (Or.inl q1'), rfl⟩
      · have q1' : ¬ m ≤ i := fun z => q1 (nI_le z (by omega))
        rw [if_neg q1]
        by_cases q2 : nI j < nI n
        · have q2' : j < n := (nI_ltI (by omega) (by omega)).mp q2
          rw [if_pos q2]
          refine ⟨M', ⟨h'.1, h'.2.1, h'.2.2.1, fun t' i' j' b1 b2 b3 b4 b5 => h'.2.2.2 t' i' j' b1 b2 b3 b4 ?_⟩, rfl⟩
          omega
        · have q2' : n ≤ j := Nat.not_lt.mp (fun z => q2 (nI_lt z (by omega)))
          rw [if_neg q2]
          exact ⟨_, hwr (Or.inr q2'), rfl⟩) w FU 0 M1 (by omega) (FU_lt (by omega)) h
  exact ⟨M2, g1.le (fun t' i' j' b1 b2 b3 b4 => by omega), g2⟩
theorem shr_mid {M : Mem} {c r w m n t : Nat} {k2 : Nat → Int32 → Int32 → Int32 → Mem → Option Mem} (hc : isP c = true) (e2 : M c 2 = nI r) (e3 : M c 3 = nI w) (hr : r ≤ 4) (hw : w ≤ 4) (hm : m ≤ 4) (hn : n ≤ 4) (ht : t < 2) {M1 : Mem} (h : ShI M c r w m n t 0 0 M1) : ∃ M2, ShI M c r w m n (t + 1) 0 0 M2 ∧ Pa_shrinkTo_L10 k2 FU c (nI m) (nI n) (nI t) 0 M1 = k2 c (nI m) (nI n) (nI (t + 1)) M2 := by
  have hcc' : c ≠ c + 1 := by omega
  obtain ⟨M2, g1, g2⟩ := lp (fun f i M' => Pa_shrinkTo_L10 k2 f c (nI m) (nI n) (nI t) (nI i) M') (fun M' => k2 c (nI m) (nI n) (nI (t + 1)) M') r (fun i M' => ShI M c r w m n t i 0 M') (fun f M' h' => by
      show Pa_shrinkTo_L10 k2 (f + 1) c (nI m) (nI n) (nI t) (nI r) M' = _
      rw [Pa_shrinkTo_L10, h'.1 c hcc', e2, if_pos (Int32.le_refl _), nI_1]) (fun f i M' hi h' => by
      show ∃ M1, ShI M c r w m n t (i + 1) 0 M1 ∧ Pa_shrinkTo_L10 k2 (f + 1) c (nI m) (nI n) (nI t) (nI i) M' = Pa_shrinkTo_L10 k2 f c (nI m) (nI n) (nI t) (nI (i + 1)) M1
      rw [Pa_shrinkTo_L10, h'.1 c hcc', e2, if_neg (nI_ge hi (by omega))]
      exact shr_in hc e2 e3 hr hw hm hn ht hi h') r FU 0 M1 (by omega) (FU_lt (by omega)) h
  exact ⟨M2, g1.le (fun t' i' j' b1 b2 b3 b4 => by omega), g2⟩
theorem shr_ok {M : Mem} {c r w m n : Nat} (hc : isP c = true) (e2 : M c 2 = nI r) (e3 : M c 3 = nI w) (hr : r ≤ 4) (hw : w ≤ 4) (hm : m ≤ 4) (hn : n ≤ 4) : ∃ M2, ShI M c r w m n 2 0 0 M2 ∧ Pa_shrinkTo c (nI m) (nI n) M = some (wr (wr M2 c 2 (nI m)) c 3 (nI n)) := by
  unfold Pa_shrinkTo
  rw [if_pos hc]
  obtain ⟨M2, g1, g2⟩ := lp (fun f t M' => Pa_shrinkTo_L2 f c (nI m) (nI n) (nI t) M') (fun M' => some (wr (wr M' c 2 (nI m)) c 3 (nI n))) 2 (fun t M' => ShI M c r w m n t 0 0 M') (fun f M' h' => by
      show Pa_shrinkTo_L2 (f + 1) c (nI m) (nI n) (nI 2) M' = _
      rw [Pa_shrinkTo_L2, if_pos (by decide)]) (fun f t M' ht h' => by
      show ∃ M1, ShI M c r w m n (t + 1) 0 0 M1 ∧ Pa_shrinkTo_L2 (f + 1) c (nI m) (nI n) (nI t) M' = Pa_shrinkTo_L2 f c (nI m) (nI n) (nI (t + 1)) M1
      rw [Pa_shrinkTo_L2, if_neg (show ¬ (2 : Int32) ≤ nI t from nI_ge (b := 2) ht (by omega))]
      exact shr_mid hc e2 e3 hr hw hm hn ht h') 2 FU 0 M (by omega) (FU_lt (by omega)) ⟨fun _ _ => rfl, fun _ => Or.inl rfl, fun _ _ _ _ _ _ _ _ => rfl, fun t' i' j' a1 a2 a3 a4 a5 => by omega⟩
  exact ⟨M2, g1, g2⟩
theorem op_cut : Op_cut Rel := by
  intro M a b hR
  obtain ⟨-, ⟨p, r, w, hp, hr, hw, e1, e2, e3, s0, s1, s2, hv, hz⟩, -⟩ := id hR
  have no : ∀ (h : ¬ ((0 ≤ a ∧ a ≤ nI r) ∧ 0 ≤ b ∧ b ≤ nI w)), ∃ (rr : Int32) (M1 M2 : Mem), Pf_cut a b M = some (rr, M1) ∧ Mo_cut a b M1 = some (rr, M2) ∧ Rel M2 := fun h => by
    refine ⟨-1, M, M, ?_, ?_, hR⟩
    · unfold Pf_cut
      rw [e2, e3]
      by_cases q1 : a < 0
      · rw [if_pos q1]
      rw [if_neg q1]
      by_cases q2 : nI r < a
      · rw [if_pos q2]
      rw [if_neg q2]
      by_cases q3 : b < 0
      · rw [if_pos q3]
      rw [if_neg q3]
      by_cases q4 : b ≤ nI w
      · exact absurd ⟨⟨Int32.not_lt.mp q1, Int32.not_lt.mp q2⟩, Int32.not_lt.mp q3, q4⟩ h
      rw [if_neg q4]
    · unfold Mo_cut
      rw [s1, in_0c, bd_s]
      by_cases q1 : 0 ≤ a ∧ a ≤ nI r
      · rw [if_pos q1, if_neg (by decide), s2, in_0c, bd_s, if_neg (fun q2 => h ⟨q1, q2⟩), if_pos rfl]
      · rw [if_neg q1, if_pos rfl]
  by_cases h : (0 ≤ a ∧ a ≤ nI r) ∧ 0 ≤ b ∧ b ≤ nI w
  · obtain ⟨m, hm, rfl⟩ := ranl (n := r) (by omega) h.1.1 h.1.2
    obtain ⟨n, hn, rfl⟩ := ranl (n := w) (by omega) h.2.1 h.2.2
    obtain ⟨M', ⟨g1, g2, g3, g4⟩, g5⟩ := shr_ok (m := m) (n := n) isP5 e2 e3 hr hw (by omega) (by omega)
    refine ⟨10 * nI r + nI w, wr (wr M' 5 2 (nI m)) 5 3 (nI n), wr (wr (wr (wr M' 5 2 (nI m)) 5 3 (nI n)) 33 1 (nI m)) 33 2 (nI n), ?_, ?_, ?_⟩
    · unfold Pf_cut Pa_shape
      rw [if_neg (Int32.not_lt.mpr h.1.1), e2, if_neg (Int32.not_lt.mpr h.1.2), if_neg (Int32.not_lt.mpr h.2.1), e3, if_pos h.2.2, if_pos isP5, bd_s, g5, bv_s]
    · have c33 : wr (wr M' 5 2 (nI m)) 5 3 (nI n) 33 = M 33 := by rw [wr_ne (by omega), wr_ne (by omega), g1 33 (by omega)]
      unfold Mo_cut Mo_shape
      rw [c33, s1, in_0c, bd_s, if_pos h.1, if_neg (by decide), c33, s2, in_0c, bd_s, if_pos h.2, if_neg (by decide), bd_s, c33, s1, s2]
    · refine hR.pair (fun c a1 a2 a3 _ _ _ _ => by rw [wr_ne a3, wr_ne a3, wr_ne a1, wr_ne a1, g1 c a2]) (by rw [wr_ne (by omega), wr_ne (by omega), wr_ne (by omega), wr_ne (by omega), g1 32 (by omega)]) ?_
      have c6 : wr (wr (wr (wr M' 5 2 (nI m)) 5 3 (nI n)) 33 1 (nI m)) 33 2 (nI n) 6 = M' 6 := by rw [wr_ne (by omega), wr_ne (by omega), wr_ne (by omega), wr_ne (by omega)]
      have c33 : ∀ q, q ≠ 1 → q ≠ 2 → wr (wr (wr (wr M' 5 2 (nI m)) 5 3 (nI n)) 33 1 (nI m)) 33 2 (nI n) 33 q = M 33 q := fun q q1 q2 => by
        rw [wr_o q2, wr_o q1, wr_ne (by omega), wr_ne (by omega), g1 33 (by omega)]
      refine ⟨p, m, n, hp, by omega, by omega, ?_, ?_, ?_, ?_, ?_, ?_, fun t i j a1 a2 a3 => ?_, fun t i j a1 a2 a3 a4 => ?_⟩
      · rw [wr_ne (by omega), wr_ne (by omega), wr_o (by omega), wr_o (by omega), g1 5 (by omega)]; exact e1
      · rw [wr_ne (by omega), wr_ne (by omega), wr_o (by omega), wr_s]
      · rw [wr_ne (by omega), wr_ne (by omega), wr_s]
      · rw [c33 0 (by omega) (by omega)]; exact s0
      · rw [wr_o (by omega), wr_s]
      · rw [wr_s]
      · rw [c6, c33 _ (by omega) (by omega), show M' 6 (16 * t + 4 * i + j) = M 6 (16 * t + 4 * i + j) from g3 t i j a1 (by omega) (by omega) a2 a3]
        exact hv t i j a1 (by omega) (by omega)
      · rw [c6]
        by_cases q : i < r ∧ j < w
        · exact g4 t i j a1 q.1 q.2 a4 (by omega)
        · rcases g2 (16 * t + 4 * i + j) with z | z
          · rw [show M' 6 (16 * t + 4 * i + j) = M 6 (16 * t + 4 * i + j) from z]
            exact hz t i j a1 a2 a3 (by omega)
          · exact z
  · exact no h
/-- where the new line lies -/
def psn (z m t k : Nat) : Nat := 3 + (16 * t + (if z = 0 then 4 * m + k else 4 * k + m))
def OpI (M : Mem) (z m k t : Nat) (M' : Mem) : Prop := (∀ a, a ≠ 33 → M' a = M a) ∧ (∀ q, (∀ t k, t < 2 → k < 4 → q ≠ psn z m t k) → M' 33 q = M 33 q) ∧ ∀ t' k', t' < 2 → k' < k ∨ (k' = k ∧ t' < t) → M' 33 (psn z m t' k') = 0
theorem opn_in {M : Mem} {z m k : Nat} {k28 : Int32 → Int32 → Int32 → Mem → Option (Int32 × Mem)} (hz : z < 2) (hm : m < 4) (hk : k < 4) {M1 : Mem} (h : OpI M z m k 0 M1) : ∃ M2, OpI M z m (k + 1) 0 M2 ∧ Mo_open_L36 k28 FU (nI z) (nI m) (nI k) 0 M1 = k28 (nI z) (nI m) (nI (k + 1)) M2 := by
  obtain ⟨M2, g1, g2⟩ := lp (fun f t M' => Mo_open_L36 k28 f (nI z) (nI m) (nI k) (nI t) M') (fun M' => k28 (nI z) (nI m) (nI (k + 1)) M') 2 (fun t M' => OpI M z m k t M') (fun f M' h' => by
      show Mo_open_L36 k28 (f + 1) (nI z) (nI m) (nI k) (nI 2) M' = _
      rw [Mo_open_L36, if_pos (by decide), nI_1]) (fun f t M' ht h' => by
      show ∃ M1, OpI M z m k (t + 1) M1 ∧ Mo_open_L36 k28 (f + 1) (nI z) (nI m) (nI k) (nI t) M' = Mo_open_L36 k28 f (nI z) (nI m) (nI k) (nI (t + 1)) M1
      rw [Mo_open_L36, if_neg (show ¬ (2 : Int32) ≤ nI t from nI_ge (b := 2) ht (by omega))]
      unfold Mo_open_b54 Mo_open_b63
      have hs : OpI M z m k (t + 1) (wr M' 33 (psn z m t k) 0) := by
        obtain ⟨a1, a2, a3⟩ := h'
        refine ⟨fun a ha => by rw [wr_ne ha]; exact a1 a ha, fun q hq => by rw [wr_o (hq t k ht hk)]; exact a2 q hq, fun t' k' b1 b2 => ?_⟩
        rw [wr_g]
        by_cases hq : psn z m t' k' = psn z m t k
        · rw [if_pos ⟨rfl, hq⟩]
        · rw [if_neg (fun y => hq y.2)]
          refine a3 t' k' b1 ?_
          by_cases y : t' = t ∧ k' = k
          · obtain ⟨rfl, rfl⟩ := y; exact absurd rfl hq
          · omega
      refine ⟨_, hs, ?_⟩
      have ez : z = 0 ∨ z = 1 := by omega
      rcases ez with rfl | rfl
      · rw [if_pos (show nI 0 = 0 from rfl), if_pos (show nI 0 = 0 from rfl), becomes_in ht (by omega) hk, bv_s, nI_1]
        congr 2
        simp [psn]; omega
      · rw [if_neg (by decide), if_neg (by decide), becomes_in ht hk (by omega), bv_s, nI_1]
        congr 2
        simp [psn]; omega) 2 FU 0 M1 (by omega) (FU_lt (by omega)) h
  exact ⟨M2, ⟨g1.1, g1.2.1, fun t' k' b1 b2 => g1.2.2 t' k' b1 (by omega)⟩, g2⟩
theorem opn_ok {M : Mem} {z m : Nat} (hz : z < 2) (hm : m < 4) (h1 : M 33 (1 + z) = nI m) : ∃ M2, OpI M z m 4 0 M2 ∧ Mo_open (nI z) M = some (nI (m + 1), wr M2 33 (1 + z) (nI (m + 1))) := by
  unfold Mo_open Mo_isPart
  have q0 : 0 ≤ nI z ∧ nI z < 2 := ⟨nI_pos' (by omega), nI_lt (b := 2) hz (by omega)⟩
  have q1 : (1 : Int32) + nI z = nI (1 + z) := nIa 1 z
  have q2 : ib (nI (1 + z)) 35 = true := ibn (by omega) (by omega)
  rw [in_1, if_pos q0, bd_s, if_pos (show z01 1 = true from rfl), bd_s, if_neg (by decide), q1, if_pos q2, ixn (by omega), h1, if_neg (fun e => by have := (nI_eq (a := m) (b := 4) (by omega) (by omega)).mp e; omega)]
  obtain ⟨M2, g1, g2⟩ := lp (fun f k M' => Mo_open_L28 f (nI z) (nI m) (nI k) M') (fun M' => some (nI (m + 1), wr M' 33 (1 + z) (nI (m + 1)))) 4 (fun k M' => OpI M z m k 0 M') (fun f M' h' => by
      show Mo_open_L28 (f + 1) (nI z) (nI m) (nI 4) M' = _
      rw [Mo_open_L28, if_pos (by decide), q1, if_pos q2, ixn (by omega), nI_1]) (fun f k M' hk h' => by
      show ∃ M1, OpI M z m (k + 1) 0 M1 ∧ Mo_open_L28 (f + 1) (nI z) (nI m) (nI k) M' = Mo_open_L28 f (nI z) (nI m) (nI (k + 1)) M1
      rw [Mo_open_L28, if_neg (show ¬ (4 : Int32) ≤ nI k from nI_ge (b := 4) hk (by omega))]
      exact opn_in hz hm hk h') 4 FU 0 M (by omega) (FU_lt (by omega)) ⟨fun _ _ => rfl, fun _ _ => rfl, fun t' k' _ b => by omega⟩
  exact ⟨M2, g1, g2⟩
theorem isSide_ok (a : Int32) (M : Mem) : Pf_isSide a M = some (if 0 ≤ a ∧ a < 2 then 1 else 0, M) := by
  unfold Pf_isSide
  by_cases q : 0 ≤ a ∧ a < 2
  · obtain ⟨z, hz, rfl⟩ := ran (n := 2) (by omega) q.1 q.2
    rw [if_pos q]
    have ez : z = 0 ∨ z = 1 := by omega
    rcases ez with rfl | rfl <;> rfl
  · rw [if_neg q, if_neg (fun e => q (by subst e; decide)), if_neg (fun e => q (by subst e; decide))]
theorem op_open : Op_open Rel := by
  intro M a hR
  obtain ⟨-, ⟨p, r, w, hp, hr, hw, e1, e2, e3, s0, s1, s2, hv, hz⟩, -⟩ := id hR
  by_cases h : 0 ≤ a ∧ a < 2
  · obtain ⟨z, hzz, rfl⟩ := ran (n := 2) (by omega) h.1 h.2
    have ez : z = 0 ∨ z = 1 := by omega
    rcases ez with rfl | rfl
    · by_cases hr4 : r < 4
      · have g : nI r < 4 := nI_lt (b := 4) hr4 (by omega)
        have f1 : ¬ nI (r + 1) > 4 := Int32.not_lt.mpr (nI_le (b := 4) (by omega) (by omega))
        have f2 : ¬ nI w > 4 := Int32.not_lt.mpr (nI_le (b := 4) (by omega) (by omega))
        have c33 : wr (wr M 5 2 (nI (r + 1))) 5 3 (nI w) 33 = M 33 := by rw [wr_ne (by omega), wr_ne (by omega)]
        obtain ⟨M2, ⟨g1, g2, g3⟩, g4⟩ := opn_ok (M := wr (wr M 5 2 (nI (r + 1))) 5 3 (nI w)) (z := 0) (m := r) (by omega) hr4 (by rw [c33]; exact s1)
        refine ⟨nI (r + 1), wr (wr M 5 2 (nI (r + 1))) 5 3 (nI w), wr M2 33 1 (nI (r + 1)), ?_, g4, ?_⟩
        · unfold Pf_open Pa_linesOf Pa_addLine Pa_growTo
          rw [isSide_ok, if_pos h, bd_s, if_neg (by decide), if_pos isP5, if_pos (show nI 0 = 0 from rfl), bd_s, e2, if_pos g, if_pos isP5, if_pos (show nI 0 = 0 from rfl), if_pos isP5, e3, nI_1, if_neg f1, if_neg f2, bv_s, bv_s, if_pos isP5, if_pos (show nI 0 = 0 from rfl), bd_s, wr_o (by omega), wr_s]
        · refine hR.pair (fun c a1 a2 a3 _ _ _ _ => by rw [wr_ne a3, g1 c a3, wr_ne a1, wr_ne a1]) (by rw [wr_ne (by omega), g1 32 (by omega), wr_ne (by omega), wr_ne (by omega)]) ?_
          have hh : ∀ q, q ≠ 1 → (∀ t k, t < 2 → k < 4 → q ≠ psn 0 r t k) → wr M2 33 1 (nI (r + 1)) 33 q = M 33 q := fun q q1 q2 => by rw [wr_o q1, g2 q q2, c33]
          have c6 : wr M2 33 1 (nI (r + 1)) 6 = M 6 := by rw [wr_ne (by omega), g1 6 (by omega), wr_ne (by omega), wr_ne (by omega)]
          have c5 : wr M2 33 1 (nI (r + 1)) 5 = wr (wr M 5 2 (nI (r + 1))) 5 3 (nI w) 5 := by rw [wr_ne (by omega), g1 5 (by omega)]
          refine ⟨p, r + 1, w, hp, by omega, hw, ?_, ?_, ?_, ?_, ?_, ?_, fun t i j a1 a2 a3 => ?_, fun t i j a1 a2 a3 a4 => ?_⟩
          · rw [c5, wr_o (by omega), wr_o (by omega)]; exact e1
          · rw [c5, wr_o (by omega), wr_s]
          · rw [c5, wr_s]
          · rw [hh 0 (by omega) (fun t k _ _ => by unfold psn; omega)]; exact s0
          · rw [wr_s]
          · rw [hh 2 (by omega) (fun t k _ _ => by unfold psn; omega)]; exact s2
          · by_cases q : i < r
            · rw [c6, hh _ (by omega) (fun t' k' _ _ => by simp only [psn, if_true]; omega)]
              exact hv t i j a1 q a3
            · have : i = r := by omega
              subst this
              refine ⟨0, by have := pr_le hp; omega, by rw [c6]; exact hz t i j a1 (by omega) (by omega) (Or.inl (by omega)), ?_⟩
              have := g3 t j a1 (Or.inl (by omega))
              rw [wr_o (by omega)]
              simp only [psn, if_true] at this
              rw [show 3 + (16 * t + 4 * i + j) = 3 + (16 * t + (4 * i + j)) by omega]
              exact this
          · rw [c6]; exact hz t i j a1 a2 a3 (by omega)
      · have : r = 4 := by omega
        subst this
        refine ⟨-3, M, M, ?_, ?_, hR⟩
        · unfold Pf_open Pa_linesOf
          rw [isSide_ok, if_pos h, bd_s, if_neg (by decide), if_pos isP5, if_pos (show nI 0 = 0 from rfl), bd_s, e2, if_neg (by decide)]
        · unfold Mo_open Mo_isPart
          rw [in_1, if_pos h, bd_s, if_pos (show z01 1 = true from rfl), bd_s, if_neg (by decide), if_pos (show ib (1 + nI 0) 35 = true from rfl), show ix (1 + nI 0) = 1 from rfl, s1, if_pos (show nI 4 = 4 from rfl)]
    · by_cases hw4 : w < 4
      · have g : nI w < 4 := nI_lt (b := 4) hw4 (by omega)
        have f1 : ¬ nI (w + 1) > 4 := Int32.not_lt.mpr (nI_le (b := 4) (by omega) (by omega))
        have f2 : ¬ nI r > 4 := Int32.not_lt.mpr (nI_le (b := 4) (by omega) (by omega))
        have c33 : wr (wr M 5 2 (nI r)) 5 3 (nI (w + 1)) 33 = M 33 := by rw [wr_ne (by omega), wr_ne (by omega)]
        obtain ⟨M2, ⟨g1, g2, g3⟩, g4⟩ := opn_ok (M := wr (wr M 5 2 (nI r)) 5 3 (nI (w + 1))) (z := 1) (m := w) (by omega) hw4 (by rw [c33]; exact s2)
        refine ⟨nI (w + 1), wr (wr M 5 2 (nI r)) 5 3 (nI (w + 1)), wr M2 33 2 (nI (w + 1)), ?_, g4, ?_⟩
        · unfold Pf_open Pa_linesOf Pa_addLine Pa_growTo
          rw [isSide_ok, if_pos h, bd_s, if_neg (by decide), if_pos isP5, if_neg (by decide), bd_s, e3, if_pos g, if_pos isP5, if_neg (by decide), if_pos isP5, e2, nI_1, if_neg f2, if_neg f1, bv_s, bv_s, if_pos isP5, if_neg (by decide), bd_s, wr_s]
        · refine hR.pair (fun c a1 a2 a3 _ _ _ _ => by rw [wr_ne a3, g1 c a3, wr_ne a1, wr_ne a1]) (by rw [wr_ne (by omega), g1 32 (by omega), wr_ne (by omega), wr_ne (by omega)]) ?_
          have hh : ∀ q, q ≠ 2 → (∀ t k, t < 2 → k < 4 → q ≠ psn 1 w t k) → wr M2 33 2 (nI (w + 1)) 33 q = M 33 q := fun q q1 q2 => by rw [wr_o q1, g2 q q2, c33]
          have c6 : wr M2 33 2 (nI (w + 1)) 6 = M 6 := by rw [wr_ne (by omega), g1 6 (by omega), wr_ne (by omega), wr_ne (by omega)]
          have c5 : wr M2 33 2 (nI (w + 1)) 5 = wr (wr M 5 2 (nI r)) 5 3 (nI (w + 1)) 5 := by rw [wr_ne (by omega), g1 5 (by omega)]
          refine ⟨p, r, w + 1, hp, hr, by omega, ?_, ?_, ?_, ?_, ?_, ?_, fun t i j a1 a2 a3 => ?_, fun t i j a1 a2 a3 a4 => ?_⟩
          · rw [c5, wr_o (by omega), wr_o (by omega)]; exact e1
          · rw [c5, wr_o (by omega), wr_s]
          · rw [c5, wr_s]
          · rw [hh 0 (by omega) (fun t k _ _ => by unfold psn; omega)]; exact s0
          · rw [hh 1 (by omega) (fun t k _ _ => by unfold psn; omega)]; exact s1
          · rw [wr_s]
          · by_cases q : j < w
            · rw [c6, hh _ (by omega) (fun t' k' _ _ => by simp only [psn, if_neg (show ¬ 1 = 0 by omega)]; omega)]
              exact hv t i j a1 a2 q
            · have : j = w := by omega
              subst this
              refine ⟨0, by have := pr_le hp; omega, by rw [c6]; exact hz t i j a1 (by omega) (by omega) (Or.inr (by omega)), ?_⟩
              have := g3 t i a1 (Or.inl (by omega))
              rw [wr_o (by omega)]
              simp only [psn, if_neg (show ¬ 1 = 0 by omega)] at this
              rw [show 3 + (16 * t + 4 * i + j) = 3 + (16 * t + (4 * i + j)) by omega]
              exact this
          · rw [c6]; exact hz t i j a1 a2 a3 (by omega)
      · have : w = 4 := by omega
        subst this
        refine ⟨-3, M, M, ?_, ?_, hR⟩
        · unfold Pf_open Pa_linesOf
          rw [isSide_ok, if_pos h, bd_s, if_neg (by decide), if_pos isP5, if_neg (by decide), bd_s, e3, if_neg (by decide)]
        · unfold Mo_open Mo_isPart
          rw [in_1, if_pos h, bd_s, if_pos (show z01 1 = true from rfl), bd_s, if_neg (by decide), if_pos (show ib (1 + nI 1) 35 = true from rfl), show ix (1 + nI 1) = 2 from rfl, s2, if_pos (show nI 4 = 4 from rfl)]
  · refine ⟨-1, M, M, ?_, ?_, hR⟩
    · unfold Pf_open
      rw [isSide_ok, if_neg h, bd_s, if_pos rfl]
    · unfold Mo_open Mo_isPart
      rw [in_1, if_neg h, bd_s, if_pos (show z01 0 = true from rfl), bd_s, if_pos rfl]
