/-! PURE: turn -/
def jR (x y : Int32) : Int32 := if 0 ≤ jrem x y then jrem x y else jrem x y + y
def jM (x y : Int32) : Int32 := jrem (jrem x y + y) y
theorem red_ab0 : (List.range 8).all (fun p => (List.range 8).all fun a => (List.range 8).all fun b => !(decide (2 ≤ p) && (decide (a < p) && decide (b < p))) || (decide (jR (nI a - nI b) (nI p) = nI ((a + p - b) % p)) && decide (jM (nI a - nI b) (nI p) = nI ((a + p - b) % p)))) = true := by decide +kernel
theorem red_ab (p : Nat) (h1 : p < 8) (h2 : 2 ≤ p) (a : Nat) (h3 : a < 8) (b : Nat) (h4 : b < 8) (h5 : a < p) (h6 : b < p) : jR (nI a - nI b) (nI p) = nI ((a + p - b) % p) ∧ jM (nI a - nI b) (nI p) = nI ((a + p - b) % p) := by
  have h := List.all_eq_true.mp (List.all_eq_true.mp (List.all_eq_true.mp red_ab0 p (List.mem_range.mpr h1)) a (List.mem_range.mpr h3)) b (List.mem_range.mpr h4)
  simpa [h2, h5, h6] using h
theorem reduce_jR {x : Int32} {p : Nat} {M : Mem} (hp : pr p) : Pf_reduce x (nI p) M = some (jR x (nI p), M) := by
  have h7 := pr_le hp
  unfold Pf_reduce jR
  rw [if_pos (show (1 : Int32) ≤ nI p from nI_le (a := 1) (by omega) (by omega)), if_neg (nI_ne0 (by omega) (by omega))]
  split <;> rfl
theorem modulo_jM {x : Int32} {p : Nat} {M : Mem} (h : M 33 0 = nI p) (hp : pr p) : Mo_modulo x M = some (jM x (nI p), M) := by
  have h7 := pr_le hp
  unfold Mo_modulo jM
  rw [h, if_neg (nI_ne0 (by omega) (by omega)), if_neg (nI_ne0 (by omega) (by omega))]
theorem spots_ok {c a b : Nat} {M : Mem} (hc : isP c = true) (ha : a < 32) (hb : b < 32) : Pa_exchangeSpots c (nI a) (nI b) M = some (wr (wr M (c + 1) a (M (c + 1) b)) (c + 1) b (M (c + 1) a)) := by
  unfold Pa_exchangeSpots
  rw [if_pos hc, if_pos (ibn ha (by omega)), if_pos (ibn hb (by omega)), if_pos (ibn ha (by omega)), if_pos (ibn hb (by omega)), ixn (by omega), ixn (by omega)]
theorem exTab_ok {c : Nat} {M : Mem} (hc : isP c = true) : ∃ M', Pa_exchangeTables c M = some M' ∧ (∀ a, a ≠ c + 1 → M' a = M a) ∧ ∀ q, q < 16 → M' (c + 1) q = M (c + 1) (16 + q) ∧ M' (c + 1) (16 + q) = M (c + 1) q := by
  unfold Pa_exchangeTables
  rw [if_pos hc]
  obtain ⟨M', h1, h2⟩ := lp (fun m i M' => Pa_exchangeTables_L2 m c (nI i) M') (fun M' => some M') 16 (fun i M' => (∀ a, a ≠ c + 1 → M' a = M a) ∧ ∀ q, q < 16 → (q < i → M' (c + 1) q = M (c + 1) (16 + q) ∧ M' (c + 1) (16 + q) = M (c + 1) q) ∧ (i ≤ q → M' (c + 1) q = M (c + 1) q ∧ M' (c + 1) (16 + q) = M (c + 1) (16 + q))) (fun m M' _ => by
      show Pa_exchangeTables_L2 (m + 1) c (nI 16) M' = _
      rw [Pa_exchangeTables_L2, if_pos (by decide)]) (fun m i M' hi h' => by
      show ∃ M1, _ ∧ Pa_exchangeTables_L2 (m + 1) c (nI i) M' = Pa_exchangeTables_L2 m c (nI (i + 1)) M1
      rw [Pa_exchangeTables_L2, if_neg (show ¬ (16 : Int32) ≤ nI i from nI_ge (b := 16) hi (by omega)), show (16 : Int32) + nI i = nI (16 + i) from nIa 16 i, spots_ok hc (by omega) (by omega), bv_s, nI_1]
      refine ⟨_, ⟨fun a ha => by rw [wr_ne ha, wr_ne ha]; exact h'.1 a ha, fun q hq => ⟨fun h => ?_, fun h => ?_⟩⟩, rfl⟩
      · have g := h'.2 q hq
        by_cases e : q = i
        · subst e
          have g2 := g.2 (by omega)
          exact ⟨by rw [wr_o (by omega), wr_s, g2.2], by rw [wr_s, g2.1]⟩
        · have g2 := g.1 (by omega)
          exact ⟨by rw [wr_o (by omega), wr_o (by omega), g2.1], by rw [wr_o (by omega), wr_o (by omega), g2.2]⟩
      · have g2 := (h'.2 q hq).2 (by omega)
        exact ⟨by rw [wr_o (by omega), wr_o (by omega), g2.1], by rw [wr_o (by omega), wr_o (by omega), g2.2]⟩) 16 FU 0 M (by omega) (FU_lt (by omega)) ⟨fun _ _ => rfl, fun q hq => ⟨fun h => by omega, fun _ => ⟨rfl, rfl⟩⟩⟩
  exact ⟨M', h2, h1.1, fun q hq => (h1.2 q hq).1 hq⟩
theorem shift_ok {c p : Nat} {M : Mem} (hc : isP c = true) (hp : pr p) (e1 : M c 1 = nI p) : ∃ M', Pa_shift c M = some M' ∧ (∀ a, a ≠ c + 1 → M' a = M a) ∧ ∀ q, q < 16 → M' (c + 1) q = jR (M (c + 1) q - M (c + 1) (16 + q)) (nI p) ∧ M' (c + 1) (16 + q) = M (c + 1) (16 + q) := by
  unfold Pa_shift
  rw [if_pos hc]
  have hcc : c ≠ c + 1 := by omega
  obtain ⟨M', h1, h2⟩ := lp (fun m i M' => Pa_shift_L2 m c (nI i) M') (fun M' => some M') 16 (fun i M' => (∀ a, a ≠ c + 1 → M' a = M a) ∧ ∀ q, q < 16 → (q < i → M' (c + 1) q = jR (M (c + 1) q - M (c + 1) (16 + q)) (nI p)) ∧ (i ≤ q → M' (c + 1) q = M (c + 1) q) ∧ M' (c + 1) (16 + q) = M (c + 1) (16 + q)) (fun m M' _ => by
      show Pa_shift_L2 (m + 1) c (nI 16) M' = _
      rw [Pa_shift_L2, if_pos (by decide)]) (fun m i M' hi h' => by
      show ∃ M1, _ ∧ Pa_shift_L2 (m + 1) c (nI i) M' = Pa_shift_L2 m c (nI (i + 1)) M1
      rw [Pa_shift_L2, if_neg (show ¬ (16 : Int32) ≤ nI i from nI_ge (b := 16) hi (by omega)), if_pos (ibn (by omega) (by omega)), show (16 : Int32) + nI i = nI (16 + i) from nIa 16 i, if_pos (ibn (by omega) (by omega)), h'.1 c hcc, e1, reduce_jR hp, bd_s, if_pos (ibn (by omega) (by omega)), ixn (by omega), ixn (by omega), nI_1]
      refine ⟨_, ⟨fun a ha => by rw [wr_ne ha]; exact h'.1 a ha, fun q hq => ⟨fun h => ?_, fun h => ?_, ?_⟩⟩, rfl⟩
      · by_cases e : q = i
        · subst e
          rw [wr_s, (h'.2 q hq).2.1 (by omega), (h'.2 q hq).2.2]
        · rw [wr_o e, (h'.2 q hq).1 (by omega)]
      · rw [wr_o (by omega), (h'.2 q hq).2.1 (by omega)]
      · rw [wr_o (by omega), (h'.2 q hq).2.2]) 16 FU 0 M (by omega) (FU_lt (by omega)) ⟨fun _ _ => rfl, fun q hq => ⟨fun h => by omega, fun _ => rfl, rfl⟩⟩
  exact ⟨M', h2, h1.1, fun q hq => ⟨(h1.2 q hq).1 hq, (h1.2 q hq).2.2⟩⟩
/-- which places have been flipped -/
def fpd (t i j t' i' j' : Nat) : Prop := t' < t ∨ (t' = t ∧ ((j' < i' ∧ (i' < i ∨ (i' = i ∧ j' < j))) ∨ (i' < j' ∧ (j' < i ∨ (j' = i ∧ i' < j)))))
def FlI (B0 : Nat → Int32) (t i j : Nat) (B : Nat → Int32) : Prop := ∀ t' i' j', t' < 2 → i' < 4 → j' < 4 → (fpd t i j t' i' j' → B (16 * t' + 4 * i' + j') = B0 (16 * t' + 4 * j' + i')) ∧ (¬ fpd t i j t' i' j' → B (16 * t' + 4 * i' + j') = B0 (16 * t' + 4 * i' + j'))
theorem FlI.to {B0 B : Nat → Int32} {t i j t2 i2 j2 : Nat} (h : FlI B0 t i j B) (hh : ∀ t' i' j', t' < 2 → i' < 4 → j' < 4 → i' ≠ j' → (fpd t i j t' i' j' ↔ fpd t2 i2 j2 t' i' j')) : FlI B0 t2 i2 j2 B := by
  intro t' i' j' a1 a2 a3
  by_cases e : i' = j'
  · subst e
    by_cases q : fpd t i i' t' i' i'
    all_goals
      have g := h t' i' i' a1 a2 a3
      by_cases q2 : fpd t i j t' i' i'
      · exact ⟨fun _ => g.1 q2, fun _ => g.1 q2⟩
      · exact ⟨fun _ => g.2 q2, fun _ => g.2 q2⟩
  · have g := h t' i' j' a1 a2 a3
    have k := hh t' i' j' a1 a2 a3 e
    exact ⟨fun q => g.1 (k.mpr q), fun q => g.2 (fun z => q (k.mp z))⟩
theorem flip_in {c t i : Nat} {M : Mem} {k2 : Nat → Int32 → Mem → Option Mem} {k9 : Nat → Int32 → Int32 → Mem → Option Mem} (hc : isP c = true) (ht : t < 2) (hi : i < 4) {M1 : Mem} (h : (∀ a, a ≠ c + 1 → M1 a = M a) ∧ FlI (M (c + 1)) t i 0 (M1 (c + 1))) : ∃ M2, ((∀ a, a ≠ c + 1 → M2 a = M a) ∧ FlI (M (c + 1)) t (i + 1) 0 (M2 (c + 1))) ∧ Pa_flip_L16 k2 k9 FU c (nI t) (nI i) 0 M1 = k9 c (nI t) (nI (i + 1)) M2 := by
  obtain ⟨M2, g1, g2⟩ := lp (fun m j M' => Pa_flip_L16 k2 k9 m c (nI t) (nI i) (nI j) M') (fun M' => k9 c (nI t) (nI (i + 1)) M') i (fun j M' => (∀ a, a ≠ c + 1 → M' a = M a) ∧ FlI (M (c + 1)) t i j (M' (c + 1))) (fun m M' _ => by
      show Pa_flip_L16 k2 k9 (m + 1) c (nI t) (nI i) (nI i) M' = _
      rw [Pa_flip_L16, if_pos (Int32.le_refl _), nI_1]) (fun m j M' hj h' => by
      show ∃ M1, _ ∧ Pa_flip_L16 k2 k9 (m + 1) c (nI t) (nI i) (nI j) M' = Pa_flip_L16 k2 k9 m c (nI t) (nI i) (nI (j + 1)) M1
      rw [Pa_flip_L16, if_neg (nI_ge hj (by omega))]
      unfold Pa_spot
      rw [bd_s, bd_s, spt, spt, spots_ok hc (by omega) (by omega), bv_s, nI_1]
      refine ⟨_, ⟨fun a ha => by rw [wr_ne ha, wr_ne ha]; exact h'.1 a ha, fun t' i' j' a1 a2 a3 => ?_⟩, rfl⟩
      have v1 : M' (c + 1) (16 * t + 4 * i + j) = M (c + 1) (16 * t + 4 * i + j) := (h'.2 t i j ht hi (by omega)).2 (by unfold fpd; omega)
      have v2 : M' (c + 1) (16 * t + 4 * j + i) = M (c + 1) (16 * t + 4 * j + i) := (h'.2 t j i ht (by omega) hi).2 (by unfold fpd; omega)
      have g := h'.2 t' i' j' a1 a2 a3
      rw [wr_g, wr_g]
      by_cases q1 : 16 * t' + 4 * i' + j' = 16 * t + 4 * j + i
      · obtain ⟨rfl, rfl, rfl⟩ := pos_inj a2 a3 (by omega) (by omega) q1
        rw [if_pos ⟨rfl, rfl⟩, v1]
        exact ⟨fun _ => rfl, fun z => absurd (show fpd _ _ _ _ _ _ by unfold fpd; omega) z⟩
      · rw [if_neg (fun z => q1 z.2)]
        by_cases q2 : 16 * t' + 4 * i' + j' = 16 * t + 4 * i + j
        · obtain ⟨rfl, rfl, rfl⟩ := pos_inj a2 a3 (by omega) (by omega) q2
          rw [if_pos ⟨rfl, rfl⟩, v2]
          exact ⟨fun _ => rfl, fun z => absurd (show fpd _ _ _ _ _ _ by unfold fpd; omega) z⟩
        · rw [if_neg (fun z => q2 z.2)]
          have k : fpd t i (j + 1) t' i' j' ↔ fpd t i j t' i' j' := by unfold fpd; omega
          exact ⟨fun z => g.1 (k.mp z), fun z => g.2 (fun y => z (k.mpr y))⟩) i FU 0 M1 (by omega) (FU_lt (by omega)) h
  exact ⟨M2, ⟨g1.1, g1.2.to (fun t' i' j' _ _ _ _ => by unfold fpd; omega)⟩, g2⟩
theorem flip_mid {c t : Nat} {M : Mem} {k2 : Nat → Int32 → Mem → Option Mem} (hc : isP c = true) (ht : t < 2) {M1 : Mem} (h : (∀ a, a ≠ c + 1 → M1 a = M a) ∧ FlI (M (c + 1)) t 0 0 (M1 (c + 1))) : ∃ M2, ((∀ a, a ≠ c + 1 → M2 a = M a) ∧ FlI (M (c + 1)) (t + 1) 0 0 (M2 (c + 1))) ∧ Pa_flip_L9 k2 FU c (nI t) 0 M1 = k2 c (nI (t + 1)) M2 := by
  obtain ⟨M2, g1, g2⟩ := lp (fun m i M' => Pa_flip_L9 k2 m c (nI t) (nI i) M') (fun M' => k2 c (nI (t + 1)) M') 4 (fun i M' => (∀ a, a ≠ c + 1 → M' a = M a) ∧ FlI (M (c + 1)) t i 0 (M' (c + 1))) (fun m M' _ => by
      show Pa_flip_L9 k2 (m + 1) c (nI t) (nI 4) M' = _
      rw [Pa_flip_L9, if_pos (by decide), nI_1]) (fun m i M' hi h' => by
      show ∃ M1, _ ∧ Pa_flip_L9 k2 (m + 1) c (nI t) (nI i) M' = Pa_flip_L9 k2 m c (nI t) (nI (i + 1)) M1
      rw [Pa_flip_L9, if_neg (show ¬ (4 : Int32) ≤ nI i from nI_ge (b := 4) hi (by omega))]
      exact flip_in hc ht hi h') 4 FU 0 M1 (by omega) (FU_lt (by omega)) h
  exact ⟨M2, ⟨g1.1, fun t' i' j' a1 a2 a3 => by
    have g := g1.2 t' i' j' a1 a2 a3
    by_cases e : i' = j'
    · subst e
      by_cases q : fpd t 4 0 t' i' i'
      · exact ⟨fun _ => g.1 q, fun _ => g.1 q⟩
      · exact ⟨fun _ => g.2 q, fun _ => g.2 q⟩
    · have k : fpd (t + 1) 0 0 t' i' j' ↔ fpd t 4 0 t' i' j' := by unfold fpd; omega
      exact ⟨fun z => g.1 (k.mp z), fun z => g.2 (fun y => z (k.mpr y))⟩⟩, g2⟩
theorem flip_ok {c : Nat} {M : Mem} (hc : isP c = true) : ∃ M', Pa_flip c M = some M' ∧ (∀ a, a ≠ c → a ≠ c + 1 → M' a = M a) ∧ (∀ k, k ≠ 2 → k ≠ 3 → M' c k = M c k) ∧ M' c 2 = M c 3 ∧ M' c 3 = M c 2 ∧ ∀ t i j, t < 2 → i < 4 → j < 4 → M' (c + 1) (16 * t + 4 * i + j) = M (c + 1) (16 * t + 4 * j + i) := by
  unfold Pa_flip
  rw [if_pos hc]
  have hcc : c ≠ c + 1 := by omega
  obtain ⟨M2, g1, g2⟩ := lp (fun m t M' => Pa_flip_L2 m c (nI t) M') (fun M' => some (wr (wr M' c 2 (M' c 3)) c 3 (M' c 2))) 2 (fun t M' => (∀ a, a ≠ c + 1 → M' a = M a) ∧ FlI (M (c + 1)) t 0 0 (M' (c + 1))) (fun m M' _ => by
      show Pa_flip_L2 (m + 1) c (nI 2) M' = _
      rw [Pa_flip_L2, if_pos (by decide)]) (fun m t M' ht h' => by
      show ∃ M1, _ ∧ Pa_flip_L2 (m + 1) c (nI t) M' = Pa_flip_L2 m c (nI (t + 1)) M1
      rw [Pa_flip_L2, if_neg (show ¬ (2 : Int32) ≤ nI t from nI_ge (b := 2) ht (by omega))]
      exact flip_mid hc ht h') 2 FU 0 M (by omega) (FU_lt (by omega)) ⟨fun _ _ => rfl, fun t' i' j' _ _ _ => ⟨fun z => absurd z (by unfold fpd; omega), fun _ => rfl⟩⟩
  refine ⟨_, g2, fun a a1 a2 => by rw [wr_ne a1, wr_ne a1, g1.1 a a2], fun k k1 k2 => by rw [wr_o k2, wr_o k1, g1.1 c hcc], by rw [wr_o (by omega), wr_s, g1.1 c hcc], by rw [wr_s, g1.1 c hcc], fun t i j a1 a2 a3 => ?_⟩
  rw [wr_ne (by omega), wr_ne (by omega)]
  exact (g1.2 t i j a1 a2 a3).1 (by unfold fpd; omega)
/-! the reference's turn -/
def tp (z i j : Nat) : Nat := if z = 1 then 4 * j + i else 4 * i + j
def gv (M : Mem) (p z t i j : Nat) : Int32 := if z = 0 then M 33 (3 + (16 * (1 - t) + 4 * i + j)) else if z = 2 ∧ t = 0 then jM (M 33 (3 + (16 * 0 + 4 * i + j)) - M 33 (3 + (16 * 1 + 4 * i + j))) (nI p) else M 33 (3 + (16 * t + 4 * i + j))
def TuI (M : Mem) (p z i j : Nat) (M' : Mem) : Prop := (∀ a, a ≠ 43 → M' a = M a) ∧ ∀ t' i' j', t' < 2 → i' < 4 → j' < 4 → (i' < i ∨ (i' = i ∧ j' < j)) → M' 43 (3 + (16 * t' + tp z i' j')) = gv M p z t' i' j'
theorem sets1_in {t i j : Nat} {M : Mem} {v : Int32} (ht : t < 2) (hi : i < 4) (hj : j < 4) : Mo_sets1 (nI t) (nI i) (nI j) v M = some (wr M 43 (3 + (16 * t + 4 * i + j)) v) := by
  unfold Mo_sets1
  rw [spm, if_pos (ibn (by omega) (by omega)), ixn (by omega)]
theorem tp_lt {z i j : Nat} (hi : i < 4) (hj : j < 4) : tp z i j < 16 := by unfold tp; split <;> omega
theorem tp_inj {z i j i' j' : Nat} (hi : i < 4) (hj : j < 4) (hi' : i' < 4) (hj' : j' < 4) (h : tp z i j = tp z i' j') : i = i' ∧ j = j' := by unfold tp at h; split at h <;> omega
theorem TuI.step {M M' : Mem} {p z i j : Nat} (hi : i < 4) (hj : j < 4) (h : TuI M p z i j M') : TuI M p z i (j + 1) (wr (wr M' 43 (3 + tp z i j) (gv M p z 0 i j)) 43 (3 + (16 + tp z i j)) (gv M p z 1 i j)) := by
  refine ⟨fun a ha => by rw [wr_ne ha, wr_ne ha]; exact h.1 a ha, fun t' i' j' a1 a2 a3 a4 => ?_⟩
  have b1 := tp_lt (z := z) hi hj
  have b2 := tp_lt (z := z) a2 a3
  by_cases e : i' = i ∧ j' = j
  · obtain ⟨rfl, rfl⟩ := e
    have et : t' = 0 ∨ t' = 1 := by omega
    rcases et with rfl | rfl
    · rw [wr_o (by omega), show 3 + (16 * 0 + tp z i' j') = 3 + tp z i' j' by omega, wr_s]
    · rw [show 3 + (16 * 1 + tp z i' j') = 3 + (16 + tp z i' j') by omega, wr_s]
  · have ne : tp z i' j' ≠ tp z i j := fun q => e (tp_inj a2 a3 hi hj q)
    rw [wr_o (by omega), wr_o (by omega)]
    exact h.2 t' i' j' a1 a2 a3 (by omega)
theorem turn_in {M : Mem} {p z i : Nat} {k16 : Int32 → Int32 → Mem → Option (Int32 × Mem)} (hp : pr p) (e0 : M 33 0 = nI p) (hz : z < 3) (hi : i < 4) {M1 : Mem} (h : TuI M p z i 0 M1) : ∃ M2, TuI M p z (i + 1) 0 M2 ∧ Mo_turn_L23 k16 FU (nI z) (nI i) 0 M1 = k16 (nI z) (nI (i + 1)) M2 := by
  obtain ⟨M2, g1, g2⟩ := lp (fun m j M' => Mo_turn_L23 k16 m (nI z) (nI i) (nI j) M') (fun M' => k16 (nI z) (nI (i + 1)) M') 4 (fun j M' => TuI M p z i j M') (fun m M' _ => by
      show Mo_turn_L23 k16 (m + 1) (nI z) (nI i) (nI 4) M' = _
      rw [Mo_turn_L23, if_pos (by decide), nI_1]) (fun m j M' hj h' => by
      show ∃ M1, _ ∧ Mo_turn_L23 k16 (m + 1) (nI z) (nI i) (nI j) M' = Mo_turn_L23 k16 m (nI z) (nI i) (nI (j + 1)) M1
      have f33 : M' 33 = M 33 := h'.1 33 (by omega)
      have o0 : Mo_of 0 (nI i) (nI j) M' = some (M 33 (3 + (16 * 0 + 4 * i + j)), M') := by rw [← f33]; exact of_in (t := 0) (by omega) hi hj
      have o1 : Mo_of 1 (nI i) (nI j) M' = some (M 33 (3 + (16 * 1 + 4 * i + j)), M') := by rw [← f33]; exact of_in (t := 1) (by omega) hi hj
      have t0 : ∀ v Q, Mo_sets1 0 (nI i) (nI j) v Q = some (wr Q 43 (3 + (16 * 0 + 4 * i + j)) v) := fun v Q => sets1_in (t := 0) (by omega) hi hj
      have t1 : ∀ v Q, Mo_sets1 1 (nI i) (nI j) v Q = some (wr Q 43 (3 + (16 * 1 + 4 * i + j)) v) := fun v Q => sets1_in (t := 1) (by omega) hi hj
      have f0 : ∀ v Q, Mo_sets1 0 (nI j) (nI i) v Q = some (wr Q 43 (3 + (16 * 0 + 4 * j + i)) v) := fun v Q => sets1_in (t := 0) (by omega) hj hi
      have f1 : ∀ v Q, Mo_sets1 1 (nI j) (nI i) v Q = some (wr Q 43 (3 + (16 * 1 + 4 * j + i)) v) := fun v Q => sets1_in (t := 1) (by omega) hj hi
      rw [Mo_turn_L23, if_neg (show ¬ (4 : Int32) ≤ nI j from nI_ge (b := 4) hj (by omega)), o0, bd_s, o1, bd_s]
      refine ⟨_, h'.step hi hj, ?_⟩
      unfold Mo_turn_b58 Mo_turn_b68 Mo_turn_b96 Mo_turn_b111 Mo_turn_b121 Mo_turn_b132
      have ez : z = 0 ∨ z = 1 ∨ z = 2 := by omega
      rcases ez with rfl | rfl | rfl
      · rw [if_neg (by decide), if_neg (by decide), if_pos (show nI 0 = 0 from rfl), t0, bv_s, if_neg (by decide), if_neg (by decide), if_pos (show nI 0 = 0 from rfl), t1, bv_s, nI_1]
        simp [gv, tp, Nat.add_assoc]
      · rw [if_pos (show nI 1 = 1 from rfl), if_pos (show nI 1 = 1 from rfl), if_neg (by decide), if_neg (by decide), f0, bv_s, if_pos (show nI 1 = 1 from rfl), if_pos (show nI 1 = 1 from rfl), if_neg (by decide), f1, bv_s, nI_1]
        simp [gv, tp, Nat.add_assoc]
      · rw [if_neg (by decide), if_neg (by decide), if_neg (by decide), if_pos (show nI 2 = 2 from rfl), modulo_jM (by rw [f33]; exact e0) hp, bd_s, t0, bv_s, if_neg (by decide), if_neg (by decide), if_neg (by decide), t1, bv_s, nI_1]
        simp [gv, tp, Nat.add_assoc]) 4 FU 0 M1 (by omega) (FU_lt (by omega)) h
  exact ⟨M2, ⟨g1.1, fun t' i' j' a1 a2 a3 a4 => g1.2 t' i' j' a1 a2 a3 (by omega)⟩, g2⟩
theorem turn_cp {z : Nat} {M : Mem} : ∃ M', (∀ a, a ≠ 33 → M' a = M a) ∧ (∀ q, q < 3 → M' 33 q = M 33 q) ∧ (∀ q, 3 ≤ q → q < 35 → M' 33 q = M 43 q) ∧ Mo_turn_L149 FU (nI z) 3 M = if nI z = 1 then Mo_turn_b204 (wr (wr M' 33 1 (M' 33 2)) 33 2 (M' 33 1)) else Mo_turn_b204 M' := by
  obtain ⟨M', h1, h2⟩ := lp (fun m i M' => Mo_turn_L149 m (nI z) (nI (3 + i)) M') (fun M' => if nI z = 1 then Mo_turn_b204 (wr (wr M' 33 1 (M' 33 2)) 33 2 (M' 33 1)) else Mo_turn_b204 M') 32 (fun i M' => (∀ a, a ≠ 33 → M' a = M a) ∧ (∀ q, q < 3 → M' 33 q = M 33 q) ∧ ∀ q, 3 ≤ q → q < 3 + i → M' 33 q = M 43 q) (fun m M' _ => by
      show Mo_turn_L149 (m + 1) (nI z) (nI (3 + 32)) M' = _
      rw [Mo_turn_L149, if_pos (show (35 : Int32) ≤ nI (3 + 32) by decide)]) (fun m i M' hi h' => by
      show ∃ M1, _ ∧ Mo_turn_L149 (m + 1) (nI z) (nI (3 + i)) M' = Mo_turn_L149 m (nI z) (nI (3 + (i + 1))) M1
      rw [Mo_turn_L149, if_neg (show ¬ (35 : Int32) ≤ nI (3 + i) from nI_ge (b := 35) (by omega) (by omega)), if_pos (ibn (by omega) (by omega)), if_pos (ibn (by omega) (by omega)), ixn (by omega), nI_1]
      refine ⟨_, ⟨fun a ha => by rw [wr_ne ha]; exact h'.1 a ha, fun q hq => by rw [wr_o (by omega)]; exact h'.2.1 q hq, fun q q1 q2 => ?_⟩, rfl⟩
      by_cases e : q = 3 + i
      · subst e; rw [wr_s, h'.1 43 (by omega)]
      · rw [wr_o e]; exact h'.2.2 q q1 (by omega)) 32 FU 0 M (by omega) (FU_lt (by omega)) ⟨fun _ _ => rfl, fun _ _ => rfl, fun q q1 q2 => by omega⟩
  exact ⟨M', h1.1, h1.2.1, fun q q1 q2 => h1.2.2 q q1 (by omega), h2⟩
theorem mTurn_ok {M : Mem} {p z : Nat} (hp : pr p) (e0 : M 33 0 = nI p) (hz : z < 3) : ∃ M', (∀ a, a ≠ 33 → a ≠ 43 → M' a = M a) ∧ M' 33 0 = M 33 0 ∧ M' 33 1 = M 33 (if z = 1 then 2 else 1) ∧ M' 33 2 = M 33 (if z = 1 then 1 else 2) ∧ (∀ t i j, t < 2 → i < 4 → j < 4 → M' 33 (3 + (16 * t + tp z i j)) = gv M p z t i j) ∧ Mo_turn (nI z) M = some (10 * M' 33 1 + M' 33 2, M') := by
  unfold Mo_turn
  have q0 : 0 ≤ nI z ∧ nI z < 3 := ⟨nI_pos' (by omega), nI_lt (b := 3) hz (by omega)⟩
  rw [in_2, if_pos q0, bd_s, if_neg (show ¬ (1 : Int32) = 0 by decide)]
  obtain ⟨M1, g1, g2⟩ := lp (fun m i M' => Mo_turn_L16 m (nI z) (nI i) M') (fun M' => Mo_turn_L149 FU (nI z) 3 M') 4 (fun i M' => TuI M p z i 0 M') (fun m M' _ => by
      show Mo_turn_L16 (m + 1) (nI z) (nI 4) M' = _
      rw [Mo_turn_L16, if_pos (by decide)]) (fun m i M' hi h' => by
      show ∃ M1, _ ∧ Mo_turn_L16 (m + 1) (nI z) (nI i) M' = Mo_turn_L16 m (nI z) (nI (i + 1)) M1
      rw [Mo_turn_L16, if_neg (show ¬ (4 : Int32) ≤ nI i from nI_ge (b := 4) hi (by omega))]
      exact turn_in hp e0 hz hi h') 4 FU 0 M (by omega) (FU_lt (by omega)) ⟨fun _ _ => rfl, fun t' i' j' _ _ _ z => by omega⟩
  obtain ⟨M2, k1, k2, k3, k4⟩ := turn_cp (z := z) (M := M1)
  have hg : Mo_turn_L16 FU (nI z) 0 M = Mo_turn_L149 FU (nI z) 3 M1 := g2
  rw [hg, k4]
  have f33 : M1 33 = M 33 := g1.1 33 (by omega)
  have val : ∀ t i j, t < 2 → i < 4 → j < 4 → M2 33 (3 + (16 * t + tp z i j)) = gv M p z t i j := fun t i j a1 a2 a3 => by
    have := tp_lt (z := z) a2 a3
    rw [k3 _ (by omega) (by omega)]
    exact g1.2 t i j a1 a2 a3 (by omega)
  by_cases h1 : z = 1
  · subst h1
    have y1 : wr (wr M2 33 1 (M2 33 2)) 33 2 (M2 33 1) 33 1 = M 33 2 := by rw [wr_o (by omega), wr_s, k2 2 (by omega), f33]
    have y2 : wr (wr M2 33 1 (M2 33 2)) 33 2 (M2 33 1) 33 2 = M 33 1 := by rw [wr_s, k2 1 (by omega), f33]
    refine ⟨wr (wr M2 33 1 (M2 33 2)) 33 2 (M2 33 1), fun a a1 a2 => by rw [wr_ne a1, wr_ne a1, k1 a a1, g1.1 a a2], by rw [wr_o (by omega), wr_o (by omega), k2 0 (by omega), f33], y1, y2, fun t i j a1 a2 a3 => by rw [wr_o (by omega), wr_o (by omega)]; exact val t i j a1 a2 a3, ?_⟩
    rw [if_pos (show nI 1 = 1 from rfl)]
    rfl
  · refine ⟨M2, fun a a1 a2 => by rw [k1 a a1, g1.1 a a2], by rw [k2 0 (by omega), f33], by rw [k2 1 (by omega), f33]; simp [h1], by rw [k2 2 (by omega), f33]; simp [h1], val, ?_⟩
    rw [if_neg (show ¬ nI z = (1 : Int32) from fun e => h1 ((nI_eq (a := z) (b := 1) (by omega) (by omega)).mp e))]
    rfl
theorem q32 {q : Nat} (h : q < 16) : ∃ i j, i < 4 ∧ j < 4 ∧ q = 4 * i + j := ⟨q / 4, q % 4, by omega, by omega, by omega⟩
theorem op_turn : Op_turn Rel := fun M a hR => hR.two (fC := fun C => Pf_turn a C) (fD := fun D => Mo_turn a D) (fun C D h => by
  obtain ⟨p, r, w, hp, hr, hw, e1, e2, e3, s0, s1, s2, hv, hz⟩ := id h
  have h7 := pr_le hp
  by_cases h0 : 0 ≤ a ∧ a < 3
  · obtain ⟨z, hzz, rfl⟩ := ran (n := 3) (by omega) h0.1 h0.2
    obtain ⟨D', g1, g2, g3, g4, g5, g6⟩ := mTurn_ok hp s0 hzz
    have ez : z = 0 ∨ z = 1 ∨ z = 2 := by omega
    rcases ez with rfl | rfl | rfl
    · obtain ⟨C', k1, k2, k3⟩ := exTab_ok (c := 5) (M := C) isP5
      refine ⟨10 * nI r + nI w, C', D', ?_, ?_, ?_, fun x _ hx => k2 x hx, g1⟩
      · show Pf_turn (nI 0) C = _
        unfold Pf_turn Pf_turn_b60 Pa_shape
        rw [if_pos (show nI 0 = 0 from rfl), k1, bv_s, if_pos isP5, bd_s, k2 5 (by omega), e2, e3]
      · show Mo_turn (nI 0) D = _
        rw [g6, g3, g4]
        simp [s1, s2]
      · refine ⟨p, r, w, hp, hr, hw, by rw [k2 5 (by omega)]; exact e1, by rw [k2 5 (by omega)]; exact e2, by rw [k2 5 (by omega)]; exact e3, by rw [g2]; exact s0, by rw [g3]; exact s1, by rw [g4]; exact s2, fun t i j a1 a2 a3 => ?_, fun t i j a1 a2 a3 a4 => ?_⟩
        · obtain ⟨v, v1, v2, v3⟩ := hv (1 - t) i j (by omega) a2 a3
          have q := g5 t i j a1 (by omega) (by omega)
          simp only [tp, gv, if_pos, show ¬ (0 : Nat) = 1 by omega, if_false] at q
          refine ⟨v, v1, ?_, ?_⟩
          · have et : t = 0 ∨ t = 1 := by omega
            rcases et with rfl | rfl
            · have := (k3 (4 * i + j) (by omega)).1
              rw [show 16 * 0 + 4 * i + j = 4 * i + j by omega, show C' 6 (4 * i + j) = C 6 (16 + (4 * i + j)) from this, show 16 + (4 * i + j) = 16 * (1 - 0) + 4 * i + j by omega]
              exact v2
            · have := (k3 (4 * i + j) (by omega)).2
              rw [show 16 * 1 + 4 * i + j = 16 + (4 * i + j) by omega, show C' 6 (16 + (4 * i + j)) = C 6 (4 * i + j) from this, show 4 * i + j = 16 * (1 - 1) + 4 * i + j by omega]
              exact v2
          · rw [show 3 + (16 * t + 4 * i + j) = 3 + (16 * t + (4 * i + j)) by omega, q]
            exact v3
        · have et : t = 0 ∨ t = 1 := by omega
          rcases et with rfl | rfl
          · have := (k3 (4 * i + j) (by omega)).1
            rw [show 16 * 0 + 4 * i + j = 4 * i + j by omega, show C' 6 (4 * i + j) = C 6 (16 + (4 * i + j)) from this, show 16 + (4 * i + j) = 16 * 1 + 4 * i + j by omega]
            exact hz 1 i j (by omega) a2 a3 a4
          · have := (k3 (4 * i + j) (by omega)).2
            rw [show 16 * 1 + 4 * i + j = 16 + (4 * i + j) by omega, show C' 6 (16 + (4 * i + j)) = C 6 (4 * i + j) from this, show 4 * i + j = 16 * 0 + 4 * i + j by omega]
            exact hz 0 i j (by omega) a2 a3 a4
    · obtain ⟨C', k1, k2, k3, k4, k5, k6⟩ := flip_ok (c := 5) (M := C) isP5
      refine ⟨10 * nI w + nI r, C', D', ?_, ?_, ?_, fun x h5 hx => k2 x h5 hx, g1⟩
      · show Pf_turn (nI 1) C = _
        unfold Pf_turn Pf_turn_b60 Pa_shape
        rw [if_neg (by decide), if_pos (show nI 1 = 1 from rfl), k1, bv_s, if_pos isP5, bd_s, k4, k5, e2, e3]
      · show Mo_turn (nI 1) D = _
        rw [g6, g3, g4]
        simp [s1, s2]
      · refine ⟨p, w, r, hp, hw, hr, by rw [k3 1 (by omega) (by omega)]; exact e1, by rw [k4]; exact e3, by rw [k5]; exact e2, by rw [g2]; exact s0, by rw [g3]; exact s2, by rw [g4]; exact s1, fun t i j a1 a2 a3 => ?_, fun t i j a1 a2 a3 a4 => ?_⟩
        · obtain ⟨v, v1, v2, v3⟩ := hv t j i a1 a3 a2
          have q := g5 t j i a1 (by omega) (by omega)
          simp only [tp, gv, if_true, show ¬ (1 : Nat) = 0 by omega, show ¬ ((1 : Nat) = 2 ∧ t = 0) by omega, if_false] at q
          refine ⟨v, v1, ?_, ?_⟩
          · rw [show C' 6 (16 * t + 4 * i + j) = C 6 (16 * t + 4 * j + i) from k6 t i j a1 (by omega) (by omega)]; exact v2
          · rw [show 3 + (16 * t + 4 * i + j) = 3 + (16 * t + (4 * i + j)) by omega, q]; exact v3
        · rw [show C' 6 (16 * t + 4 * i + j) = C 6 (16 * t + 4 * j + i) from k6 t i j a1 (by omega) (by omega)]
          exact hz t j i a1 a3 a2 (by omega)
    · obtain ⟨C', k1, k2, k3⟩ := shift_ok (c := 5) (M := C) isP5 hp e1
      refine ⟨10 * nI r + nI w, C', D', ?_, ?_, ?_, fun x _ hx => k2 x hx, g1⟩
      · show Pf_turn (nI 2) C = _
        unfold Pf_turn Pf_turn_b60 Pa_shape
        rw [if_neg (by decide), if_neg (by decide), if_pos (show nI 2 = 2 from rfl), k1, bv_s, if_pos isP5, bd_s, k2 5 (by omega), e2, e3]
      · show Mo_turn (nI 2) D = _
        rw [g6, g3, g4]
        simp [s1, s2]
      · refine ⟨p, r, w, hp, hr, hw, by rw [k2 5 (by omega)]; exact e1, by rw [k2 5 (by omega)]; exact e2, by rw [k2 5 (by omega)]; exact e3, by rw [g2]; exact s0, by rw [g3]; exact s1, by rw [g4]; exact s2, fun t i j a1 a2 a3 => ?_, fun t i j a1 a2 a3 a4 => ?_⟩
        · obtain ⟨x, x1, x2, x3⟩ := hv 0 i j (by omega) a2 a3
          obtain ⟨y, y1, y2, y3⟩ := hv 1 i j (by omega) a2 a3
          have q := g5 t i j a1 (by omega) (by omega)
          obtain ⟨m1, m2⟩ := red_ab p (by omega) (by omega) x (by omega) y (by omega) x1 y1
          have kk := k3 (4 * i + j) (by omega)
          have et : t = 0 ∨ t = 1 := by omega
          rcases et with rfl | rfl
          · refine ⟨(x + p - y) % p, Nat.mod_lt _ (by omega), ?_, ?_⟩
            · rw [show 16 * 0 + 4 * i + j = 4 * i + j by omega, show C' 6 (4 * i + j) = _ from kk.1, show C (5 + 1) (4 * i + j) = nI x by rw [show 4 * i + j = 16 * 0 + 4 * i + j by omega]; exact x2, show C (5 + 1) (16 + (4 * i + j)) = nI y by rw [show 16 + (4 * i + j) = 16 * 1 + 4 * i + j by omega]; exact y2, m1]
            · simp only [tp, gv, show ¬ (2 : Nat) = 1 by omega, show ¬ (2 : Nat) = 0 by omega, if_false] at q
              rw [if_pos (by simp), x3, y3, m2] at q
              rw [show 3 + (16 * 0 + 4 * i + j) = 3 + (16 * 0 + (4 * i + j)) by omega]
              exact q
          · refine ⟨y, y1, ?_, ?_⟩
            · rw [show 16 * 1 + 4 * i + j = 16 + (4 * i + j) by omega, show C' 6 (16 + (4 * i + j)) = _ from kk.2, show 16 + (4 * i + j) = 16 * 1 + 4 * i + j by omega]; exact y2
            · simp only [tp, gv, show ¬ (2 : Nat) = 1 by omega, show ¬ (2 : Nat) = 0 by omega, if_false] at q
              rw [if_neg (by omega), y3] at q
              rw [show 3 + (16 * 1 + 4 * i + j) = 3 + (16 * 1 + (4 * i + j)) by omega]
              exact q
        · have z0 := hz 0 i j (by omega) a2 a3 a4
          have z1 := hz 1 i j (by omega) a2 a3 a4
          have kk := k3 (4 * i + j) (by omega)
          have et : t = 0 ∨ t = 1 := by omega
          rcases et with rfl | rfl
          · rw [show 16 * 0 + 4 * i + j = 4 * i + j by omega, show C' 6 (4 * i + j) = _ from kk.1, show C (5 + 1) (4 * i + j) = nI 0 by rw [show 4 * i + j = 16 * 0 + 4 * i + j by omega]; exact z0, show C (5 + 1) (16 + (4 * i + j)) = nI 0 by rw [show 16 + (4 * i + j) = 16 * 1 + 4 * i + j by omega]; exact z1, (red_ab p (by omega) (by omega) 0 (by omega) 0 (by omega) (by omega) (by omega)).1]
            rw [show 0 + p - 0 = p by omega, Nat.mod_self]
            rfl
          · rw [show 16 * 1 + 4 * i + j = 16 + (4 * i + j) by omega, show C' 6 (16 + (4 * i + j)) = _ from kk.2, show 16 + (4 * i + j) = 16 * 1 + 4 * i + j by omega]; exact z1
  · refine ⟨-1, C, D, ?_, ?_, h, fun _ _ _ => rfl, fun _ _ _ => rfl⟩
    · show Pf_turn a C = _
      unfold Pf_turn
      rw [if_neg (fun e => h0 (by subst e; decide)), if_neg (fun e => h0 (by subst e; decide)), if_neg (fun e => h0 (by subst e; decide))]
    · show Mo_turn a D = _
      unfold Mo_turn
      rw [in_2, if_neg h0, bd_s, if_pos rfl])
