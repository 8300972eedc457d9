/-! PURE: count, cut, open -/
def sumN : Nat → (Nat → Int32) → Int32
  | 0, _ => 0
  | n + 1, f => sumN n f + f n
theorem sumN_cg {n : Nat} {f g : Nat → Int32} (h : ∀ i, i < n → f i = g i) : sumN n f = sumN n g := by
  induction n with
  | zero => rfl
  | succ n ih => rw [sumN, sumN, ih (fun i hi => h i (by omega)), h n (by omega)]
theorem sum16 (f : Nat → Int32) : sumN 16 f = sumN 4 (fun i => sumN 4 (fun j => f (4 * i + j))) := by
  simp [sumN, Int32.add_assoc]
theorem sum32 (f : Nat → Int32) : sumN 32 f = sumN 16 f + sumN 16 (fun q => f (16 + q)) := by
  simp [sumN, Int32.add_assoc]
theorem sum4cut {r : Nat} {f : Nat → Int32} (hr : r ≤ 4) (h : ∀ i, r ≤ i → i < 4 → f i = 0) : sumN 4 f = sumN r f := by
  have e : r = 0 ∨ r = 1 ∨ r = 2 ∨ r = 3 ∨ r = 4 := by omega
  rcases e with rfl | rfl | rfl | rfl | rfl
  · simp [sumN, h 0 (by omega) (by omega), h 1 (by omega) (by omega), h 2 (by omega) (by omega), h 3 (by omega) (by omega)]
  · simp [sumN, h 1 (by omega) (by omega), h 2 (by omega) (by omega), h 3 (by omega) (by omega)]
  · simp [sumN, h 2 (by omega) (by omega), h 3 (by omega) (by omega)]
  · simp [sumN, h 3 (by omega) (by omega)]
  · rfl
theorem sumOf_ok {c t : Nat} {M : Mem} (hc : isP c = true) (ht : t < 2) : Pa_sumOf c (nI t) M = some (sumN 16 (fun q => M (c + 1) (16 * t + q)), M) := by
  unfold Pa_sumOf
  rw [if_pos hc]
  obtain ⟨a, h1, h2⟩ := lps (fun m i (a : Int32) => Pa_sumOf_L4 m c (nI t) a (nI i) M) (fun a => some (a, M)) 16 (fun i a => a = sumN i (fun q => M (c + 1) (16 * t + q))) (fun m a _ => by
      show Pa_sumOf_L4 (m + 1) c (nI t) a (nI 16) M = _
      rw [Pa_sumOf_L4, if_pos (by decide)]) (fun m i a hi e => by
      refine ⟨sumN (i + 1) (fun q => M (c + 1) (16 * t + q)), rfl, ?_⟩
      show Pa_sumOf_L4 (m + 1) c (nI t) a (nI i) M = Pa_sumOf_L4 m c (nI t) _ (nI (i + 1)) M
      rw [Pa_sumOf_L4, if_neg (show ¬ (16 : Int32) ≤ nI i from nI_ge (b := 16) hi (by omega)), show (16 : Int32) = nI 16 from rfl, nIm, nIa, Nat.mul_comm t 16, if_pos (ibn (by omega) (by omega)), ixn (by omega), nI_1, e]
      rfl) 16 FU 0 0 (by omega) (FU_lt (by omega)) rfl
  have h3 : Pa_sumOf_L4 FU c (nI t) 0 0 M = some (a, M) := h2
  rw [h3, h1]
def ind (x : Int32) : Int32 := if x = 0 then 0 else 1
theorem notZero_ok {c : Nat} {M : Mem} (hc : isP c = true) : Pa_placesNotZero c M = some (sumN 32 (fun q => ind (M (c + 1) q)), M) := by
  unfold Pa_placesNotZero
  rw [if_pos hc]
  obtain ⟨a, h1, h2⟩ := lps (fun m i (a : Int32) => Pa_placesNotZero_L4 m c a (nI i) M) (fun a => some (a, M)) 32 (fun i a => a = sumN i (fun q => ind (M (c + 1) q))) (fun m a _ => by
      show Pa_placesNotZero_L4 (m + 1) c a (nI 32) M = _
      rw [Pa_placesNotZero_L4, if_pos (by decide)]) (fun m i a hi e => by
      refine ⟨sumN (i + 1) (fun q => ind (M (c + 1) q)), rfl, ?_⟩
      show Pa_placesNotZero_L4 (m + 1) c a (nI i) M = Pa_placesNotZero_L4 m c _ (nI (i + 1)) M
      rw [Pa_placesNotZero_L4, if_neg (show ¬ (32 : Int32) ≤ nI i from nI_ge (b := 32) hi (by omega)), if_pos (ibn hi (by omega)), ixn (by omega)]
      unfold Pa_placesNotZero_b22
      rw [nI_1, e, sumN]
      by_cases q : M (c + 1) i = 0
      · rw [if_pos q, show ind (M (c + 1) i) = 0 by simp [ind, q], Int32.add_zero]
      · rw [if_neg q, show ind (M (c + 1) i) = 1 by simp [ind, q]]) 32 FU 0 0 (by omega) (FU_lt (by omega)) rfl
  have h3 : Pa_placesNotZero_L4 FU c 0 0 M = some (a, M) := h2
  rw [h3, h1]
def sel (z : Nat) (x : Int32) : Int32 := if z = 0 then x else ind x
theorem mSum_in {t i r w z : Nat} {M : Mem} {acc : Int32} {k5 : Int32 → Int32 → Int32 → Int32 → Mem → Option (Int32 × Mem)} (ht : t < 2) (hi : i < 4) (hw : w ≤ 4) (hz : z < 2) (e2 : M 33 2 = nI w) : Mo_sumOf_L19 k5 FU (nI t) (nI z) acc (nI i) 0 M = k5 (nI t) (nI z) (acc + sumN w (fun j => sel z (M 33 (3 + (16 * t + 4 * i + j))))) (nI (i + 1)) M := by
  obtain ⟨a, h1, h2⟩ := lps (fun m j (a : Int32) => Mo_sumOf_L19 k5 m (nI t) (nI z) a (nI i) (nI j) M) (fun a => k5 (nI t) (nI z) a (nI (i + 1)) M) w (fun j a => a = acc + sumN j (fun j => sel z (M 33 (3 + (16 * t + 4 * i + j))))) (fun m a _ => by
      show Mo_sumOf_L19 k5 (m + 1) (nI t) (nI z) a (nI i) (nI w) M = _
      rw [Mo_sumOf_L19, e2, if_pos (Int32.le_refl _), nI_1]) (fun m j a hj e => by
      refine ⟨acc + sumN (j + 1) (fun j => sel z (M 33 (3 + (16 * t + 4 * i + j)))), rfl, ?_⟩
      show Mo_sumOf_L19 k5 (m + 1) (nI t) (nI z) a (nI i) (nI j) M = Mo_sumOf_L19 k5 m (nI t) (nI z) _ (nI i) (nI (j + 1)) M
      rw [Mo_sumOf_L19, e2, if_neg (nI_ge hj (by omega)), of_in ht hi (by omega), bd_s, bd_s]
      unfold Mo_sumOf_b52 Mo_sumOf_b67
      have ez : z = 0 ∨ z = 1 := by omega
      rcases ez with rfl | rfl
      · rw [if_pos (show nI 0 = 0 from rfl), nI_1, e, sumN, Int32.add_assoc]
        rfl
      · rw [if_neg (by decide), flag_ok (Or.inl rfl), flag_ok (Or.inr rfl), bd_s, bd_s, nI_1, e, sumN]
        by_cases q : M 33 (3 + (16 * t + 4 * i + j)) = 0
        · rw [if_pos q, show sel 1 (M 33 (3 + (16 * t + 4 * i + j))) = 0 by simp [sel, ind, q], Int32.add_assoc]
        · rw [if_neg q, show sel 1 (M 33 (3 + (16 * t + 4 * i + j))) = 1 by simp [sel, ind, q], Int32.add_assoc]) w FU 0 acc (by omega) (FU_lt (by omega)) (by simp [sumN])
  have h3 : Mo_sumOf_L19 k5 FU (nI t) (nI z) acc (nI i) 0 M = k5 (nI t) (nI z) a (nI (i + 1)) M := h2
  rw [h3, h1]
theorem mSum_ok {t r w z : Nat} {M : Mem} (ht : t < 2) (hr : r ≤ 4) (hw : w ≤ 4) (hz : z < 2) (e1 : M 33 1 = nI r) (e2 : M 33 2 = nI w) : Mo_sumOf (nI t) (nI z) M = some (sumN r (fun i => sumN w (fun j => sel z (M 33 (3 + (16 * t + 4 * i + j))))), M) := by
  unfold Mo_sumOf
  obtain ⟨a, h1, h2⟩ := lps (fun m i (a : Int32) => Mo_sumOf_L5 m (nI t) (nI z) a (nI i) M) (fun a => some (a, M)) r (fun i a => a = sumN i (fun i => sumN w (fun j => sel z (M 33 (3 + (16 * t + 4 * i + j)))))) (fun m a _ => by
      show Mo_sumOf_L5 (m + 1) (nI t) (nI z) a (nI r) M = _
      rw [Mo_sumOf_L5, e1, if_pos (Int32.le_refl _)]) (fun m i a hi e => by
      refine ⟨sumN (i + 1) (fun i => sumN w (fun j => sel z (M 33 (3 + (16 * t + 4 * i + j))))), rfl, ?_⟩
      show Mo_sumOf_L5 (m + 1) (nI t) (nI z) a (nI i) M = Mo_sumOf_L5 m (nI t) (nI z) _ (nI (i + 1)) M
      rw [Mo_sumOf_L5, e1, if_neg (nI_ge hi (by omega)), mSum_in (r := r) ht (by omega) hw hz e2, e, sumN]) r FU 0 0 (by omega) (FU_lt (by omega)) rfl
  have h3 : Mo_sumOf_L5 FU (nI t) (nI z) 0 0 M = some (a, M) := h2
  rw [h3, h1]
/-- what both sum is the same -/
theorem sum_same {A B S : Nat → Int32} {p r w t z : Nat} (hr : r ≤ 4) (hw : w ≤ 4) (ht : t < 2)
    (hv : ∀ t i j, t < 2 → i < r → j < w → ∃ v, v < p ∧ B (16 * t + 4 * i + j) = nI v ∧ S (3 + (16 * t + 4 * i + j)) = nI v) (hz : ∀ t i j, t < 2 → i < 4 → j < 4 → r ≤ i ∨ w ≤ j → B (16 * t + 4 * i + j) = 0) : sumN 16 (fun q => sel z (B (16 * t + q))) = sumN r (fun i => sumN w (fun j => sel z (S (3 + (16 * t + 4 * i + j))))) := by
  have z0 : sel z 0 = 0 := by unfold sel ind; split <;> simp
  rw [sum16, sum4cut hr]
  · refine sumN_cg (fun i hi => ?_)
    rw [sum4cut hw]
    · refine sumN_cg (fun j hj => ?_)
      obtain ⟨v, -, g2, g3⟩ := hv t i j ht hi hj
      rw [show 16 * t + (4 * i + j) = 16 * t + 4 * i + j by omega, g2, g3]
    · intro j j1 j2
      rw [show 16 * t + (4 * i + j) = 16 * t + 4 * i + j by omega, hz t i j ht (by omega) j2 (Or.inr j1), z0]
  · intro i i1 i2
    have : ∀ j, j < 4 → sel z (B (16 * t + (4 * i + j))) = (fun _ => (0 : Int32)) j := fun j hj => by
      rw [show 16 * t + (4 * i + j) = 16 * t + 4 * i + j by omega, hz t i j ht i2 hj (Or.inl i1), z0]
    rw [sumN_cg this]
    rfl
theorem op_count : Op_count Rel := by
  intro M a hR
  obtain ⟨⟨kt, -, t1, t2, -⟩, ⟨p, r, w, hp, hr, hw, e1, e2, e3, s0, s1, s2, hv, hz⟩, hI, hS, hF⟩ := id hR
  by_cases h0 : a = 0
  · subst h0
    obtain ⟨x, h01, hx, hy⟩ : ∃ x, (x = 0 ∨ x = 1) ∧ M 12 0 = x ∧ M 35 0 = x := by
      rcases hI 0 (by omega) with ⟨b1, b2⟩ | ⟨b1, b2, -⟩
      · exact ⟨0, Or.inl rfl, b1, b2⟩
      · exact ⟨1, Or.inr rfl, b1, b2⟩
    obtain ⟨x', h01', hx', hy'⟩ : ∃ x, (x = 0 ∨ x = 1) ∧ M 12 1 = x ∧ M 35 1 = x := by
      rcases hI 1 (by omega) with ⟨b1, b2⟩ | ⟨b1, b2, -⟩
      · exact ⟨0, Or.inl rfl, b1, b2⟩
      · exact ⟨1, Or.inr rfl, b1, b2⟩
    refine ⟨x + x', M, M, ?_, ?_, hR⟩
    · unfold Pf_count Pf_count_b54
      rw [if_pos rfl, hx, hx']
      rcases h01 with rfl | rfl <;> rcases h01' with rfl | rfl <;> rfl
    · unfold Mo_count
      rw [if_pos rfl, hy, flag_ok h01, bd_s, hy', flag_ok h01', bd_s]
  by_cases h1 : a = 1
  · subst h1
    have c0 := sum_same (A := M 5) (z := 1) hr hw (show 0 < 2 by omega) hv hz
    have c1 := sum_same (A := M 5) (z := 1) hr hw (show 1 < 2 by omega) hv hz
    refine ⟨sumN 32 (fun q => ind (M 6 q)), M, M, ?_, ?_, hR⟩
    · unfold Pf_count
      rw [if_neg (by decide), if_pos rfl, notZero_ok isP5, bd_s]
    · unfold Mo_count
      have m0 := mSum_ok (t := 0) (z := 1) (by omega) hr hw (by omega) s1 s2
      have m1 := mSum_ok (t := 1) (z := 1) (by omega) hr hw (by omega) s1 s2
      rw [if_neg (by decide), if_pos rfl, show Mo_sumOf 0 1 M = _ from m0, bd_s, show Mo_sumOf 1 1 M = _ from m1, bd_s, ← c0, ← c1, sum32]
      simp [sel]
  by_cases h2 : a = 2
  · subst h2
    refine ⟨M 1 2, M, M, ?_, ?_, hR⟩
    · unfold Pf_count
      rw [if_neg (by decide), if_neg (by decide), if_pos rfl]
    · unfold Mo_count
      rw [if_neg (by decide), if_neg (by decide), if_pos rfl, t1, t2]
  by_cases h3 : a = 3
  · subst h3
    have f0 : rfn 13 (ix 0) = 14 := rfl
    rcases hS 0 (by omega) with ⟨g1, g2⟩ | ⟨u, n, hu, hn, g3, g4, g5, g6, -⟩
    · refine ⟨-4, M, M, ?_, ?_, hR⟩
      · unfold Pf_count Se_isNothing
        rw [if_neg (by decide), if_neg (by decide), if_neg (by decide), if_pos rfl, if_pos (show ib 0 4 = true from rfl), f0, if_pos (show isS 14 = true from rfl), if_pos g1, bd_s, if_neg (by decide)]
      · unfold Mo_count
        rw [if_neg (by decide), if_neg (by decide), if_neg (by decide), if_pos rfl, if_pos g2]
    · refine ⟨nI n, M, M, ?_, ?_, hR⟩
      · unfold Pf_count Se_isNothing
        have g4' : M 14 2 = nI n := g4
        rw [if_neg (by decide), if_neg (by decide), if_neg (by decide), if_pos rfl, if_pos (show ib 0 4 = true from rfl), f0, if_pos (show isS 14 = true from rfl), if_neg (by rw [g4']; exact size_ne hn), bd_s, if_pos rfl, if_pos (show ib 0 4 = true from rfl), g4']
      · unfold Mo_count
        rw [if_neg (by decide), if_neg (by decide), if_neg (by decide), if_pos rfl, if_neg (by rw [g5]; exact lane_ne hu), g6]
  by_cases h4 : a = 4
  · subst h4
    have c0 := sum_same (A := M 5) (z := 0) hr hw (show 0 < 2 by omega) hv hz
    refine ⟨sumN 16 (fun q => M 6 (16 * 0 + q)), M, M, ?_, ?_, hR⟩
    · unfold Pf_count
      have m0 := sumOf_ok (t := 0) (M := M) isP5 (by omega)
      rw [if_neg (by decide), if_neg (by decide), if_neg (by decide), if_neg (by decide), if_pos rfl, show Pa_sumOf 5 0 M = _ from m0, bd_s]
    · unfold Mo_count
      have m0 := mSum_ok (t := 0) (z := 0) (by omega) hr hw (by omega) s1 s2
      rw [if_neg (by decide), if_neg (by decide), if_neg (by decide), if_neg (by decide), if_pos rfl, show Mo_sumOf 0 0 M = _ from m0, bd_s, ← c0]
      rfl
  by_cases h5 : a = 5
  · subst h5
    have c0 := sum_same (A := M 5) (z := 0) hr hw (show 1 < 2 by omega) hv hz
    refine ⟨sumN 16 (fun q => M 6 (16 * 1 + q)), M, M, ?_, ?_, hR⟩
    · unfold Pf_count
      have m0 := sumOf_ok (t := 1) (M := M) isP5 (by omega)
      rw [if_neg (by decide), if_neg (by decide), if_neg (by decide), if_neg (by decide), if_neg (by decide), if_pos rfl, show Pa_sumOf 5 1 M = _ from m0, bd_s]
    · unfold Mo_count
      have m0 := mSum_ok (t := 1) (z := 0) (by omega) hr hw (by omega) s1 s2
      rw [if_neg (by decide), if_neg (by decide), if_neg (by decide), if_neg (by decide), if_neg (by decide), if_pos rfl, show Mo_sumOf 1 0 M = _ from m0, bd_s, ← c0]
      rfl
  exact ⟨-1, M, M, by simp [Pf_count, h0, h1, h2, h3, h4, h5], by simp [Mo_count, h0, h1, h2, h3, h4, h5], hR⟩
