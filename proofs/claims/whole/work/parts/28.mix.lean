/-! PURE: mix, times, swap, scramble -/
theorem hasLine_ok {r w : Nat} {M : Mem} (e2 : M 5 2 = nI r) (e3 : M 5 3 = nI w) (hr : r ≤ 4) (hw : w ≤ 4) (a b : Int32) : Pa_hasLine 5 a b M = some (if (0 ≤ a ∧ a < 2) ∧ 0 ≤ b ∧ b < nI (lc (ix a) r w) then 1 else 0, M) := by
  unfold Pa_hasLine
  rw [if_pos isP5, isSide_ok, bd_s]
  by_cases h : 0 ≤ a ∧ a < 2
  · obtain ⟨z, hz, rfl⟩ := ran (n := 2) (by omega) h.1 h.2
    rw [if_pos h, if_neg (by decide), linesOf_ok isP5 e2 e3 hz, bd_s, ixn (by omega)]
    by_cases q1 : b < 0
    · rw [if_pos q1, if_neg (fun g => Int32.not_le.mpr q1 g.2.1)]
    · rw [if_neg q1]
      by_cases q2 : nI (lc z r w) ≤ b
      · rw [if_pos q2, if_neg (fun g => Int32.not_le.mpr g.2.2 q2)]
      · rw [if_neg q2, if_pos ⟨h, Int32.not_lt.mp q1, Int32.not_le.mp q2⟩]
  · rw [if_neg h, if_pos rfl, if_neg (fun g => h g.1)]
theorem isLine_ok {r w : Nat} {M : Mem} (e1 : M 33 1 = nI r) (e2 : M 33 2 = nI w) (hr : r ≤ 4) (hw : w ≤ 4) (a b : Int32) : Mo_isLine a b M = some (if (0 ≤ a ∧ a < 2) ∧ 0 ≤ b ∧ b < nI (lc (ix a) r w) then 1 else 0, M) := by
  unfold Mo_isLine Mo_isPart
  rw [in_1, bd_s]
  by_cases h : 0 ≤ a ∧ a < 2
  · obtain ⟨z, hz, rfl⟩ := ran (n := 2) (by omega) h.1 h.2
    have q1 : (1 : Int32) + nI z = nI (1 + z) := nIa 1 z
    have h4 := lc4 (z := z) hr hw
    have q2 : M 33 (1 + z) = nI (lc z r w) := by
      unfold lc
      have ez : z = 0 ∨ z = 1 := by omega
      rcases ez with rfl | rfl
      · exact e1
      · exact e2
    rw [if_pos h, if_pos (show z01 1 = true from rfl), bd_s, if_neg (by decide), q1, if_pos (ibn (by omega) (by omega)), ixn (by omega), ixn (by omega), q2, in_0p (by omega), bd_s]
    by_cases q3 : 0 ≤ b ∧ b < nI (lc z r w)
    · rw [if_pos q3, if_neg (by decide), if_pos ⟨h, q3⟩]
    · rw [if_neg q3, if_pos rfl, if_neg (fun g => q3 g.2)]
  · rw [if_neg h, if_pos (show z01 0 = true from rfl), bd_s, if_pos rfl, if_neg (fun g => h g.1)]
theorem isFactor_ok {p : Nat} {M : Mem} (e1 : M 5 1 = nI p) (a : Int32) : Pf_isFactor a M = some (if 1 ≤ a ∧ a < nI p then 1 else 0, M) := by
  unfold Pf_isFactor
  rw [e1]
  by_cases q1 : a < 1
  · rw [if_pos q1, if_neg (fun g => Int32.not_le.mpr q1 g.1)]
  rw [if_neg q1]
  by_cases q2 : nI p ≤ a
  · rw [if_pos q2, if_neg (fun g => Int32.not_le.mpr g.2 q2)]
  rw [if_neg q2, if_pos ⟨Int32.not_lt.mp q1, Int32.not_le.mp q2⟩]
theorem isTimes_ok {p : Nat} {M : Mem} (e0 : M 33 0 = nI p) (hp : pr p) (a : Int32) : Mo_isTimes a M = some (if 1 ≤ a ∧ a < nI p then 1 else 0, M) := by
  have h7 := pr_le hp
  unfold Mo_isTimes
  rw [e0, in_1p (by omega), bd_s]
  by_cases q : 1 ≤ a ∧ a < nI p
  · rw [if_pos q, if_pos (show z01 1 = true from rfl)]
  · rw [if_neg q, if_pos (show z01 0 = true from rfl)]
theorem line_of {a b : Int32} {r w : Nat} (hr : r ≤ 4) (hw : w ≤ 4) (h : (0 ≤ a ∧ a < 2) ∧ 0 ≤ b ∧ b < nI (lc (ix a) r w)) : ∃ z i, z < 2 ∧ i < lc z r w ∧ a = nI z ∧ b = nI i := by
  obtain ⟨z, hz, rfl⟩ := ran (n := 2) (by omega) h.1.1 h.1.2
  rw [ixn (by omega)] at h
  have h4 := lc4 (z := z) hr hw
  obtain ⟨i, hi, rfl⟩ := ran (n := lc z r w) (by omega) h.2.1 h.2.2
  exact ⟨z, i, hz, hi, rfl, rfl⟩
theorem line_in {z i r w : Nat} (hr : r ≤ 4) (hw : w ≤ 4) (hz : z < 2) (hi : i < lc z r w) : (0 ≤ nI z ∧ nI z < 2) ∧ 0 ≤ nI i ∧ nI i < nI (lc (ix (nI z)) r w) := by
  have h4 := lc4 (z := z) hr hw
  rw [ixn (by omega)]
  exact ⟨⟨nI_pos' (by omega), nI_lt (b := 2) hz (by omega)⟩, nI_pos' (by omega), nI_lt hi (by omega)⟩
theorem fac_of {a : Int32} {p : Nat} (hp : pr p) (h : 1 ≤ a ∧ a < nI p) : ∃ f, 1 ≤ f ∧ f < p ∧ a = nI f := by
  have h7 := pr_le hp
  have h0 : (0 : Int32) ≤ a := Int32.le_trans (by decide) h.1
  obtain ⟨f, hf, rfl⟩ := ran (n := p) (by omega) h0 h.2
  exact ⟨f, (nI_leI (a := 1) (b := f) (by omega) (by omega)).mp h.1, hf, rfl⟩
/-- the places of lines, told by the relation -/
theorem hvB {B S : Nat → Int32} {p r w z : Nat} (hv : ∀ t i j, t < 2 → i < r → j < w → ∃ v, v < p ∧ B (16 * t + 4 * i + j) = nI v ∧ S (3 + (16 * t + 4 * i + j)) = nI v) (hz : z < 2) : ∀ t l n, t < 2 → l < lc z r w → n < le_ z r w → ∃ v, v < p ∧ B (pn z t l n) = nI v ∧ S (3 + pn z t l n) = nI v := by
  intro t l n ht hl hn
  have ez : z = 0 ∨ z = 1 := by omega
  rcases ez with rfl | rfl
  · obtain ⟨v, g⟩ := hv t l n ht hl hn
    exact ⟨v, by simpa [pn, Nat.add_assoc] using g⟩
  · obtain ⟨v, g⟩ := hv t n l ht hn hl
    exact ⟨v, by simpa [pn, Nat.add_assoc] using g⟩
/-- what a pair of memories tells of the pair of tables -/
def P2 (C D : Mem) : Prop := PRel (C 5) (C 6) (D 33)
theorem mix2 {C D : Mem} (h : P2 C D) {p r w z i j f : Nat} (hz : z < 2) (hp : pr p) (hr : r ≤ 4) (hw : w ≤ 4) (e1 : C 5 1 = nI p) (e2 : C 5 2 = nI r) (e3 : C 5 3 = nI w) (s0 : D 33 0 = nI p) (s1 : D 33 1 = nI r) (s2 : D 33 2 = nI w)
    (hv : ∀ t i j, t < 2 → i < r → j < w → ∃ v, v < p ∧ C 6 (16 * t + 4 * i + j) = nI v ∧ D 33 (3 + (16 * t + 4 * i + j)) = nI v) (hzz : ∀ t i j, t < 2 → i < 4 → j < 4 → r ≤ i ∨ w ≤ j → C 6 (16 * t + 4 * i + j) = 0)
    (hi : i < lc z r w) (hj : j < lc z r w) (hij : i ≠ j) (hf : f < p) : ∃ C' D', Pa_mixLines 5 (nI z) (nI i) (nI j) (nI f) C = some C' ∧ Mo_mix_L37 FU (nI z) (nI i) (nI j) (nI f) 0 D = some (1, D') ∧ P2 C' D' ∧ (∀ x, x ≠ 6 → C' x = C x) ∧ (∀ x, x ≠ 33 → D' x = D x) := by
  have h7 := pr_le hp
  have hvv := hvB hv hz
  obtain ⟨C', ⟨g1, g2⟩, g3⟩ := mix_c (c := 5) (f := f) isP5 e1 e2 e3 hp hr hw hz (fun t l n a b c => by obtain ⟨v, q1, q2, -⟩ := hvv t l n a b c; exact ⟨v, q1, q2⟩) hi hj (by omega) hij
  obtain ⟨D', ⟨k1, k2⟩, k3⟩ := mix_m (f := f) s0 s1 s2 hp hr hw hz (fun t l n a b c => by obtain ⟨v, q1, -, q2⟩ := hvv t l n a b c; exact ⟨v, q1, q2⟩) hi hj (by omega) hij
  have hl4 := lc4 (z := z) hr hw
  refine ⟨C', D', g3, k3, ?_, g1, k1⟩
  refine (PRel.line (A := C 5) (B := C 6) (S := D 33) hp hr hw hz e1 e2 e3 s0 s1 s2 hzz g2 k2 (fun t l n ht hl hn => ?_) (fun t l n ht hl hn hlc => ?_)).mv (g1 5 (by omega)) rfl rfl
  · by_cases hli : l = i
    · subst hli
      obtain ⟨a, a1, a2, a3⟩ := hvv t l n ht hl hn
      obtain ⟨b, b1, b2, b3⟩ := hvv t j n ht hj hn
      refine ⟨(a + f * b) % p, Nat.mod_lt _ (by omega), ?_, ?_⟩
      · rw [if_pos rfl, Nat.zero_add, Nat.zero_add, show C (5 + 1) (pn z t l n) = nI a from a2, show C (5 + 1) (pn z t j n) = nI b from b2, ixn (by omega), ixn (by omega)]
      · rw [if_pos rfl, a3, b3, ixn (by omega), ixn (by omega)]
    · obtain ⟨v, v1, v2, v3⟩ := hvv t l n ht hl hn
      exact ⟨v, v1, by rw [if_neg hli, Nat.zero_add]; exact v2, by rw [if_neg hli]; exact v3⟩
  · rw [if_neg (by omega)]
theorem mix_all {C D : Mem} (h : P2 C D) (a b d f : Int32) : ∃ r C' D', Pf_mix a b d f C = some (r, C') ∧ Mo_mix a b d f D = some (r, D') ∧ P2 C' D' ∧ (∀ x, x ≠ 6 → C' x = C x) ∧ (∀ x, x ≠ 33 → D' x = D x) := by
  obtain ⟨p, r, w, hp, hr, hw, e1, e2, e3, s0, s1, s2, hv, hz⟩ := id h
  have no : (r' : Int32) → Pf_mix a b d f C = some (r', C) → Mo_mix a b d f D = some (r', D) → ∃ r C' D', Pf_mix a b d f C = some (r, C') ∧ Mo_mix a b d f D = some (r, D') ∧ P2 C' D' ∧ (∀ x, x ≠ 6 → C' x = C x) ∧ (∀ x, x ≠ 33 → D' x = D x) := fun r' q1 q2 => ⟨r', C, D, q1, q2, h, fun _ _ => rfl, fun _ _ => rfl⟩
  by_cases h1 : (0 ≤ a ∧ a < 2) ∧ 0 ≤ b ∧ b < nI (lc (ix a) r w)
  · by_cases h2 : (0 ≤ a ∧ a < 2) ∧ 0 ≤ d ∧ d < nI (lc (ix a) r w)
    · by_cases h3 : b = d
      · refine no (-1) ?_ ?_
        · unfold Pf_mix Pf_mayMix
          rw [if_pos h3, bd_s, if_pos rfl]
        · unfold Mo_mix
          rw [isLine_ok s1 s2 hr hw, if_pos h1, bd_s, if_neg (by decide), isLine_ok s1 s2 hr hw, if_pos h2, bd_s, if_neg (by decide), if_pos h3]
      · by_cases h4 : 1 ≤ f ∧ f < nI p
        · obtain ⟨z, i, hzz, hi, rfl, rfl⟩ := line_of hr hw h1
          obtain ⟨z', j, hz', hj, ez, rfl⟩ := line_of hr hw h2
          obtain ⟨g, hg1, hg, rfl⟩ := fac_of hp h4
          have h7 := pr_le hp
          have ezz : z = z' := (nI_eq (by omega) (by omega)).mp ez
          subst ezz
          have hl4 := lc4 (z := z) hr hw
          have hij : i ≠ j := fun q => h3 (by rw [q])
          obtain ⟨C', D', g1, g2, g3, g4, g5⟩ := mix2 h hzz hp hr hw e1 e2 e3 s0 s1 s2 hv hz hi hj hij hg
          refine ⟨1, C', D', ?_, ?_, g3, g4, g5⟩
          · unfold Pf_mix Pf_mayMix
            rw [if_neg h3, hasLine_ok e2 e3 hr hw, if_pos h1, bd_s, if_neg (by decide), hasLine_ok e2 e3 hr hw, if_pos h2, bd_s, if_neg (by decide), isFactor_ok e1, if_pos h4, bd_s, if_neg (by decide), bd_s, if_neg (by decide), g1, bv_s]
          · unfold Mo_mix
            rw [isLine_ok s1 s2 hr hw, if_pos h1, bd_s, if_neg (by decide), isLine_ok s1 s2 hr hw, if_pos h2, bd_s, if_neg (by decide), if_neg h3, isTimes_ok s0 hp, if_pos h4, bd_s, if_neg (by decide), g2]
        · refine no (-1) ?_ ?_
          · unfold Pf_mix Pf_mayMix
            rw [if_neg h3, hasLine_ok e2 e3 hr hw, if_pos h1, bd_s, if_neg (by decide), hasLine_ok e2 e3 hr hw, if_pos h2, bd_s, if_neg (by decide), isFactor_ok e1, if_neg h4, bd_s, if_pos rfl, bd_s, if_pos rfl]
          · unfold Mo_mix
            rw [isLine_ok s1 s2 hr hw, if_pos h1, bd_s, if_neg (by decide), isLine_ok s1 s2 hr hw, if_pos h2, bd_s, if_neg (by decide), if_neg h3, isTimes_ok s0 hp, if_neg h4, bd_s, if_pos rfl]
    · refine no (-1) ?_ ?_
      · unfold Pf_mix Pf_mayMix
        by_cases h3 : b = d
        · rw [if_pos h3, bd_s, if_pos rfl]
        · rw [if_neg h3, hasLine_ok e2 e3 hr hw, if_pos h1, bd_s, if_neg (by decide), hasLine_ok e2 e3 hr hw, if_neg h2, bd_s, if_pos rfl, bd_s, if_pos rfl]
      · unfold Mo_mix
        rw [isLine_ok s1 s2 hr hw, if_pos h1, bd_s, if_neg (by decide), isLine_ok s1 s2 hr hw, if_neg h2, bd_s, if_pos rfl]
  · refine no (-1) ?_ ?_
    · unfold Pf_mix Pf_mayMix
      by_cases h3 : b = d
      · rw [if_pos h3, bd_s, if_pos rfl]
      · rw [if_neg h3, hasLine_ok e2 e3 hr hw, if_neg h1, bd_s, if_pos rfl, bd_s, if_pos rfl]
    · unfold Mo_mix
      rw [isLine_ok s1 s2 hr hw, if_neg h1, bd_s, if_pos rfl]
/-- a step of the pair alone: class, then reference -/
theorem Rel.two {M : Mem} (hR : Rel M) {fC fD : Mem → Option (Int32 × Mem)} (h : ∀ C D, P2 C D → ∃ r C' D', fC C = some (r, C') ∧ fD D = some (r, D') ∧ P2 C' D' ∧ (∀ x, x ≠ 5 → x ≠ 6 → C' x = C x) ∧ (∀ x, x ≠ 33 → x ≠ 43 → D' x = D x)) : ∃ (r : Int32) (M1 M2 : Mem), fC M = some (r, M1) ∧ fD M1 = some (r, M2) ∧ Rel M2 := by
  obtain ⟨r, C', D', g1, g2, g3, g4, g5⟩ := h M M hR.2.1
  have hp : P2 M C' := by
    unfold P2
    rw [g4 33 (by omega) (by omega)]
    exact hR.2.1
  obtain ⟨r2, C2, D2, k1, k2, k3, k4, k5⟩ := h M C' hp
  obtain ⟨rfl, rfl⟩ : r2 = r ∧ C2 = C' := by
    have := k1.symm.trans g1
    cases this
    exact ⟨rfl, rfl⟩
  refine ⟨r2, C2, D2, k1, k2, hR.pair (fun c a1 a2 a3 a4 a5 a6 _ => by rw [k5 c a3 a5, g4 c a1 a2]) (by rw [k5 32 (by omega) (by omega), g4 32 (by omega) (by omega)]) ?_⟩
  rw [k5 5 (by omega) (by omega), k5 6 (by omega) (by omega)]
  exact k3
theorem op_mix : Op_mix Rel := fun M a b d f hR => hR.two (fC := fun C => Pf_mix a b d f C) (fD := fun D => Mo_mix a b d f D) (fun C D h => by
  obtain ⟨r, C', D', g1, g2, g3, g4, g5⟩ := mix_all h a b d f
  exact ⟨r, C', D', g1, g2, g3, fun x _ hx => g4 x hx, fun x hx _ => g5 x hx⟩)
theorem op_times : Op_times Rel := fun M a b f hR => hR.two (fC := fun C => Pf_times a b f C) (fD := fun D => Mo_times a b f D) (fun C D h => by
  obtain ⟨p, r, w, hp, hr, hw, e1, e2, e3, s0, s1, s2, hv, hz⟩ := id h
  have h7 := pr_le hp
  have no : (r' : Int32) → Pf_times a b f C = some (r', C) → Mo_times a b f D = some (r', D) → ∃ r C' D', Pf_times a b f C = some (r, C') ∧ Mo_times a b f D = some (r, D') ∧ P2 C' D' ∧ (∀ x, x ≠ 5 → x ≠ 6 → C' x = C x) ∧ (∀ x, x ≠ 33 → x ≠ 43 → D' x = D x) := fun r' q1 q2 => ⟨r', C, D, q1, q2, h, fun _ _ _ => rfl, fun _ _ _ => rfl⟩
  by_cases h1 : (0 ≤ a ∧ a < 2) ∧ 0 ≤ b ∧ b < nI (lc (ix a) r w)
  · by_cases h4 : 1 ≤ f ∧ f < nI p
    · obtain ⟨z, i, hzz, hi, rfl, rfl⟩ := line_of hr hw h1
      obtain ⟨g, hg1, hg, rfl⟩ := fac_of hp h4
      have hl4 := lc4 (z := z) hr hw
      have hvv := hvB hv hzz
      obtain ⟨C', ⟨g1, g2⟩, g3⟩ := times_c (c := 5) (f := g) isP5 e1 e2 e3 hp hr hw hzz (fun t l n a b c => by obtain ⟨v, q1, q2, -⟩ := hvv t l n a b c; exact ⟨v, q1, q2⟩) hi (by omega)
      obtain ⟨D', ⟨k1, k2⟩, k3⟩ := times_m (f := g) s0 s1 s2 hp hr hw hzz (fun t l n a b c => by obtain ⟨v, q1, -, q2⟩ := hvv t l n a b c; exact ⟨v, q1, q2⟩) hi (by omega)
      refine ⟨1, C', D', ?_, ?_, ?_, fun x _ hx => g1 x hx, fun x hx _ => k1 x hx⟩
      · show Pf_times _ _ _ C = _
        unfold Pf_times
        rw [hasLine_ok e2 e3 hr hw, if_pos h1, bd_s, if_neg (by decide), isFactor_ok e1, if_pos h4, bd_s, if_neg (by decide), g3, bv_s]
      · show Mo_times _ _ _ D = _
        unfold Mo_times
        rw [isLine_ok s1 s2 hr hw, if_pos h1, bd_s, if_neg (by decide), isTimes_ok s0 hp, if_pos h4, bd_s, if_neg (by decide), k3]
      · refine (PRel.line (A := C 5) (B := C 6) (S := D 33) hp hr hw hzz e1 e2 e3 s0 s1 s2 hz g2 k2 (fun t l n ht hl hn => ?_) (fun t l n ht hl hn hlc => ?_)).mv (g1 5 (by omega)) rfl rfl
        · by_cases hli : l = i
          · subst hli
            obtain ⟨x, a1, a2, a3⟩ := hvv t l n ht hl hn
            refine ⟨(g * x) % p, Nat.mod_lt _ (by omega), ?_, ?_⟩
            · rw [if_pos rfl, Nat.zero_add, show C (5 + 1) (pn z t l n) = nI x from a2, ixn (by omega)]
            · rw [if_pos rfl, a3, ixn (by omega)]
          · obtain ⟨v, v1, v2, v3⟩ := hvv t l n ht hl hn
            exact ⟨v, v1, by rw [if_neg hli, Nat.zero_add]; exact v2, by rw [if_neg hli]; exact v3⟩
        · rw [if_neg (by omega)]
    · refine no (-1) ?_ ?_
      · unfold Pf_times
        rw [hasLine_ok e2 e3 hr hw, if_pos h1, bd_s, if_neg (by decide), isFactor_ok e1, if_neg h4, bd_s, if_pos rfl]
      · unfold Mo_times
        rw [isLine_ok s1 s2 hr hw, if_pos h1, bd_s, if_neg (by decide), isTimes_ok s0 hp, if_neg h4, bd_s, if_pos rfl]
  · refine no (-1) ?_ ?_
    · unfold Pf_times
      rw [hasLine_ok e2 e3 hr hw, if_neg h1, bd_s, if_pos rfl]
    · unfold Mo_times
      rw [isLine_ok s1 s2 hr hw, if_neg h1, bd_s, if_pos rfl])
theorem op_swap : Op_swap Rel := fun M a b d hR => hR.two (fC := fun C => Pf_swap a b d C) (fD := fun D => Mo_swap a b d D) (fun C D h => by
  obtain ⟨p, r, w, hp, hr, hw, e1, e2, e3, s0, s1, s2, hv, hz⟩ := id h
  have h7 := pr_le hp
  have no : (r' : Int32) → Pf_swap a b d C = some (r', C) → Mo_swap a b d D = some (r', D) → ∃ r C' D', Pf_swap a b d C = some (r, C') ∧ Mo_swap a b d D = some (r, D') ∧ P2 C' D' ∧ (∀ x, x ≠ 5 → x ≠ 6 → C' x = C x) ∧ (∀ x, x ≠ 33 → x ≠ 43 → D' x = D x) := fun r' q1 q2 => ⟨r', C, D, q1, q2, h, fun _ _ _ => rfl, fun _ _ _ => rfl⟩
  by_cases h1 : (0 ≤ a ∧ a < 2) ∧ 0 ≤ b ∧ b < nI (lc (ix a) r w)
  · by_cases h2 : (0 ≤ a ∧ a < 2) ∧ 0 ≤ d ∧ d < nI (lc (ix a) r w)
    · obtain ⟨z, i, hzz, hi, rfl, rfl⟩ := line_of hr hw h1
      obtain ⟨z', j, hz', hj, ez, rfl⟩ := line_of hr hw h2
      have ezz : z = z' := (nI_eq (by omega) (by omega)).mp ez
      subst ezz
      have hl4 := lc4 (z := z) hr hw
      have hvv := hvB hv hzz
      obtain ⟨C', ⟨g1, g2⟩, g3⟩ := swap_c (c := 5) isP5 e1 e2 e3 hp hr hw hzz (fun t l n a b c => by obtain ⟨v, q1, q2, -⟩ := hvv t l n a b c; exact ⟨v, q1, q2⟩) hi hj
      obtain ⟨D', ⟨k1, k2⟩, k3⟩ := swap_m s0 s1 s2 hp hr hw hzz (fun t l n a b c => by obtain ⟨v, q1, -, q2⟩ := hvv t l n a b c; exact ⟨v, q1, q2⟩) hi hj
      refine ⟨1, C', D', ?_, ?_, ?_, fun x _ hx => g1 x hx, fun x hx _ => k1 x hx⟩
      · show Pf_swap _ _ _ C = _
        unfold Pf_swap
        rw [hasLine_ok e2 e3 hr hw, if_pos h1, bd_s, if_neg (by decide), hasLine_ok e2 e3 hr hw, if_pos h2, bd_s, if_neg (by decide), g3, bv_s]
      · show Mo_swap _ _ _ D = _
        unfold Mo_swap
        rw [isLine_ok s1 s2 hr hw, if_pos h1, bd_s, if_neg (by decide), isLine_ok s1 s2 hr hw, if_pos h2, bd_s, if_neg (by decide), k3]
      · refine (PRel.line (A := C 5) (B := C 6) (S := D 33) hp hr hw hzz e1 e2 e3 s0 s1 s2 hz g2 k2 (fun t l n ht hl hn => ?_) (fun t l n ht hl hn hlc => ?_)).mv (g1 5 (by omega)) rfl rfl
        · have hs : (if l = i then j else if l = j then i else l) < lc z r w := by grind
          obtain ⟨v, v1, v2, v3⟩ := hvv t _ n ht hs hn
          exact ⟨v, v1, by rw [Nat.zero_add]; exact v2, v3⟩
        · have q1 : ¬ l = i := by omega
          have q2 : ¬ l = j := by omega
          simp only [if_neg q1, if_neg q2]
    · refine no (-1) ?_ ?_
      · unfold Pf_swap
        rw [hasLine_ok e2 e3 hr hw, if_pos h1, bd_s, if_neg (by decide), hasLine_ok e2 e3 hr hw, if_neg h2, bd_s, if_pos rfl]
      · unfold Mo_swap
        rw [isLine_ok s1 s2 hr hw, if_pos h1, bd_s, if_neg (by decide), isLine_ok s1 s2 hr hw, if_neg h2, bd_s, if_pos rfl]
  · refine no (-1) ?_ ?_
    · unfold Pf_swap
      rw [hasLine_ok e2 e3 hr hw, if_neg h1, bd_s, if_pos rfl]
    · unfold Mo_swap
      rw [isLine_ok s1 s2 hr hw, if_neg h1, bd_s, if_pos rfl])
