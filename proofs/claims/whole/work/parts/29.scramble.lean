/-! PURE: scramble -/
theorem got_eq (v : Int32) : jushr v 16 &&& 32767 = (v >>> ((16 : Int32) &&& 31)) &&& 32767 := by
  apply Int32.toBitVec_inj.mp
  rw [Int32.toBitVec_and, Int32.toBitVec_and]
  have e1 : (jushr v 16).toBitVec = v.toBitVec >>> 16 := rfl
  have e2 : (v >>> ((16 : Int32) &&& 31)).toBitVec = v.toBitVec.sshiftRight 16 := rfl
  rw [e1, e2]
  apply BitVec.eq_of_getLsbD_eq
  intro i hi
  rw [BitVec.getLsbD_and, BitVec.getLsbD_and]
  have hm : ∀ i < 32, 15 ≤ i → (32767 : Int32).toBitVec.getLsbD i = false := by decide
  rcases Nat.lt_or_ge i 15 with z | z
  · congr 1
    rw [BitVec.getLsbD_ushiftRight, BitVec.getLsbD_sshiftRight, if_pos (by omega)]
    simp
    omega
  · rw [hm i hi z]; simp
theorem got_n (y : Int32) : ∃ g, g < 32768 ∧ y &&& 32767 = nI g := by
  refine ⟨(y &&& 32767).toBitVec.toNat, ?_, ?_⟩
  · rw [Int32.toBitVec_and, BitVec.toNat_and]
    exact Nat.lt_of_le_of_lt Nat.and_le_right (by decide)
  · apply Int32.toBitVec_inj.mp
    apply BitVec.eq_of_toNat_eq
    show _ = (BitVec.ofNat 32 _).toNat
    rw [BitVec.toNat_ofNat, Nat.mod_eq_of_lt (BitVec.isLt _)]
theorem mix_ans {a b d f : Int32} {C C' : Mem} {r : Int32} (h : Pf_mix a b d f C = some (r, C')) : (r = 1 ∨ r = -1) ∧ (bd (Pf_mayMix a b d f C) fun r15 M13 => if r15 = 0 then (some (0, M13) : Option (Int32 × Mem)) else bv (Pa_mixLines 5 a b d f M13) fun M16 => some (1, M16)) = some (if r = 1 then 1 else 0, C') := by
  unfold Pf_mix at h
  obtain ⟨x, m, h1, h2⟩ := hB h
  rw [h1, bd_s]
  by_cases q : x = 0
  · rw [if_pos q] at h2 ⊢
    obtain ⟨rfl, rfl⟩ := hR h2
    exact ⟨Or.inr rfl, rfl⟩
  · rw [if_neg q] at h2 ⊢
    obtain ⟨m2, h3, h4⟩ := hV h2
    obtain ⟨rfl, rfl⟩ := hR h4
    rw [h3, bv_s]
    exact ⟨Or.inl rfl, rfl⟩
theorem scr_step {C D : Mem} (h : P2 C D) (v : Int32) : ∃ x C' D', (x = 0 ∨ x = 1) ∧ Pf_mixByNumber ((jushr v 16) &&& 32767) C = some (x, C') ∧ (∀ (n : Nat) (v2 v4 v5 v3 : Int32), (v3 * 1103515245) + 12345 = v → ¬ v2 ≤ v5 → Mo_scramble_L22 (n + 1) v2 v3 v4 v5 D = Mo_scramble_L22 n v2 v (v4 + x) (v5 + 1) D') ∧ P2 C' D' ∧ (∀ y, y ≠ 6 → C' y = C y) ∧ (∀ y, y ≠ 33 → D' y = D y) := by
  obtain ⟨p, r, w, hp, hr, hw, e1, e2, e3, s0, s1, s2, hv, hz⟩ := id h
  have h7 := pr_le hp
  obtain ⟨g, hg, eg⟩ := got_n (v >>> ((16 : Int32) &&& 31))
  have hz2 : g % 2 < 2 := Nat.mod_lt _ (by omega)
  have hl4 := lc4 (z := g % 2) hr hw
  have q1 : jrem (nI g) 2 = nI (g % 2) := jremN (p := 2) (by omega) (by omega) (by omega)
  have q2 : (1 : Int32) + nI (g % 2) = nI (1 + g % 2) := nIa 1 _
  have q3 : ib (nI (1 + g % 2)) 35 = true := ibn (by omega) (by omega)
  have q4 : D 33 (1 + g % 2) = nI (lc (g % 2) r w) := by
    unfold lc
    have ez : g % 2 = 0 ∨ g % 2 = 1 := by omega
    rcases ez with e | e <;> rw [e]
    · exact s1
    · exact s2
  have d2 : nI g / 2 = nI (g / 2) := pk_div (d := 2) (by omega) (by omega) (by omega)
  have d8 : nI g / 8 = nI (g / 8) := pk_div (d := 8) (by omega) (by omega) (by omega)
  have d32 : nI g / 32 = nI (g / 32) := pk_div (d := 32) (by omega) (by omega) (by omega)
  have b2 : g / 2 < 2 ^ 31 := by have := Nat.div_le_self g 2; omega
  have b8 : g / 8 < 2 ^ 31 := by have := Nat.div_le_self g 8; omega
  have b32 : g / 32 < 2 ^ 31 := by have := Nat.div_le_self g 32; omega
  by_cases hL : lc (g % 2) r w = 0
  · refine ⟨0, C, D, Or.inl rfl, ?_, ?_, h, fun _ _ => rfl, fun _ _ => rfl⟩
    · unfold Pf_mixByNumber
      rw [got_eq, eg, q1, linesOf_ok isP5 e2 e3 hz2, bd_s, hL, if_pos (show nI 0 = 0 from rfl)]
    · intro n v2 v4 v5 v3 ev hne
      rw [Mo_scramble_L22, if_neg hne, ev, eg, q1, q2, if_pos q3, ixn (by omega), q4, hL, if_pos (by decide)]
      unfold Mo_scramble_b120
      rw [Int32.add_zero]
  · obtain ⟨x, C', D', g1, g2, g3, g4, g5⟩ := mix_all h (nI (g % 2)) (nI (g / 2 % lc (g % 2) r w)) (nI (g / 8 % lc (g % 2) r w)) (nI (g / 32 % p))
    obtain ⟨hx, hm⟩ := mix_ans g1
    refine ⟨if x = 1 then 1 else 0, C', D', by rcases hx with rfl | rfl <;> simp, ?_, ?_, g3, g4, g5⟩
    · unfold Pf_mixByNumber
      rw [got_eq, eg, q1, linesOf_ok isP5 e2 e3 hz2, bd_s, if_neg (nI_ne0 (by omega) (by omega)), d2, reduceN b2 (by omega) (by omega), bd_s, d8, reduceN b8 (by omega) (by omega), bd_s, d32, e1, reduceN b32 (by omega) (by omega), bd_s]
      exact hm
    · intro n v2 v4 v5 v3 ev hne
      rw [Mo_scramble_L22, if_neg hne, ev, eg, q1, q2, if_pos q3, ixn (by omega), q4, if_neg (nI_nle (by omega) (by omega)), if_neg (nI_ne0 (by omega) (by omega)), if_neg (nI_ne0 (by omega) (by omega)), s0, if_neg (nI_ne0 (by omega) (by omega)), d2, d8, d32, jremN b2 (by omega) (by omega), jremN b8 (by omega) (by omega), jremN b32 (by omega) (by omega), g2, bd_s]
      unfold Mo_scramble_b114 Mo_scramble_b120
      rcases hx with rfl | rfl
      · rw [if_pos rfl, flag_ok (Or.inr rfl), bd_s, if_pos rfl]
      · rw [if_neg (by decide), flag_ok (Or.inl rfl), bd_s, if_neg (by decide)]
theorem scr_loop {n : Nat} (hn : n ≤ 100) : ∀ d fu t (C D : Mem) (cnt seed : Int32), t + d = n → d < fu → P2 C D → ∃ cnt' C' D', Pf_scramble_L20 fu (nI n) cnt seed (nI t) C = some (cnt', C') ∧ Mo_scramble_L22 fu (nI n) seed cnt (nI t) D = some (cnt', D') ∧ P2 C' D' ∧ (∀ y, y ≠ 6 → C' y = C y) ∧ (∀ y, y ≠ 33 → D' y = D y) := by
  intro d
  induction d with
  | zero =>
    intro fu t C D cnt seed h1 h2 h
    obtain ⟨fu, rfl⟩ : ∃ q, fu = q + 1 := ⟨fu - 1, by omega⟩
    have : t = n := by omega
    subst this
    exact ⟨cnt, C, D, by rw [Pf_scramble_L20, if_pos (Int32.le_refl _)], by rw [Mo_scramble_L22, if_pos (Int32.le_refl _)], h, fun _ _ => rfl, fun _ _ => rfl⟩
  | succ d ih =>
    intro fu t C D cnt seed h1 h2 h
    obtain ⟨fu, rfl⟩ : ∃ q, fu = q + 1 := ⟨fu - 1, by omega⟩
    have hne : ¬ nI n ≤ nI t := nI_ge (by omega) (by omega)
    obtain ⟨x, C1, D1, hx, g1, g2, g3, g4, g5⟩ := scr_step h (seed * 1103515245 + 12345)
    obtain ⟨cnt', C2, D2, k1, k2, k3, k4, k5⟩ := ih fu (t + 1) C1 D1 (cnt + x) (seed * 1103515245 + 12345) (by omega) (by omega) g3
    refine ⟨cnt', C2, D2, ?_, ?_, k3, fun y hy => by rw [k4 y hy, g4 y hy], fun y hy => by rw [k5 y hy, g5 y hy]⟩
    · rw [Pf_scramble_L20, if_neg hne, g1, bd_s]
      unfold Pf_scramble_b56
      rw [nI_1]
      rcases hx with rfl | rfl
      · rw [if_pos rfl, ← k1, Int32.add_zero]
      · rw [if_neg (by decide), ← k1]
    · rw [g2 fu (nI n) cnt (nI t) seed rfl hne, nI_1, k2]
theorem op_scramble : Op_scramble Rel := fun M a b hR => hR.two (fC := fun C => Pf_scramble a b C) (fD := fun D => Mo_scramble a b D) (fun C D h => by
  by_cases h1 : 0 ≤ b ∧ b < nI 101
  · obtain ⟨n, hn, rfl⟩ := ran (n := 101) (by omega) h1.1 h1.2
    obtain ⟨cnt, C', D', g1, g2, g3, g4, g5⟩ := scr_loop (n := n) (by omega) n FU 0 C D 0 a (by omega) (FU_lt (by omega)) h
    refine ⟨cnt, C', D', ?_, ?_, g3, fun x _ hx => g4 x hx, fun x hx _ => g5 x hx⟩
    · show Pf_scramble _ _ C = _
      unfold Pf_scramble
      rw [if_neg (Int32.not_lt.mpr h1.1), if_pos (show nI n ≤ 100 from nI_le (b := 100) (by omega) (by omega))]
      exact g1
    · show Mo_scramble _ _ D = _
      unfold Mo_scramble
      rw [show (100 : Int64) = (nI 100).toInt64 from rfl, in_0l (by omega), if_pos h1, bd_s, if_neg (by decide)]
      exact g2
  · refine ⟨-1, C, D, ?_, ?_, h, fun _ _ _ => rfl, fun _ _ _ => rfl⟩
    · show Pf_scramble _ _ C = _
      unfold Pf_scramble
      by_cases q1 : b < 0
      · rw [if_pos q1]
      · rw [if_neg q1, if_neg (fun q2 => h1 ⟨Int32.not_lt.mp q1, by
          rw [Int32.lt_iff_toInt_lt, nI_toInt (by omega)]
          have q3 : b.toInt ≤ 100 := by
            have := Int32.le_iff_toInt_le.mp q2
            exact this
          omega⟩)]
    · show Mo_scramble _ _ D = _
      unfold Mo_scramble
      rw [show (100 : Int64) = (nI 100).toInt64 from rfl, in_0l (by omega), if_neg h1, bd_s, if_pos rfl])
