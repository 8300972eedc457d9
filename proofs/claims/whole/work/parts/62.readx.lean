/-! PURE: read, the end of the walk -/
theorem first_not (P : Nat → Prop) (n : Nat) : (∀ e, e < n → P e) ∨ ∃ E, E < n ∧ (∀ e, e < E → P e) ∧ ¬ P E := by
  induction n with
  | zero => exact .inl (fun e h => by omega)
  | succ n ih =>
    rcases ih with h | ⟨E, h1, h2, h3⟩
    · by_cases q : P n
      · exact .inl (fun e he => by
          by_cases e1 : e = n
          · subst e1; exact q
          · exact h e (by omega))
      · exact .inr ⟨n, by omega, h, q⟩
    · exact .inr ⟨E, by omega, h2, h3⟩
theorem L226_ok {k62 : Int32 → Int32 → Int32 → Int32 → Int32 → Int32 → Int32 → Mem → Option (Int32 × Mem)} {v : Int32} {D : Mem} : Mo_read_L226 k62 FU v 0 D = some (-20 - v, wra D 33 (fun k => if k < 35 then D 49 k else D 33 k)) := by
  obtain ⟨M', h1, h2⟩ := lp (fun m i M' => Mo_read_L226 k62 m v (nI i) M') (fun M' => some (-20 - v, M')) 35 (fun i M' => M' = wra D 33 (fun k => if k < i then D 49 k else D 33 k)) (fun m M' _ => by
      show Mo_read_L226 k62 (m + 1) v (nI 35) M' = _
      rw [Mo_read_L226, if_pos (by decide)]) (fun m i M' hi e => by
      refine ⟨wra D 33 (fun k => if k < i + 1 then D 49 k else D 33 k), rfl, ?_⟩
      show Mo_read_L226 k62 (m + 1) v (nI i) M' = Mo_read_L226 k62 m v (nI (i + 1)) _
      rw [Mo_read_L226, if_neg (show ¬ (35 : Int32) ≤ nI i from nI_ge (b := 35) hi (by omega)), if_pos (ibn hi (by omega)), if_pos (ibn hi (by omega)), ixn (by omega), e, wra_ne (a := 49) (by omega), wr_wra, nI_1]
      congr 2
      funext b
      grind) 35 FU 0 D (by omega) (FU_lt (by omega)) (by
      funext a b
      by_cases h : a = 33 <;> simp [wra_g, h])
  have h3 : Mo_read_L226 k62 FU v 0 D = some (-20 - v, M') := h2
  rw [h3, h1]
theorem L26_ok {v1 v2 v3 v4 : Int32} {D : Mem} : Mo_read_L26 FU v1 v2 v3 v4 0 D = Mo_read_L62 FU v1 v2 v3 v4 0 0 0 (wra D 49 (fun k => if k < 35 then D 33 k else D 49 k)) := by
  obtain ⟨M', h1, h2⟩ := lp (fun m i M' => Mo_read_L26 m v1 v2 v3 v4 (nI i) M') (fun M' => Mo_read_L62 FU v1 v2 v3 v4 0 0 0 M') 35 (fun i M' => M' = wra D 49 (fun k => if k < i then D 33 k else D 49 k)) (fun m M' _ => by
      show Mo_read_L26 (m + 1) v1 v2 v3 v4 (nI 35) M' = _
      rw [Mo_read_L26, if_pos (by decide)]) (fun m i M' hi e => by
      refine ⟨wra D 49 (fun k => if k < i + 1 then D 33 k else D 49 k), rfl, ?_⟩
      show Mo_read_L26 (m + 1) v1 v2 v3 v4 (nI i) M' = Mo_read_L26 m v1 v2 v3 v4 (nI (i + 1)) _
      rw [Mo_read_L26, if_neg (show ¬ (35 : Int32) ≤ nI i from nI_ge (b := 35) hi (by omega)), if_pos (ibn hi (by omega)), if_pos (ibn hi (by omega)), ixn (by omega), e, wra_ne (a := 33) (by omega), wr_wra, nI_1]
      congr 2
      funext b
      grind) 35 FU 0 D (by omega) (FU_lt (by omega)) (by
      funext a b
      by_cases h : a = 49 <;> simp [wra_g, h])
  have h3 : Mo_read_L26 FU v1 v2 v3 v4 0 D = Mo_read_L62 FU v1 v2 v3 v4 0 0 0 M' := h2
  rw [h3, h1]
theorem PRel.cgS {A B S S' : Nat → Int32} (h : PRel A B S) (e : ∀ k, k < 35 → S' k = S k) : PRel A B S' := by
  obtain ⟨p, r, w, hp, hr, hw, f1, f2, f3, s0, s1, s2, hv, hz⟩ := h
  refine ⟨p, r, w, hp, hr, hw, f1, f2, f3, by rw [e 0 (by omega)]; exact s0, by rw [e 1 (by omega)]; exact s1, by rw [e 2 (by omega)]; exact s2, fun t i j ht hi hj => ?_, hz⟩
  rw [e (3 + (16 * t + 4 * i + j)) (by omega)]
  exact hv t i j ht hi hj
/-- what read leaves -/
def RO (C D C' D' : Mem) : Prop := P2 C' D' ∧ (∀ y, y ≠ 6 → y ≠ 0 → C' y = C y) ∧ (∀ y, y ≠ 33 → y ≠ 32 → D' y = D y) ∧ ((C' 0 = C 0 ∧ D' 32 = D 32) ∨ ∃ f, (∀ j, C' 0 j = if j = 9 then f else C 0 j) ∧ ∀ j, D' 32 j = if j = 28 then f else D 32 j)
theorem RO.fin {C D Ce De : Mem} {f : Int32} (a4 : P2 Ce De) (a5 : ∀ y, y ≠ 6 → Ce y = C y) (a6 : ∀ y, y ≠ 33 → De y = D y) : RO C D (wr Ce 0 9 f) (wr De 32 28 f) :=
  ⟨PRel.mv a4 (wr_ne (by omega)) (wr_ne (by omega)) (wr_ne (by omega)), fun y h1 h2 => by rw [wr_ne h2, a5 y h1], fun y h1 h2 => by rw [wr_ne h2, a6 y h1], .inr ⟨f, fun j => by rw [wr_g, a5 0 (by omega)]; simp, fun j => by rw [wr_g, a6 32 (by omega)]; simp⟩⟩
theorem read_main {C D : Mem} {s cnt p r w : Nat} {sh : Option (Nat × Nat)} {ln0 pos : Int32} (hs : s < 4) (hc : cnt ≤ 10) (hl : ∃ a, a < 3 ∧ ln0 = nI a) (h : RD C D s sh p r w) (hb : ∀ i, i < 35 → D 49 i = D 33 i) : ∃ v C' D', Pf_read_L45 FU ln0 pos (nI cnt) (14 + 2 * s) 0 0 0 C = some (v, C') ∧ Mo_read_L62 FU (nI s) ln0 pos (nI cnt) 0 0 0 D = some (v, D') ∧ RO C D C' D' := by
  obtain ⟨hP, e1, e2, e3, hp, hr, hw, hSC, hSD, hdat⟩ := id h
  have e109 : ∀ (m E : Nat) (f : Int32) (Ce : Mem), Pf_read_L109 (m + 1) pos (14 + 2 * s) (nI E) f (nI E) Ce = some (nI E, wr Ce 0 9 f) := fun m E f Ce => by
    rw [Pf_read_L109, if_pos (Int32.le_refl _)]
  rcases first_not (okE C s sh p r w ln0 pos) cnt with hall | ⟨E, hE, hok, hno⟩
  · obtain ⟨Ce, De, a1, a2, a3, a4, a5, a6⟩ := walk hs hc hl h cnt (Nat.le_refl _) hall
    obtain ⟨m, hm⟩ : ∃ m, FU = m + 1 + cnt := ⟨FU - 1 - cnt, by have : (20 : Nat) < FU := FU_lt (by omega); omega⟩
    refine ⟨nI cnt, wr Ce 0 9 0, wr De 32 28 0, ?_, ?_, RO.fin a4 a5 a6⟩
    · rw [hm, a1 (m + 1), Pf_read_L45, if_pos (Int32.le_refl _), Pf_read_b106, hm, a2 (m + 1) cnt 0 (Nat.le_refl _) hc, e109]
    · rw [hm, a3 (m + 1), Mo_read_L62, if_pos (Int32.le_refl _), Mo_read_b268]
  · obtain ⟨Ce, De, a1, a2, a3, a4, a5, a6⟩ := walk hs hc hl h E (by omega) hok
    obtain ⟨m, hm⟩ : ∃ m, FU = m + 2 + E := ⟨FU - 2 - E, by have : (20 : Nat) < FU := FU_lt (by omega); omega⟩
    have hz := hzE hSC hok
    have hSDe : SD De s sh := by
      cases sh with
      | none => show De 46 s = -4; rw [a6 46 (by omega)]; exact hSD
      | some an =>
        obtain ⟨a, n⟩ := an
        obtain ⟨g1, g2, g3, g4⟩ := (show a < 3 ∧ n ≤ 40 ∧ D 46 s = nI a ∧ D 47 s = nI n from hSD)
        exact ⟨g1, g2, by rw [a6 46 (by omega)]; exact g3, by rw [a6 47 (by omega)]; exact g4⟩
    by_cases k1 : cdF sh ln0 pos E = 0
    · have k2 : ¬ Okv p r w (fun i => C (15 + 2 * s) ((pos.toInt + 4 * E).toNat + i)) := fun g => hno ⟨k1, g⟩
      obtain ⟨a, n, rfl, z1, z2⟩ := cdF_0 k1
      obtain ⟨h1, h2, h3, h4⟩ := (show a < 3 ∧ n ≤ 40 ∧ C (14 + 2 * s) 1 = nI a ∧ C (14 + 2 * s) 2 = nI n from hSC)
      obtain ⟨z, hzz⟩ : ∃ z : Nat, pos.toInt + 4 * E = z := ⟨(pos.toInt + 4 * E).toNat, by omega⟩
      rw [show (pos.toInt + 4 * E).toNat = z by omega] at k2
      obtain ⟨v, v1, v2⟩ := mayC (p := p) (r := r) (w := w) hs h2 h4 (show z + 4 ≤ n by omega) e1 e2 e3
      have v3 : v = 0 := by
        rcases v2 with g | g
        · exact absurd g.2 k2
        · exact g.1
      obtain ⟨d0, d1, d2⟩ : De 33 0 = nI p ∧ De 33 1 = nI r ∧ De 33 2 = nI w := by
        obtain ⟨p', r', w', hp', hr', hw', f1, f2, f3, s0, s1, s2, _⟩ := id a4
        have h7 := pr_le hp
        have h7' := pr_le hp'
        rw [a5 5 (by omega)] at f1 f2 f3
        have ep : p' = p := (nI_eq (by omega) (by omega)).mp (f1.symm.trans e1)
        have er : r' = r := (nI_eq (by omega) (by omega)).mp (f2.symm.trans e2)
        have ew : w' = w := (nI_eq (by omega) (by omega)).mp (f3.symm.trans e3)
        subst ep; subst er; subst ew
        exact ⟨s0, s1, s2⟩
      have mo : Mo_set (C (15 + 2 * s) z) (C (15 + 2 * s) (z + 1)) (C (15 + 2 * s) (z + 2)) (C (15 + 2 * s) (z + 3)) De = some (-1, De) := Mo_set_out d0 d1 d2 hp hr hw k2
      have dd : ∀ i, i < 40 → De 48 (40 * s + i) = C (15 + 2 * s) i := fun i hi => by rw [a6 48 (by omega)]; exact (hdat (by simp) i hi).symm
      have ei : 40 * nI s + pos + 4 * nI E = nI (40 * s + z) := by
        rw [show 40 * nI s + pos + 4 * nI E = 40 * nI s + (pos + 4 * nI E) by grind, posZ hzz, show (40 : Int32) = nI 40 from rfl, nIm, nIa]
      refine ⟨-20 - nI E, C, wra De 33 (fun k => if k < 35 then De 49 k else De 33 k), ?_, ?_, ?_, fun _ _ _ => rfl, fun y y1 _ => by rw [wra_ne y1, a6 y y1], .inl ⟨rfl, by rw [wra_ne (by omega), a6 32 (by omega)]⟩⟩
      · rw [hm, a1 (m + 2), Pf_read_L45, if_neg (nI_ge hE (by omega)), if_pos rfl, four_ok hs (by omega) hz hSC, bd_s, k1, if_pos rfl, posZ hzz, v1, bd_s, v3, if_pos rfl]
      · rw [hm, a3 (m + 2), Mo_read_L62, if_neg (nI_ge hE (by omega)), if_pos rfl, L77_ok hs (by omega) hSDe hl, k1, Mo_read_b164, if_pos rfl, ei, show nI (40 * s + z) + 1 = nI (40 * s + (z + 1)) from nIa (40 * s + z) 1, show nI (40 * s + z) + 2 = nI (40 * s + (z + 2)) from nIa (40 * s + z) 2, show nI (40 * s + z) + 3 = nI (40 * s + (z + 3)) from nIa (40 * s + z) 3, if_pos (ibn (by omega) (by omega)), if_pos (ibn (by omega) (by omega)), if_pos (ibn (by omega) (by omega)), if_pos (ibn (by omega) (by omega)), ixn (by omega), ixn (by omega), ixn (by omega), ixn (by omega), dd z (by omega), dd (z + 1) (by omega), dd (z + 2) (by omega), dd (z + 3) (by omega), mo, bd_s, if_neg (by decide), L226_ok]
      · refine PRel.cgS (S := D 33) hP (fun k hk => ?_)
        show wra De 33 (fun k => if k < 35 then De 49 k else De 33 k) 33 k = _
        rw [wra_g, if_pos rfl, if_pos hk, a6 49 (by omega), hb k hk]
    · refine ⟨nI E, wr Ce 0 9 (cdF sh ln0 pos E), wr De 32 28 (cdF sh ln0 pos E), ?_, ?_, RO.fin a4 a5 a6⟩
      · have hend : Pf_read_b106 pos (14 + 2 * s) (nI E) (cdF sh ln0 pos E) C = some (nI E, wr Ce 0 9 (cdF sh ln0 pos E)) := by
          rw [Pf_read_b106, hm, a2 (m + 2) E _ (Nat.le_refl _) (by omega), e109]
        rw [hm, a1 (m + 2), Pf_read_L45, if_neg (nI_ge hE (by omega)), if_pos rfl, four_ok hs (by omega) hz hSC, bd_s, if_neg k1, Pf_read_b100, Pf_read_L45, hend, if_neg k1]
        split <;> rfl
      · rw [hm, a3 (m + 2), Mo_read_L62, if_neg (nI_ge hE (by omega)), if_pos rfl, L77_ok hs (by omega) hSDe hl, Mo_read_b164, if_neg k1, Mo_read_b262, Mo_read_L62, if_neg k1, Mo_read_b268]
        split <;> rfl
