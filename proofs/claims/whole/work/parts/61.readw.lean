/-! PURE: read, the walk over the fine entries -/
theorem okE_n {C : Mem} {s p r w e : Nat} {sh : Option (Nat × Nat)} {ln0 pos : Int32} (hS : SC C s sh) (h : okE C s sh p r w ln0 pos e) : pos.toInt + 4 * e + 4 ≤ 40 := by
  obtain ⟨a, n, rfl, z1, z2⟩ := cdF_0 h.1
  obtain ⟨h1, h2, h3, h4⟩ := (show a < 3 ∧ n ≤ 40 ∧ C (14 + 2 * s) 1 = nI a ∧ C (14 + 2 * s) 2 = nI n from hS)
  omega
theorem hzE {C : Mem} {s p r w e : Nat} {sh : Option (Nat × Nat)} {ln0 pos : Int32} (hS : SC C s sh) (h : ∀ e', e' < e → okE C s sh p r w ln0 pos e') : pos.toInt + 4 * e < 2 ^ 31 := by
  cases e with
  | zero => have := Int32.toInt_lt pos; omega
  | succ e =>
    have := okE_n hS (h e (by omega))
    omega
theorem walk {C D : Mem} {s cnt p r w : Nat} {sh : Option (Nat × Nat)} {ln0 pos : Int32} (hs : s < 4) (hc : cnt ≤ 10) (hl : ∃ a, a < 3 ∧ ln0 = nI a) (h : RD C D s sh p r w) : ∀ E, E ≤ cnt → (∀ e, e < E → okE C s sh p r w ln0 pos e) → ∃ Ce De, (∀ m, Pf_read_L45 (m + E) ln0 pos (nI cnt) (14 + 2 * s) 0 0 0 C = Pf_read_L45 m ln0 pos (nI cnt) (14 + 2 * s) (nI E) 0 (nI E) C) ∧ (∀ m tot f, E ≤ tot → tot ≤ 10 → Pf_read_L109 (m + E) pos (14 + 2 * s) (nI tot) f 0 C = Pf_read_L109 m pos (14 + 2 * s) (nI tot) f (nI E) Ce) ∧ (∀ m, Mo_read_L62 (m + E) (nI s) ln0 pos (nI cnt) 0 0 0 D = Mo_read_L62 m (nI s) ln0 pos (nI cnt) 0 (nI E) (nI E) De) ∧ P2 Ce De ∧ (∀ y, y ≠ 6 → Ce y = C y) ∧ (∀ y, y ≠ 33 → De y = D y) := by
  obtain ⟨hP, e1, e2, e3, hp, hr, hw, hSC, hSD, hdat⟩ := id h
  have h7 := pr_le hp
  intro E
  induction E with
  | zero => exact fun _ _ => ⟨C, D, fun _ => rfl, fun _ _ _ _ _ => rfl, fun _ => rfl, hP, fun _ _ => rfl, fun _ _ => rfl⟩
  | succ E ih =>
    intro hE hok
    obtain ⟨Ce, De, a1, a2, a3, a4, a5, a6⟩ := ih (by omega) (fun e he => hok e (by omega))
    have hk := hok E (by omega)
    have hz := hzE hSC (fun e he => hok e (by omega : e < E + 1))
    have k0 := hk
    obtain ⟨k1, k2⟩ := k0
    obtain ⟨a, n, rfl, z1, z2⟩ := cdF_0 k1
    obtain ⟨h1, h2, h3, h4⟩ := (show a < 3 ∧ n ≤ 40 ∧ C (14 + 2 * s) 1 = nI a ∧ C (14 + 2 * s) 2 = nI n from hSC)
    obtain ⟨z, hzz⟩ : ∃ z : Nat, pos.toInt + 4 * E = z := ⟨(pos.toInt + 4 * E).toNat, by omega⟩
    rw [show (pos.toInt + 4 * E).toNat = z by omega] at k2
    obtain ⟨t, i, j, v, ht, hi, hj, hv, q0, q1, q2, q3⟩ := k2.get hp hr hw
    have rd : RD Ce De s (some (a, n)) p r w := ⟨a4, by rw [a5 5 (by omega)]; exact e1, by rw [a5 5 (by omega)]; exact e2, by rw [a5 5 (by omega)]; exact e3, hp, hr, hw, ⟨h1, h2, by rw [a5 _ (by omega)]; exact h3, by rw [a5 _ (by omega)]; exact h4⟩, by
      obtain ⟨g1, g2, g3, g4⟩ := (show a < 3 ∧ n ≤ 40 ∧ D 46 s = nI a ∧ D 47 s = nI n from hSD)
      exact ⟨g1, g2, by rw [a6 46 (by omega)]; exact g3, by rw [a6 47 (by omega)]; exact g4⟩, fun hn i hi => by rw [a5 _ (by omega), a6 48 (by omega)]; exact hdat hn i hi⟩
    obtain ⟨d0, d1, d2⟩ := rd.d
    have dd : ∀ i, i < 40 → De 48 (40 * s + i) = C (15 + 2 * s) i := fun i hi => by rw [a6 48 (by omega)]; exact (hdat (by simp) i hi).symm
    have hx : ∃ x : Nat, x < 100 ∧ De 33 (3 + (16 * t + 4 * i + j)) = nI x := by
      obtain ⟨p', r', w', hp', hr', hw', f1, f2, f3, s0, s1, s2, hvv, _⟩ := id a4
      have h7' := pr_le hp'
      have er : r' = r := (nI_eq (by omega) (by omega)).mp (f2.symm.trans rd.2.2.1)
      have ew : w' = w := (nI_eq (by omega) (by omega)).mp (f3.symm.trans rd.2.2.2.1)
      obtain ⟨x, x1, x2, x3⟩ := hvv t i j ht (by omega) (by omega)
      exact ⟨x, by omega, x3⟩
    refine ⟨wr Ce 6 (16 * t + 4 * i + j) (nI v), wr De 33 (3 + (16 * t + 4 * i + j)) (nI v), fun m => ?_, fun m tot f b1 b2 => ?_, fun m => ?_, a4.set rd.2.1 rd.2.2.1 rd.2.2.2.1 hp hr hw ht hi hj hv, fun y hy => by rw [wr_ne hy, a5 y hy], fun y hy => by rw [wr_ne hy, a6 y hy]⟩
    · rw [show m + (E + 1) = m + 1 + E by omega, a1 (m + 1), stepC1 (p := p) (r := r) (w := w) hs hc (by omega) (hzE hSC (fun e he => hok e (by omega))) hSC e1 e2 e3 hk]
    · rw [show m + (E + 1) = m + 1 + E by omega, a2 (m + 1) tot f (by omega) b2, stepC2 (C0 := C) (p := p) hs b2 (by omega) hzz h2 h4 (by omega) a5 e2 e3 hr hw ht hi hj q0 q1 q2 q3]
    · rw [show m + (E + 1) = m + 1 + E by omega, a3 (m + 1), stepD (p := p) (r := r) (w := w) (sh := some (a, n)) (z := z) hs hc (by omega) hl rd.2.2.2.2.2.2.2.2.1 k1 hzz (by omega) d0 d1 d2 hp hr hw ht hi hj hv (by rw [dd z (by omega)]; exact q0) (by rw [dd _ (by omega)]; exact q1) (by rw [dd _ (by omega)]; exact q2) (by rw [dd _ (by omega)]; exact q3) hx]
