/-! PURE: read, one step -/
theorem stepC1 {C : Mem} {s cnt e p r w m : Nat} {sh : Option (Nat × Nat)} {ln0 pos : Int32} (hs : s < 4) (hc : cnt ≤ 10) (he : e < cnt) (hz : pos.toInt + 4 * e < 2 ^ 31) (hS : SC C s sh) (e1 : C 5 1 = nI p) (e2 : C 5 2 = nI r) (e3 : C 5 3 = nI w) (hk : okE C s sh p r w ln0 pos e) : Pf_read_L45 (m + 1) ln0 pos (nI cnt) (14 + 2 * s) (nI e) 0 (nI e) C = Pf_read_L45 m ln0 pos (nI cnt) (14 + 2 * s) (nI (e + 1)) 0 (nI (e + 1)) C := by
  obtain ⟨k1, k2⟩ := hk
  obtain ⟨a, n, rfl, z1, z2⟩ := cdF_0 k1
  obtain ⟨h1, h2, h3, h4⟩ := (show a < 3 ∧ n ≤ 40 ∧ C (14 + 2 * s) 1 = nI a ∧ C (14 + 2 * s) 2 = nI n from hS)
  obtain ⟨z, hzz⟩ : ∃ z : Nat, pos.toInt + 4 * e = z := ⟨(pos.toInt + 4 * e).toNat, by omega⟩
  rw [show (pos.toInt + 4 * e).toNat = z by omega] at k2
  obtain ⟨v, v1, v2⟩ := mayC (p := p) (r := r) (w := w) hs h2 h4 (show z + 4 ≤ n by omega) e1 e2 e3
  have v3 : v = 1 := by
    rcases v2 with g | g
    · exact g.1
    · exact absurd k2 g.2
  rw [Pf_read_L45, if_neg (nI_ge he (by omega)), if_pos rfl, four_ok hs (by omega) hz hS, bd_s, k1, if_pos rfl, posZ hzz, v1, bd_s, v3, if_neg (by decide), Pf_read_b100, nI_1]
theorem stepC2 {C C0 : Mem} {s E e p r w m t i j v z n : Nat} {f pos : Int32} (hs : s < 4) (hE : E ≤ 10) (he : e < E) (hzz : pos.toInt + 4 * e = z) (hn : n ≤ 40) (h4 : C0 (14 + 2 * s) 2 = nI n) (hzn : z + 4 ≤ n) (fr : ∀ y, y ≠ 6 → C y = C0 y) (e2 : C0 5 2 = nI r) (e3 : C0 5 3 = nI w) (hr : r ≤ 4) (hw : w ≤ 4) (ht : t < 2) (hi : i < r) (hj : j < w) (q0 : C0 (15 + 2 * s) z = nI t) (q1 : C0 (15 + 2 * s) (z + 1) = nI i) (q2 : C0 (15 + 2 * s) (z + 2) = nI j) (q3 : C0 (15 + 2 * s) (z + 3) = nI v) : Pf_read_L109 (m + 1) pos (14 + 2 * s) (nI E) f (nI e) C = Pf_read_L109 m pos (14 + 2 * s) (nI E) f (nI (e + 1)) (wr C 6 (16 * t + 4 * i + j) (nI v)) := by
  rw [Pf_read_L109, if_neg (nI_ge he (by omega)), posZ hzz, setC hs hn (by rw [fr _ (by omega)]; exact h4) hzn (by rw [fr _ (by omega)]; exact e2) (by rw [fr _ (by omega)]; exact e3) hr hw ht hi hj (by rw [fr _ (by omega)]; exact q0) (by rw [fr _ (by omega)]; exact q1) (by rw [fr _ (by omega)]; exact q2) (by rw [fr _ (by omega)]; exact q3), bv_s, nI_1]
theorem stepD {D : Mem} {s cnt e p r w m t i j v z : Nat} {sh : Option (Nat × Nat)} {ln0 pos : Int32} (hs : s < 4) (hc : cnt ≤ 10) (he : e < cnt) (hl : ∃ a, a < 3 ∧ ln0 = nI a) (hS : SD D s sh) (k1 : cdF sh ln0 pos e = 0) (hzz : pos.toInt + 4 * e = z) (hz36 : z + 4 ≤ 40) (d0 : D 33 0 = nI p) (d1 : D 33 1 = nI r) (d2 : D 33 2 = nI w) (hp : pr p) (hr : r ≤ 4) (hw : w ≤ 4) (ht : t < 2) (hi : i < r) (hj : j < w) (hv : v < p) (q0 : D 48 (40 * s + z) = nI t) (q1 : D 48 (40 * s + (z + 1)) = nI i) (q2 : D 48 (40 * s + (z + 2)) = nI j) (q3 : D 48 (40 * s + (z + 3)) = nI v) (hx : ∃ x : Nat, x < 100 ∧ D 33 (3 + (16 * t + 4 * i + j)) = nI x) : Mo_read_L62 (m + 1) (nI s) ln0 pos (nI cnt) 0 (nI e) (nI e) D = Mo_read_L62 m (nI s) ln0 pos (nI cnt) 0 (nI (e + 1)) (nI (e + 1)) (wr D 33 (3 + (16 * t + 4 * i + j)) (nI v)) := by
  obtain ⟨x, hx1, hx2⟩ := hx
  have ei : 40 * nI s + pos + 4 * nI e = nI (40 * s + z) := by
    rw [show 40 * nI s + pos + 4 * nI e = 40 * nI s + (pos + 4 * nI e) by grind, posZ hzz, show (40 : Int32) = nI 40 from rfl, nIm, nIa]
  rw [Mo_read_L62, if_neg (nI_ge he (by omega)), if_pos rfl, L77_ok hs (by omega) hS hl, k1, Mo_read_b164, if_pos rfl, ei, show nI (40 * s + z) + 1 = nI (40 * s + (z + 1)) from nIa (40 * s + z) 1, show nI (40 * s + z) + 2 = nI (40 * s + (z + 2)) from nIa (40 * s + z) 2, show nI (40 * s + z) + 3 = nI (40 * s + (z + 3)) from nIa (40 * s + z) 3, if_pos (ibn (by omega) (by omega)), if_pos (ibn (by omega) (by omega)), if_pos (ibn (by omega) (by omega)), if_pos (ibn (by omega) (by omega)), ixn (by omega), ixn (by omega), ixn (by omega), ixn (by omega), q0, q1, q2, q3, Mo_set_in d0 d1 d2 hp hr hw ht hi hj hv, bd_s, hx2, if_pos (nI_pos' (by omega)), Mo_read_b262, nI_1]
