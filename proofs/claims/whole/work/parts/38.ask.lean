/-! PURE: chains of the reference; questions -/
theorem addsAt_ok {D : Mem} {p r w h bi bj x : Nat} {T : Nat → Nat → Nat → Nat} {K : Kt} (hx : x ≤ p) (hP : DP D p r w T) (hM : MD D p h (ff r w K)) (h1 : bi * r + r ≤ h) (h2 : bj * w + w ≤ 20) (hz : ∀ x y, K bi bj x y = 0) : ∃ D', Mo_addsAt (nI bi) (nI bj) (nI x) D = some D' ∧ (∀ x, x ≠ 38 → D' x = D x) ∧ MD D' p h (ff r w (bk K bi bj r w (vl2 p T (dga p x) (dgb p x)))) := by
  have h7 := pr_le hP.1
  obtain ⟨d1, d2, d3, d4⟩ := dg_b hP.1 hx
  obtain ⟨D', g1, g2, g3⟩ := addB_ok hP hM d1 d2 h1 h2
  rw [bk_zero hz] at g3
  refine ⟨D', ?_, g2, g3⟩
  unfold Mo_addsAt Mo_addsAt_b15 Mo_addsAt_b30 Mo_addsAt_b41
  rw [hP.2.2.2.1]
  by_cases e : x = p
  · rw [if_pos (by rw [e]), if_neg (by decide), if_neg (by decide)]
    unfold dga dgb at g1
    rw [if_pos e, if_pos e] at g1
    rw [show Mo_adds (nI bi) (nI bj) 0 1 D = some D' from g1, bv_s]
  · rw [if_neg (fun z => e ((nI_eq (by omega) (by omega)).mp z)), if_pos rfl, if_pos rfl]
    unfold dga dgb at g1
    rw [if_neg e, if_neg e, Int32.ofInt_neg, ← nIo] at g1
    rw [show Mo_adds (nI bi) (nI bj) 1 (-(nI x)) D = some D' from g1, bv_s]
theorem KC_z1 {p r w : Nat} {T : Nat → Nat → Nat → Nat} {x s c : Nat} : ∀ i j, KC p r w T x s s c i j = 0 := fun i j => if_neg (by omega)
theorem KC_z2 {p r w : Nat} {T : Nat → Nat → Nat → Nat} {x s : Nat} {v : Nat → Nat → Nat} : ∀ i j, bk (KC p r w T x (s + 1)) (s + 1) (s + 1) r w v (s + 1) s i j = 0 := fun i j => by
  unfold bk
  rw [if_neg (by omega)]
  exact KC_z1 i j
theorem chainD_ok {p r w x k : Nat} {T : Nat → Nat → Nat → Nat} (hx : x ≤ p) (hk : k ≤ 4) {D : Mem} (hP : DP D p r w T) : ∃ D', Mo_chainsOf (nI x) (nI k) D = some (nI (chN p r w T x k), D') ∧ (∀ y, y ≠ 32 → y ≠ 38 → D' y = D y) ∧ ∀ y, y ≠ 15 → y ≠ 16 → D' 32 y = D 32 y := by
  have hp := hP.1
  have h7 := pr_le hp
  have b1 := mul4 hk hP.2.1
  have b2 := mul4 hk hP.2.2.1
  obtain ⟨d1, d2, d3, d4⟩ := dg_b hp hx
  obtain ⟨D1, x1, x2, x3, x4, x5⟩ := startL_ok (H := k) (W := k) hP (by omega) (by omega)
  have hP1 : DP D1 p r w T := hP.mv (x2 33 (by omega) (by omega)) (x3 17 (by omega) (by omega))
  have main : ∀ s0 : Int32, s0 = (if x = p then 1 else 0) → ∃ D', Mo_chainsOf_b15 (nI x) (nI k) s0 D = some (nI (chN p r w T x k), D') ∧ (∀ y, y ≠ 32 → y ≠ 38 → D' y = D y) ∧ ∀ y, y ≠ 15 → y ≠ 16 → D' 32 y = D 32 y := fun s0 hs0 => by
    unfold Mo_chainsOf_b15
    rw [x1, bv_s]
    obtain ⟨D', g1, g2⟩ := lp (fun m s M' => Mo_chainsOf_L25 m (nI x) (nI k) s0 (nI s) M') (fun M' => bd (Mo_dimension M') fun r3 M1 => some (r3, M1)) k (fun s M' => (∀ y, y ≠ 38 → M' y = D1 y) ∧ MD M' p (k * r) (ff r w (KC p r w T x s))) (fun m M' _ => by
        show Mo_chainsOf_L25 (m + 1) (nI x) (nI k) s0 (nI k) M' = _
        rw [Mo_chainsOf_L25, if_pos (Int32.le_refl _)]) (fun m s M' hs h' => by
        show ∃ M1, _ ∧ Mo_chainsOf_L25 (m + 1) (nI x) (nI k) s0 (nI s) M' = Mo_chainsOf_L25 m (nI x) (nI k) s0 (nI (s + 1)) M1
        have q1 : DP M' p r w T := hP1.mv (h'.1 33 (by omega)) (by rw [h'.1 32 (by omega)])
        have c1 := blk_in (r := w) hs
        obtain ⟨C1, y1, y2, y3⟩ := addsAt_ok (bi := s) (bj := s) hx q1 h'.2 (blk_in hs) (by omega) KC_z1
        rw [Mo_chainsOf_L25, if_neg (nI_ge hs (by omega)), y1, bv_s]
        have e0 : s = 0 ∨ ∃ u, s = u + 1 := by
          cases s with
          | zero => exact .inl rfl
          | succ u => exact .inr ⟨u, rfl⟩
        rcases e0 with rfl | ⟨u, rfl⟩
        · rw [if_pos (show nI 0 ≤ 0 by decide), Mo_chainsOf_b73, nI_1]
          rw [KC_1] at y3
          exact ⟨C1, ⟨fun y hy => by rw [y2 y hy, h'.1 y hy], y3⟩, rfl⟩
        · have q2 : DP C1 p r w T := q1.mv (y2 33 (by omega)) (by rw [y2 32 (by omega)])
          have c2 := blk_in (r := w) (show u < k by omega)
          obtain ⟨C2, z1, z2, z3⟩ := addB_ok (bi := u + 1) (bj := u) q2 y3 d3 d4 (blk_in hs) (by omega)
          rw [bk_zero KC_z2, KC_s] at z3
          rw [if_neg (show ¬ nI (u + 1) ≤ 0 from nI_ge (a := 0) (b := u + 1) (by omega) (by omega)), show nI (u + 1) - 1 = nI u from nIs (a := u + 1) (b := 1) (by omega)]
          have snd : (if s0 = 0 then Mo_chainsOf_b61 (Mo_chainsOf_L25 m) (nI x) (nI k) s0 (nI (u + 1)) (nI (u + 1)) (nI u) 0 C1 else Mo_chainsOf_b61 (Mo_chainsOf_L25 m) (nI x) (nI k) s0 (nI (u + 1)) (nI (u + 1)) (nI u) (-1) C1) = Mo_chainsOf_b70 (Mo_chainsOf_L25 m) (nI x) (nI k) s0 (nI (u + 1)) (nI (u + 1)) (nI u) (Int32.ofInt (loa p x)) (Int32.ofInt (lob p x)) C1 := by
            unfold Mo_chainsOf_b61 loa lob
            subst hs0
            by_cases e : x = p
            · rw [if_pos e, if_neg (by decide), if_neg (by decide), if_pos e, if_pos e]; rfl
            · rw [if_neg e, if_pos rfl, if_pos rfl, if_neg e, if_neg e]; rfl
          rw [snd, Mo_chainsOf_b70, z1, bv_s, Mo_chainsOf_b73, nI_1]
          exact ⟨C2, ⟨fun y hy => by rw [z2 y hy, y2 y hy, h'.1 y hy], z3⟩, rfl⟩) k FU 0 D1 (by omega) (FU_lt (by omega)) ⟨fun _ _ => rfl, by rw [KC_0]; exact x5⟩
    obtain ⟨D3, w1, w2⟩ := dimD_ok (m := k * w) hp (by omega) g1.2 (by rw [g1.1 32 (by omega)]; exact x4)
    have hg : Mo_chainsOf_L25 FU (nI x) (nI k) s0 0 D1 = bd (Mo_dimension D') fun r3 M1 => some (r3, M1) := g2
    refine ⟨D3, ?_, fun y n1 n2 => by rw [w2 y n2, g1.1 y n2, x2 y n1 n2], fun y n1 n2 => by rw [w2 32 (by omega), g1.1 32 (by omega), x3 y n1 n2]⟩
    rw [hg, w1, bd_s]
    rfl
  unfold Mo_chainsOf
  rw [hP.2.2.2.1]
  by_cases e : x = p
  · rw [if_pos (by rw [e])]; exact main 1 (by rw [if_pos e])
  · rw [if_neg (fun z => e ((nI_eq (by omega) (by omega)).mp z))]; exact main 0 (by rw [if_neg e])
/-! a question leaves the state as it was -/
theorem Rel.q {M M' : Mem} (h : Rel M) (hc : ∀ c, c < 22 ∨ (32 < c ∧ c < 38) ∨ 46 ≤ c → M' c = M c) (h32 : ∀ k, k ≠ 15 → k ≠ 16 → M' 32 k = M 32 k) : Rel M' := by
  obtain ⟨r1, r2, r3, r4, r5⟩ := h
  refine ⟨r1.mv (by rw [hc 1 (by omega)]) (hc 2 (by omega)) (h32 7 (by omega) (by omega)) (hc 37 (by omega)), ?_, r3.mv (hc 12 (by omega)) (hc 35 (by omega)) (hc 8 (by omega)) (hc 9 (by omega)) (hc 10 (by omega)) (hc 11 (by omega)) (hc 34 (by omega)), r4.mv (fun c a b => hc c (by omega)) (hc 46 (by omega)) (hc 47 (by omega)) (hc 48 (by omega)), r5.mv (hc 0 (by omega)) (h32 12 (by omega) (by omega)) (h32 28 (by omega) (by omega)) (h32 17 (by omega) (by omega))⟩
  rw [hc 5 (by omega), hc 6 (by omega), hc 33 (by omega)]; exact r2
def vlI (x : Int32) : Nat := x.toInt.toNat
theorem vlI_n {v : Nat} (h : v ≤ 1000) : vlI (nI v) = v := by
  unfold vlI
  rw [nIo, iof (by omega) (by omega)]; omega
theorem PRel.pd {C D : Mem} {c : Nat} (h : PRel (C c) (C (c + 1)) (D 33)) (h0 : D 32 17 = 0) : ∃ p r w T, PC C c p r w T ∧ DP D p r w T := by
  obtain ⟨p, r, w, hp, hr, hw, e1, e2, e3, s0, s1, s2, hv, hz⟩ := h
  have h7 := pr_le hp
  refine ⟨p, r, w, fun t i j => vlI (C (c + 1) (16 * t + 4 * i + j)), ⟨hp, hr, hw, e1, e2, e3, fun t i j a1 a2 a3 => ?_⟩, ⟨hp, hr, hw, s0, .inl ⟨h0, s1, s2, fun t i j a1 a2 a3 => ?_⟩⟩⟩
  · obtain ⟨v, v1, v2, v3⟩ := hv t i j a1 a2 a3
    show vlI (C (c + 1) (16 * t + 4 * i + j)) < p ∧ C (c + 1) (16 * t + 4 * i + j) = nI (vlI (C (c + 1) (16 * t + 4 * i + j)))
    rw [v2, vlI_n (by omega)]; exact ⟨v1, rfl⟩
  · obtain ⟨v, v1, v2, v3⟩ := hv t i j a1 a2 a3
    show vlI (C (c + 1) (16 * t + 4 * i + j)) < p ∧ D 33 (3 + (16 * t + 4 * i + j)) = nI (vlI (C (c + 1) (16 * t + 4 * i + j)))
    rw [v2, vlI_n (by omega), v3]; exact ⟨v1, rfl⟩
theorem Rel.ask {M : Mem} (hR : Rel M) {fC fD : Mem → Option (Int32 × Mem)} (g : Nat → Nat → Nat → (Nat → Nat → Nat → Nat) → Int32) (hC : ∀ C p r w T, PC C 5 p r w T → ∃ C', fC C = some (g p r w T, C') ∧ ∀ x, x < 22 ∨ 32 ≤ x → C' x = C x) (hD : ∀ D p r w T, DP D p r w T → D 32 17 = 0 → ∃ D', fD D = some (g p r w T, D') ∧ (∀ x, x < 32 ∨ (32 < x ∧ x < 38) ∨ 46 ≤ x → D' x = D x) ∧ ∀ k, k ≠ 15 → k ≠ 16 → D' 32 k = D 32 k) : ∃ (r : Int32) (M1 M2 : Mem), fC M = some (r, M1) ∧ fD M1 = some (r, M2) ∧ Rel M2 := by
  have h0 : M 32 17 = 0 := hR.2.2.2.2.2.2
  obtain ⟨p, r, w, T, hP, hQ⟩ := PRel.pd (C := M) (D := M) (c := 5) hR.2.1 h0
  obtain ⟨C', c1, c2⟩ := hC M p r w T hP
  obtain ⟨D', d1, d2, d3⟩ := hD C' p r w T (hQ.mv (c2 33 (by omega)) (by rw [c2 32 (by omega)])) (by rw [c2 32 (by omega)]; exact h0)
  exact ⟨_, C', D', c1, d1, hR.q (fun c hc => by rw [d2 c (by omega), c2 c (by omega)]) (fun k a b => by rw [d3 k a b, c2 32 (by omega)])⟩
theorem okc5 : okc 5 := ⟨rfl, by omega, by omega, by omega, by omega⟩
