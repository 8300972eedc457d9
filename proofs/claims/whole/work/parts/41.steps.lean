/-! PURE: steps -/
def KS (p r w : Nat) (T : Nat → Nat → Nat → Nat) (s : Nat) : Kt := fun b c i j => if b < s ∧ i < r ∧ j < w then (if c = b then vl2 p T (-1) 0 i j else if c = b + 1 then vl2 p T 0 1 i j else 0) else 0
theorem KS_0 {p r w : Nat} {T : Nat → Nat → Nat → Nat} : KS p r w T 0 = K0 := by
  funext b c i j
  exact if_neg (by omega)
theorem KS_s {p r w s : Nat} {T : Nat → Nat → Nat → Nat} : bk (bk (KS p r w T s) s s r w (vl2 p T (-1) 0)) s (s + 1) r w (vl2 p T 0 1) = KS p r w T (s + 1) := by
  funext b c i j
  unfold bk KS
  grind
theorem KS_z1 {p r w s c : Nat} {T : Nat → Nat → Nat → Nat} : ∀ i j, KS p r w T s s c i j = 0 := fun i j => if_neg (by omega)
theorem KS_z2 {p r w s : Nat} {T : Nat → Nat → Nat → Nat} {v : Nat → Nat → Nat} : ∀ i j, bk (KS p r w T s) s s r w v s (s + 1) i j = 0 := fun i j => by
  unfold bk
  rw [if_neg (by omega)]
  exact KS_z1 i j
noncomputable def stN (p r w : Nat) (T : Nat → Nat → Nat → Nat) (k : Nat) : Nat := dmn p (k * r) ((k + 1) * w) (ff r w (KS p r w T k))
theorem stepsC_ok {c p r w k : Nat} {T : Nat → Nat → Nat → Nat} (hc : okc c) (hk : k ≤ 4) {C : Mem} (hP : PC C c p r w T) : ∃ C', Un_stepsOf c (nI k) C = some (nI (stN p r w T k), C') ∧ ∀ y, y ≠ 23 → y ≠ 24 → C' y = C y := by
  have hP2 := hP
  obtain ⟨hp, hr, hw, e1, e2, e3, hv⟩ := hP2
  have b1 := mul4 hk hr
  have b2 := mul20 hk hw
  obtain ⟨C1, x1, x2, x3⟩ := begin_ok (H := k) (W := k + 1) hc hP (by omega) b2
  have hP1 := hP.mv (x2 c hc.2.1 hc.2.2.1) (x2 (c + 1) hc.2.2.2.1 hc.2.2.2.2)
  unfold Un_stepsOf
  rw [if_pos hc.1, show nI k + 1 = nI (k + 1) from nIa k 1, x1, bv_s]
  obtain ⟨C', g1, g2⟩ := lp (fun m s M' => Un_stepsOf_L14 m c (nI k) (nI s) M') (fun M' => bd (Eq_useUpForRank M') fun r3 M1 => some (M' 23 3 - r3, M1)) k (fun s M' => (∀ y, y ≠ 24 → M' y = C1 y) ∧ MW M' p (k * r) ((k + 1) * w) (ff r w (KS p r w T s))) (fun m M' _ => by
      show Un_stepsOf_L14 (m + 1) c (nI k) (nI k) M' = _
      rw [Un_stepsOf_L14, if_pos (Int32.le_refl _)]) (fun m s M' hs h' => by
      show ∃ M1, _ ∧ Un_stepsOf_L14 (m + 1) c (nI k) (nI s) M' = Un_stepsOf_L14 m c (nI k) (nI (s + 1)) M1
      have q1 := hP1.mv (h'.1 c hc.2.2.1) (h'.1 (c + 1) hc.2.2.2.2)
      obtain ⟨C2, y1, y2, y3⟩ := putB_ok (bi := s) (bj := s) (a := -1) (b := 0) hc q1 h'.2 (by omega) (by omega) (blk_in (by omega)) (blk_in (by omega))
      have q2 := q1.mv (y2 c hc.2.2.1) (y2 (c + 1) hc.2.2.2.2)
      obtain ⟨C3, z1, z2, z3⟩ := putB_ok (bi := s) (bj := s + 1) (a := 0) (b := 1) hc q2 y3 (by omega) (by omega) (blk_in (by omega)) (blk_in (by omega))
      rw [KS_s] at z3
      rw [Un_stepsOf_L14, if_neg (nI_ge hs (by omega)), show Eq_putBlock c (nI s) (nI s) (-1) 0 M' = some C2 from y1, bv_s, nI_1, show Eq_putBlock c (nI s) (nI (s + 1)) 0 1 C2 = some C3 from z1, bv_s]
      exact ⟨C3, ⟨fun y hy => by rw [z2 y hy, y2 y hy, h'.1 y hy], z3⟩, rfl⟩) k FU 0 C1 (by omega) (FU_lt (by omega)) ⟨fun _ _ => rfl, by rw [KS_0]; exact x3⟩
  obtain ⟨C2, y1, y2, y3, _⟩ := use_dm hp g1.2.mc
  have hg : Un_stepsOf_L14 FU c (nI k) 0 C1 = bd (Eq_useUpForRank C') fun r3 M1 => some (C' 23 3 - r3, M1) := g2
  refine ⟨C2, ?_, fun y n1 n2 => by rw [y2 y n2, g1.1 y n2, x2 y n1 n2]⟩
  rw [hg, y1, bd_s, g1.2.2.2.1, nIs (by omega), show (k + 1) * w - ((k + 1) * w - dmn p (k * r) ((k + 1) * w) (ff r w (KS p r w T k))) = stN p r w T k by unfold stN; omega]
theorem stepsD0 {p r w k : Nat} {T : Nat → Nat → Nat → Nat} (hk : k ≤ 4) {D : Mem} (hP : DP D p r w T) : ∃ D', Mo_startsSteps (nI k) 0 D = some D' ∧ (∀ y, y ≠ 32 → y ≠ 38 → D' y = D y) ∧ (∀ y, y ≠ 15 → y ≠ 16 → D' 32 y = D 32 y) ∧ D' 32 16 = nI ((k + 1) * w) ∧ MD D' p (k * r) (ff r w (KS p r w T k)) := by
  have hp := hP.1
  have h7 := pr_le hp
  have b1 := mul4 hk hP.2.1
  have b2 := mul20 hk hP.2.2.1
  obtain ⟨D1, x1, x2, x3, x4, x5⟩ := startL_ok (H := k) (W := k + 1) hP (by omega) b2
  have hP1 : DP D1 p r w T := hP.mv (x2 33 (by omega) (by omega)) (x3 17 (by omega) (by omega))
  unfold Mo_startsSteps Mo_startsSteps_b13
  rw [if_pos rfl, show nI k + 1 = nI (k + 1) from nIa k 1, x1, bv_s]
  obtain ⟨D', g1, g2⟩ := lp (fun m s M' => Mo_startsSteps_L18 m (nI k) 0 (nI s) M') (fun M' => some M') k (fun s M' => (∀ y, y ≠ 38 → M' y = D1 y) ∧ MD M' p (k * r) (ff r w (KS p r w T s))) (fun m M' _ => by
      show Mo_startsSteps_L18 (m + 1) (nI k) 0 (nI k) M' = _
      rw [Mo_startsSteps_L18, if_pos (Int32.le_refl _)]) (fun m s M' hs h' => by
      show ∃ M1, _ ∧ Mo_startsSteps_L18 (m + 1) (nI k) 0 (nI s) M' = Mo_startsSteps_L18 m (nI k) 0 (nI (s + 1)) M1
      have q1 : DP M' p r w T := hP1.mv (h'.1 33 (by omega)) (by rw [h'.1 32 (by omega)])
      have c1 := blk_in (r := w) (show s < k + 1 by omega)
      have c2 := blk_in (r := w) (show s + 1 < k + 1 by omega)
      obtain ⟨C2, y1, y2, y3⟩ := addB_ok (bi := s) (bj := s) (a := -1) (b := 0) q1 h'.2 (by omega) (by omega) (blk_in (by omega)) (by omega)
      rw [bk_zero KS_z1] at y3
      have q2 : DP C2 p r w T := q1.mv (y2 33 (by omega)) (by rw [y2 32 (by omega)])
      obtain ⟨C3, z1, z2, z3⟩ := addB_ok (bi := s) (bj := s + 1) (a := 0) (b := 1) q2 y3 (by omega) (by omega) (blk_in (by omega)) (by omega)
      rw [bk_zero KS_z2, KS_s] at z3
      rw [Mo_startsSteps_L18, if_neg (nI_ge hs (by omega)), if_pos rfl, Mo_startsSteps_b34, if_neg (Int32.not_lt.mpr (nI_pos' (by omega))), show Mo_adds (nI s) (nI s) (-1) 0 M' = some C2 from y1, bv_s, Mo_startsSteps_b50, nI_1, show Mo_adds (nI s) (nI (s + 1)) 0 1 C2 = some C3 from z1, bv_s]
      exact ⟨C3, ⟨fun y hy => by rw [z2 y hy, y2 y hy, h'.1 y hy], z3⟩, rfl⟩) k FU 0 D1 (by omega) (FU_lt (by omega)) ⟨fun _ _ => rfl, by rw [KS_0]; exact x5⟩
  exact ⟨D', g2, fun y n1 n2 => by rw [g1.1 y n2, x2 y n1 n2], fun y n1 n2 => by rw [g1.1 32 (by omega), x3 y n1 n2], by rw [g1.1 32 (by omega)]; exact x4, g1.2⟩
theorem KC_s' {p r w : Nat} {T : Nat → Nat → Nat → Nat} {s : Nat} : bk (bk (KC p r w T p (s + 1)) (s + 1) s r w (vl2 p T (-1) 0)) (s + 1) (s + 1) r w (vl2 p T 0 1) = KC p r w T p (s + 2) := by
  rw [← KC_s]
  funext b c i j
  unfold bk dga dgb loa lob
  rw [if_pos rfl, if_pos rfl, if_pos rfl, if_pos rfl]
  grind
theorem KC_1' {p r w : Nat} {T : Nat → Nat → Nat → Nat} : bk (KC p r w T p 0) 0 0 r w (vl2 p T 0 1) = KC p r w T p 1 := by
  rw [← KC_1]
  unfold dga dgb
  rw [if_pos rfl, if_pos rfl]
theorem KC_z3 {p r w : Nat} {T : Nat → Nat → Nat → Nat} {x s : Nat} {v : Nat → Nat → Nat} : ∀ i j, bk (KC p r w T x (s + 1)) (s + 1) s r w v (s + 1) (s + 1) i j = 0 := fun i j => by
  unfold bk
  rw [if_neg (by omega)]
  exact KC_z1 i j
theorem stepsD1 {p r w k : Nat} {T : Nat → Nat → Nat → Nat} (hk : k ≤ 4) {D : Mem} (hP : DP D p r w T) : ∃ D', Mo_startsSteps (nI k) 1 D = some D' ∧ (∀ y, y ≠ 32 → y ≠ 38 → D' y = D y) ∧ (∀ y, y ≠ 15 → y ≠ 16 → D' 32 y = D 32 y) ∧ D' 32 16 = nI (k * w) ∧ MD D' p (k * r) (ff r w (KC p r w T p k)) := by
  have hp := hP.1
  have h7 := pr_le hp
  have b1 := mul4 hk hP.2.1
  have b2 := mul4 hk hP.2.2.1
  obtain ⟨D1, x1, x2, x3, x4, x5⟩ := startL_ok (H := k) (W := k) hP (by omega) (by omega)
  have hP1 : DP D1 p r w T := hP.mv (x2 33 (by omega) (by omega)) (x3 17 (by omega) (by omega))
  unfold Mo_startsSteps Mo_startsSteps_b13
  rw [if_neg (by decide), x1, bv_s]
  obtain ⟨D', g1, g2⟩ := lp (fun m s M' => Mo_startsSteps_L18 m (nI k) 1 (nI s) M') (fun M' => some M') k (fun s M' => (∀ y, y ≠ 38 → M' y = D1 y) ∧ MD M' p (k * r) (ff r w (KC p r w T p s))) (fun m M' _ => by
      show Mo_startsSteps_L18 (m + 1) (nI k) 1 (nI k) M' = _
      rw [Mo_startsSteps_L18, if_pos (Int32.le_refl _)]) (fun m s M' hs h' => by
      show ∃ M1, _ ∧ Mo_startsSteps_L18 (m + 1) (nI k) 1 (nI s) M' = Mo_startsSteps_L18 m (nI k) 1 (nI (s + 1)) M1
      have q1 : DP M' p r w T := hP1.mv (h'.1 33 (by omega)) (by rw [h'.1 32 (by omega)])
      have c1 := blk_in (r := w) hs
      rw [Mo_startsSteps_L18, if_neg (nI_ge hs (by omega)), if_neg (show ¬ (1 : Int32) = 0 by decide), Mo_startsSteps_b34]
      have e0 : s = 0 ∨ ∃ u, s = u + 1 := by
        cases s with
        | zero => exact .inl rfl
        | succ u => exact .inr ⟨u, rfl⟩
      rcases e0 with rfl | ⟨u, rfl⟩
      · obtain ⟨C3, z1, z2, z3⟩ := addB_ok (bi := 0) (bj := 0) (a := 0) (b := 1) q1 h'.2 (by omega) (by omega) (blk_in (by omega)) (by omega)
        rw [bk_zero KC_z1, KC_1'] at z3
        rw [if_pos (show nI 0 - 1 < 0 by decide), Mo_startsSteps_b50, show nI 0 - 1 + 1 = nI 0 by decide, show Mo_adds (nI 0) (nI 0) 0 1 M' = some C3 from z1, bv_s, nI_1]
        exact ⟨C3, ⟨fun y hy => by rw [z2 y hy, h'.1 y hy], z3⟩, rfl⟩
      · have c2 := blk_in (r := w) (show u < k by omega)
        obtain ⟨C2, y1, y2, y3⟩ := addB_ok (bi := u + 1) (bj := u) (a := -1) (b := 0) q1 h'.2 (by omega) (by omega) (blk_in (by omega)) (by omega)
        rw [bk_zero KC_z1] at y3
        have q2 : DP C2 p r w T := q1.mv (y2 33 (by omega)) (by rw [y2 32 (by omega)])
        obtain ⟨C3, z1, z2, z3⟩ := addB_ok (bi := u + 1) (bj := u + 1) (a := 0) (b := 1) q2 y3 (by omega) (by omega) (blk_in (by omega)) (by omega)
        rw [bk_zero KC_z3, KC_s'] at z3
        rw [show nI (u + 1) - 1 = nI u from nIs (a := u + 1) (b := 1) (by omega), if_neg (Int32.not_lt.mpr (nI_pos' (by omega))), show Mo_adds (nI (u + 1)) (nI u) (-1) 0 M' = some C2 from y1, bv_s, Mo_startsSteps_b50, nI_1 u, show Mo_adds (nI (u + 1)) (nI (u + 1)) 0 1 C2 = some C3 from z1, bv_s, nI_1]
        exact ⟨C3, ⟨fun y hy => by rw [z2 y hy, y2 y hy, h'.1 y hy], z3⟩, rfl⟩) k FU 0 D1 (by omega) (FU_lt (by omega)) ⟨fun _ _ => rfl, by rw [KC_0]; exact x5⟩
  exact ⟨D', g2, fun y n1 n2 => by rw [g1.1 y n2, x2 y n1 n2], fun y n1 n2 => by rw [g1.1 32 (by omega), x3 y n1 n2], by rw [g1.1 32 (by omega)]; exact x4, g1.2⟩
theorem isSide2_ok {C : Mem} {a : Int32} : Pf_isSide a C = some (if 0 ≤ a ∧ a < 2 then 1 else 0, C) := by
  unfold Pf_isSide
  by_cases h : 0 ≤ a ∧ a < 2
  · obtain ⟨k, hk, rfl⟩ := ran (n := 2) (by omega) h.1 h.2
    rw [if_pos h]
    have e : k = 0 ∨ k = 1 := by omega
    rcases e with rfl | rfl
    · rfl
    · rfl
  · rw [if_neg h, if_neg (fun e => h (by subst e; decide)), if_neg (fun e => h (by subst e; decide))]
theorem isPart_ok {D : Mem} {a : Int32} : Mo_isPart a D = some (if 0 ≤ a ∧ a < 2 then 1 else 0, D) := by
  unfold Mo_isPart
  rw [in_1, bd_s]
  by_cases h : 0 ≤ a ∧ a < 2
  · rw [if_pos h, if_pos z01_1]
  · rw [if_neg h, if_pos z01_0]
theorem op_steps : Op_steps Rel := fun M a b hR => hR.ask (fC := fun C => Pf_steps a b C) (fD := fun D => Mo_steps a b D) (fun p r w T => if 0 ≤ a ∧ a < 5 then (if 0 ≤ b ∧ b < 2 then (if b = 0 then nI (stN p r w T (vlI a)) else nI (stN p r w T (vlI a)) - nI (chN p r w T p (vlI a))) else -1) else -1)
  (fun C p r w T h => by
    show ∃ C', Pf_steps a b C = _ ∧ _
    unfold Pf_steps
    rw [isStep_ok, bd_s]
    by_cases h1 : 0 ≤ a ∧ a < 5
    · rw [if_pos h1, if_neg (by decide), if_pos h1, isSide2_ok, bd_s]
      by_cases h2 : 0 ≤ b ∧ b < 2
      · rw [if_pos h2, if_neg (by decide), if_pos h2]
        obtain ⟨k, hk, rfl⟩ := ran (n := 5) (by omega) h1.1 h1.2
        rw [vlI_n (by omega)]
        obtain ⟨C', c1, c2⟩ := stepsC_ok (k := k) okc5 (by omega) h
        by_cases e : b = 0
        · rw [if_pos e, if_pos e, c1, bd_s]
          exact ⟨C', rfl, fun y hy => c2 y (by omega) (by omega)⟩
        · obtain ⟨C2, d1, d2⟩ := chainsAt_ok (x := p) (k := k) okc5 (Nat.le_refl _) (by omega) (h.mv (c2 5 (by omega) (by omega)) (c2 6 (by omega) (by omega)))
          rw [if_neg e, if_neg e]
          unfold Un_goersOf
          rw [if_pos isP5, c1, bd_s, c2 5 (by omega) (by omega), h.2.2.2.1, d1, bd_s, bd_s]
          exact ⟨C2, rfl, fun y hy => by rw [d2 y (by omega) (by omega), c2 y (by omega) (by omega)]⟩
      · rw [if_neg h2, if_pos rfl, if_neg h2]; exact ⟨C, rfl, fun _ _ => rfl⟩
    · rw [if_neg h1, if_pos rfl, if_neg h1]; exact ⟨C, rfl, fun _ _ => rfl⟩)
  (fun D p r w T h _ => by
    show ∃ D', Mo_steps a b D = _ ∧ _
    unfold Mo_steps
    rw [in_4, bd_s]
    by_cases h1 : 0 ≤ a ∧ a < 5
    · rw [if_pos h1, if_neg (by decide), if_pos h1, isPart_ok, bd_s]
      by_cases h2 : 0 ≤ b ∧ b < 2
      · rw [if_pos h2, if_neg (by decide), if_pos h2]
        obtain ⟨k, hk, rfl⟩ := ran (n := 5) (by omega) h1.1 h1.2
        rw [vlI_n (by omega)]
        have b2 := mul20 (show k ≤ 4 by omega) h.2.2.1
        have b3 := mul4 (show k ≤ 4 by omega) h.2.2.1
        obtain ⟨D1, x1, x2, x3, x4, x5⟩ := stepsD0 (k := k) (by omega) h
        obtain ⟨D2, y1, y2⟩ := dimD_ok h.1 b2 x5 x4
        rw [x1, bv_s, y1, bd_s]
        by_cases e : b = 0
        · rw [if_pos e, if_pos e]
          exact ⟨D2, rfl, fun y hy => by rw [y2 y (by omega), x2 y (by omega) (by omega)], fun k a b => by rw [y2 32 (by omega), x3 k a b]⟩
        · have hP2 : DP D2 p r w T := h.mv (by rw [y2 33 (by omega), x2 33 (by omega) (by omega)]) (by rw [y2 32 (by omega), x3 17 (by omega) (by omega)])
          obtain ⟨D3, u1, u2, u3, u4, u5⟩ := stepsD1 (k := k) (by omega) hP2
          obtain ⟨D4, v1, v2⟩ := dimD_ok h.1 (by omega) u5 u4
          rw [if_neg e, if_neg e, u1, bv_s, v1, bd_s]
          exact ⟨D4, rfl, fun y hy => by rw [v2 y (by omega), u2 y (by omega) (by omega), y2 y (by omega), x2 y (by omega) (by omega)], fun k a b => by rw [v2 32 (by omega), u3 k a b, y2 32 (by omega), x3 k a b]⟩
      · rw [if_neg h2, if_pos rfl, if_neg h2]; exact ⟨D, rfl, fun _ _ => rfl, fun _ _ _ => rfl⟩
    · rw [if_neg h1, if_pos rfl, if_neg h1]; exact ⟨D, rfl, fun _ _ => rfl, fun _ _ _ => rfl⟩)
