/-! PURE: rule -/
noncomputable def chI (p r w : Nat) (T : Nat → Nat → Nat → Nat) (x k : Nat) : Int32 := nI (chN p r w T x k)
noncomputable def coI (p r w : Nat) (T : Nat → Nat → Nat → Nat) : Int32 := sumN 5 (mCI p r w T)
noncomputable def lfI (p r w : Nat) (T : Nat → Nat → Nat → Nat) (x : Nat) : Int32 := chI p r w T x 4 - 4 * coI p r w T
/-- how many of length j + 1 and more -/
noncomputable def lnI (p r w : Nat) (T : Nat → Nat → Nat → Nat) (x j : Nat) : Int32 := chI p r w T x (j + 1) - pvI (fun i => chI p r w T x (i + 1)) j - coI p r w T
theorem many_ok {f : Nat → Int32} {e : Nat} {D : Mem} (he : isI e = true) (hl : ln e = 5) (hD : ∀ k, k < 5 → D e k = f k) : Mo_manyOf e D = some (sumN 5 f, D) := by
  unfold Mo_manyOf
  rw [if_pos he]
  obtain ⟨D', g1, g2⟩ := lp (fun m k M' => Mo_manyOf_L4 m e (sumN k f) (nI k) M') (fun M' => some (sumN 5 f, M')) 5 (fun k M' => M' = D) (fun m M' _ => by
      show Mo_manyOf_L4 (m + 1) e (sumN 5 f) (nI 5) M' = _
      rw [Mo_manyOf_L4, if_pos (show (4 : Int32) < nI 5 by decide)]) (fun m k M' hk h' => by
      show ∃ M1, _ ∧ Mo_manyOf_L4 (m + 1) e (sumN k f) (nI k) M' = Mo_manyOf_L4 m e (sumN (k + 1) f) (nI (k + 1)) M1
      subst h'
      rw [Mo_manyOf_L4, if_neg (show ¬ (4 : Int32) < nI k from Int32.not_lt.mpr (nI_le (b := 4) (by omega) (by omega))), hl, if_pos (ibn (by omega) (by omega)), ixn (by omega), hD k hk, nI_1]
      exact ⟨M', rfl, rfl⟩) 5 FU 0 D (by omega) (FU_lt (by omega)) rfl
  subst g1
  exact g2
theorem findLong_ok {p r w x : Nat} {T : Nat → Nat → Nat → Nat} {D : Mem} (hx : x ≤ p) (hP : DP D p r w T) (hD : ∀ k, k < 5 → D 39 k = mCI p r w T k) : ∃ D', Mo_findLong (nI x) D = some D' ∧ (∀ y, y ≠ 32 → y ≠ 38 → y ≠ 41 → D' y = D y) ∧ (∀ y, y ≠ 15 → y ≠ 16 → D' 32 y = D 32 y) ∧ ∀ j, j < 4 → D' 41 (j + 1) = lnI p r w T x j := by
  unfold Mo_findLong
  rw [many_ok (e := 39) rfl rfl hD, bd_s]
  obtain ⟨D', g1, g2⟩ := lp (fun m k M' => Mo_findLong_L13 m (nI x) (sumN 5 (mCI p r w T)) (pvI (fun i => chI p r w T x (i + 1)) k) (nI (k + 1)) M') (fun M' => some M') 4 (fun k M' => (∀ y, y ≠ 32 → y ≠ 38 → y ≠ 41 → M' y = D y) ∧ (∀ y, y ≠ 15 → y ≠ 16 → M' 32 y = D 32 y) ∧ ∀ j, j < k → M' 41 (j + 1) = lnI p r w T x j) (fun m M' _ => by
      show Mo_findLong_L13 (m + 1) (nI x) (sumN 5 (mCI p r w T)) (pvI (fun i => chI p r w T x (i + 1)) 4) (nI 5) M' = _
      rw [Mo_findLong_L13, if_pos (show (4 : Int32) < nI 5 by decide)]) (fun m k M' hk h' => by
      show ∃ M1, _ ∧ Mo_findLong_L13 (m + 1) (nI x) (sumN 5 (mCI p r w T)) (pvI (fun i => chI p r w T x (i + 1)) k) (nI (k + 1)) M' = Mo_findLong_L13 m (nI x) (sumN 5 (mCI p r w T)) (pvI (fun i => chI p r w T x (i + 1)) (k + 1)) (nI (k + 1 + 1)) M1
      have q1 : DP M' p r w T := hP.mv (h'.1 33 (by omega) (by omega) (by omega)) (h'.2.1 17 (by omega) (by omega))
      obtain ⟨D1, x1, x2, x3⟩ := chainD_ok (x := x) (k := k + 1) hx (by omega) q1
      rw [Mo_findLong_L13, if_neg (show ¬ (4 : Int32) < nI (k + 1) from Int32.not_lt.mpr (nI_le (b := 4) (by omega) (by omega))), x1, bd_s, if_pos (ibn (by omega) (by omega)), ixn (by omega), nI_1]
      refine ⟨wr D1 41 (k + 1) (lnI p r w T x k), ⟨fun y a1 a2 a3 => by rw [wr_ne a3, x2 y a1 a2, h'.1 y a1 a2 a3], fun y a1 a2 => by rw [wr_ne (by omega), x3 y a1 a2, h'.2.1 y a1 a2], fun j hj => ?_⟩, rfl⟩
      by_cases q : j = k
      · subst q; rw [wr_s]
      · rw [wr_o (by omega), x2 41 (by omega) (by omega)]; exact h'.2.2 j (by omega)) 4 FU 0 D (by omega) (FU_lt (by omega)) ⟨fun _ _ _ _ => rfl, fun _ _ _ => rfl, fun j hj => by omega⟩
  exact ⟨D', g2, g1.1, g1.2.1, g1.2.2⟩
theorem lens_ok {p r w x : Nat} {T : Nat → Nat → Nat → Nat} {D : Mem} (hx : x ≤ p) (hP : DP D p r w T) (hD : ∀ k, k < 5 → D 39 k = mCI p r w T k) : ∃ D', Mo_lengthsAt (nI x) D = some (lfI p r w T x, D') ∧ (∀ y, y ≠ 32 → y ≠ 38 → y ≠ 41 → D' y = D y) ∧ ∀ y, y ≠ 15 → y ≠ 16 → D' 32 y = D 32 y := by
  obtain ⟨D', x1, x2, x3, x4⟩ := findLong_ok hx hP hD
  refine ⟨D', ?_, x2, x3⟩
  unfold Mo_lengthsAt
  rw [x1, bv_s, x4 0 (by omega), x4 1 (by omega), x4 2 (by omega), x4 3 (by omega)]
  congr 2
  unfold lnI lfI
  show chI p r w T x 1 - 0 - coI p r w T + (chI p r w T x 2 - chI p r w T x 1 - coI p r w T) + (chI p r w T x 3 - chI p r w T x 2 - coI p r w T) + (chI p r w T x 4 - chI p r w T x 3 - coI p r w T) = _
  grind
theorem but_ok {p r w : Nat} {T : Nat → Nat → Nat → Nat} {D : Mem} (hP : DP D p r w T) (hD : ∀ k, k < 5 → D 39 k = mCI p r w T k) : ∃ D', Mo_lengthsBut D = some (sumN p (lfI p r w T), D') ∧ (∀ y, y ≠ 32 → y ≠ 38 → y ≠ 41 → D' y = D y) ∧ ∀ y, y ≠ 15 → y ≠ 16 → D' 32 y = D 32 y := by
  have h7 := pr_le hP.1
  have e0 := hP.2.2.2.1
  unfold Mo_lengthsBut
  obtain ⟨D', g1, g2⟩ := lp (fun m k M' => Mo_lengthsBut_L4 m (sumN k (lfI p r w T)) (nI k) M') (fun M' => some (sumN p (lfI p r w T), M')) p (fun k M' => (∀ y, y ≠ 32 → y ≠ 38 → y ≠ 41 → M' y = D y) ∧ ∀ y, y ≠ 15 → y ≠ 16 → M' 32 y = D 32 y) (fun m M' h' => by
      show Mo_lengthsBut_L4 (m + 1) (sumN p (lfI p r w T)) (nI p) M' = _
      rw [Mo_lengthsBut_L4, h'.1 33 (by omega) (by omega) (by omega), e0, if_pos (Int32.le_refl _)]) (fun m k M' hk h' => by
      show ∃ M1, _ ∧ Mo_lengthsBut_L4 (m + 1) (sumN k (lfI p r w T)) (nI k) M' = Mo_lengthsBut_L4 m (sumN (k + 1) (lfI p r w T)) (nI (k + 1)) M1
      have q1 : DP M' p r w T := hP.mv (h'.1 33 (by omega) (by omega) (by omega)) (h'.2 17 (by omega) (by omega))
      obtain ⟨D1, x1, x2, x3⟩ := lens_ok (x := k) (by omega) q1 (fun j hj => by rw [h'.1 39 (by omega) (by omega) (by omega)]; exact hD j hj)
      rw [Mo_lengthsBut_L4, h'.1 33 (by omega) (by omega) (by omega), e0, if_neg (nI_ge hk (by omega)), x1, bd_s, nI_1]
      exact ⟨D1, ⟨fun y a1 a2 a3 => by rw [x2 y a1 a2 a3, h'.1 y a1 a2 a3], fun y a1 a2 => by rw [x3 y a1 a2, h'.2 y a1 a2]⟩, rfl⟩) p FU 0 D (by omega) (FU_lt (by omega)) ⟨fun _ _ _ _ => rfl, fun _ _ _ => rfl⟩
  exact ⟨D', g2, g1.1, g1.2⟩
noncomputable def ciI (p r w : Nat) (T : Nat → Nat → Nat → Nat) (k : Nat) : Int32 := (nI k + 1) * mCI p r w T k + nI k * mCI p w r (tr T) k
theorem rest_ok {p r w : Nat} {T : Nat → Nat → Nat → Nat} {D : Mem} (hP : DP D p r w T) (h0 : D 32 17 = 0) (hD : ∀ k, k < 5 → D 39 k = mCI p r w T k) (hE : ∀ k, k < 5 → D 40 k = mCI p w r (tr T) k) : ∃ D', Mo_rest D = some (nI w - sumN 5 (ciI p r w T) - sumN (p + 1) (lfI p r w T), D') ∧ (∀ y, y ≠ 32 → y ≠ 38 → y ≠ 41 → D' y = D y) ∧ ∀ y, y ≠ 15 → y ≠ 16 → D' 32 y = D 32 y := by
  obtain ⟨D1, x1, x2, x3⟩ := but_ok hP hD
  have q1 : DP D1 p r w T := hP.mv (x2 33 (by omega) (by omega) (by omega)) (x3 17 (by omega) (by omega))
  obtain ⟨D2, y1, y2, y3⟩ := lens_ok (x := p) (Nat.le_refl _) q1 (fun j hj => by rw [x2 39 (by omega) (by omega) (by omega)]; exact hD j hj)
  have ew : D 33 2 = nI w := by
    obtain ⟨_, _, _, _, h | h⟩ := hP
    · exact h.2.2.1
    · exact absurd (h0.symm.trans h.1) (by decide)
  unfold Mo_rest
  rw [x1, bd_s, x2 33 (by omega) (by omega) (by omega), hP.2.2.2.1, y1, bd_s, ew]
  obtain ⟨D', g1, g2⟩ := lp (fun m k M' => Mo_rest_L25 m (nI w - sumN p (lfI p r w T) - lfI p r w T p - sumN k (ciI p r w T)) (nI k) M') (fun M' => some (nI w - sumN p (lfI p r w T) - lfI p r w T p - sumN 5 (ciI p r w T), M')) 5 (fun k M' => M' = D2) (fun m M' _ => by
      show Mo_rest_L25 (m + 1) _ (nI 5) M' = _
      rw [Mo_rest_L25, if_pos (show (4 : Int32) < nI 5 by decide)]) (fun m k M' hk h' => by
      show ∃ M1, _ ∧ Mo_rest_L25 (m + 1) (nI w - sumN p (lfI p r w T) - lfI p r w T p - sumN k (ciI p r w T)) (nI k) M' = Mo_rest_L25 m (nI w - sumN p (lfI p r w T) - lfI p r w T p - sumN (k + 1) (ciI p r w T)) (nI (k + 1)) M1
      subst h'
      rw [Mo_rest_L25, if_neg (show ¬ (4 : Int32) < nI k from Int32.not_lt.mpr (nI_le (b := 4) (by omega) (by omega))), if_pos (ibn (by omega) (by omega)), if_pos (ibn (by omega) (by omega)), ixn (by omega), y2 39 (by omega) (by omega) (by omega), x2 39 (by omega) (by omega) (by omega), hD k hk, y2 40 (by omega) (by omega) (by omega), x2 40 (by omega) (by omega) (by omega), hE k hk, nI_1]
      refine ⟨M', rfl, ?_⟩
      have e : nI w - sumN p (lfI p r w T) - lfI p r w T p - sumN k (ciI p r w T) - ((nI (k + 1)) * mCI p r w T k + nI k * mCI p w r (tr T) k) = nI w - sumN p (lfI p r w T) - lfI p r w T p - sumN (k + 1) (ciI p r w T) := by
        rw [sumN]
        show _ = nI w - sumN p (lfI p r w T) - lfI p r w T p - (sumN k (ciI p r w T) + ((nI k + 1) * mCI p r w T k + nI k * mCI p w r (tr T) k))
        rw [nI_1]
        grind
      rw [e]) 5 FU 0 D2 (by omega) (FU_lt (by omega)) rfl
  subst g1
  refine ⟨D', ?_, fun y a1 a2 a3 => by rw [y2 y a1 a2 a3, x2 y a1 a2 a3], fun y a1 a2 => by rw [y3 y a1 a2, x3 y a1 a2]⟩
  have e : nI w - sumN p (lfI p r w T) - lfI p r w T p - sumN 0 (ciI p r w T) = nI w - sumN p (lfI p r w T) - lfI p r w T p := by
    show nI w - sumN p (lfI p r w T) - lfI p r w T p - 0 = _
    grind
  have e2 : ∀ a b c d : Int32, a - b - c - d = a - d - (b + c) := fun a b c d => by grind
  have g3 : Mo_rest_L25 FU (nI w - sumN p (lfI p r w T) - lfI p r w T p - sumN 0 (ciI p r w T)) 0 D' = some (nI w - sumN p (lfI p r w T) - lfI p r w T p - sumN 5 (ciI p r w T), D') := g2
  rw [e, e2] at g3
  exact g3
/-! the class -/
theorem lensC_ok {c p r w a b : Nat} {T : Nat → Nat → Nat → Nat} {C : Mem} (hc : okc c) (n1 : 27 ≠ c) (n2 : 27 ≠ c + 1) (hP : PC C c p r w T) (hb : b ≤ p) (hab : a ≤ b + 1) : ∃ C', Un_lengthsFrom c (nI a) (nI b) C = some (sumN (b + 1 - a) (fun j => lfI p r w T (a + j)), C') ∧ ∀ y, y ≠ 23 → y ≠ 24 → y ≠ 27 → C' y = C y := by
  have h7 := pr_le hP.1
  obtain ⟨C1, x1, x2, x3⟩ := countC_ok (e := 27) hc rfl rfl n1 n2 (by omega) (by omega) hP
  have hP1 : PC C1 c p r w T := hP.mv (x2 c hc.2.1 hc.2.2.1 (Ne.symm n1)) (x2 (c + 1) hc.2.2.2.1 hc.2.2.2.2 (Ne.symm n2))
  unfold Un_lengthsFrom
  rw [if_pos hc.1, x1, bd_s]
  obtain ⟨C', g1, g2⟩ := lp (fun m i M' => Un_lengthsFrom_L17 m c (nI b) (sumN 5 (mCI p r w T)) (sumN i (fun j => lfI p r w T (a + j))) (nI (a + i)) M') (fun M' => some (sumN (b + 1 - a) (fun j => lfI p r w T (a + j)), M')) (b + 1 - a) (fun i M' => ∀ y, y ≠ 23 → y ≠ 24 → M' y = C1 y) (fun m M' _ => by
      show Un_lengthsFrom_L17 (m + 1) c (nI b) (sumN 5 (mCI p r w T)) (sumN (b + 1 - a) (fun j => lfI p r w T (a + j))) (nI (a + (b + 1 - a))) M' = _
      rw [Un_lengthsFrom_L17, show a + (b + 1 - a) = b + 1 by omega, if_pos ((lt_sI (by omega)).mpr (Int32.le_refl _))]) (fun m i M' hi h' => by
      show ∃ M1, _ ∧ Un_lengthsFrom_L17 (m + 1) c (nI b) (sumN 5 (mCI p r w T)) (sumN i (fun j => lfI p r w T (a + j))) (nI (a + i)) M' = Un_lengthsFrom_L17 m c (nI b) (sumN 5 (mCI p r w T)) (sumN (i + 1) (fun j => lfI p r w T (a + j))) (nI (a + (i + 1))) M1
      obtain ⟨C2, y1, y2⟩ := chainsAt_ok (x := a + i) (k := 4) hc (by omega) (by omega) (hP1.mv (h' c hc.2.1 hc.2.2.1) (h' (c + 1) hc.2.2.2.1 hc.2.2.2.2))
      rw [Un_lengthsFrom_L17, if_neg (Int32.not_lt.mpr (nI_le (by omega) (by omega))), if_neg (show ¬ (7 : Int32) < nI (a + i) from Int32.not_lt.mpr (nI_le (b := 7) (by omega) (by omega))), show Un_chainsAt c (nI (a + i)) 4 M' = some (nI (chN p r w T (a + i) 4), C2) from y1, bd_s, nI_1]
      exact ⟨C2, fun y a1 a2 => by rw [y2 y a1 a2, h' y a1 a2], rfl⟩) (b + 1 - a) FU 0 C1 (by omega) (FU_lt (by omega)) (fun _ _ _ => rfl)
  exact ⟨C', g2, fun y a1 a2 a3 => by rw [g1 y a1 a2, x2 y a1 a2 a3]⟩
theorem cidxC_ok {p r w : Nat} {T : Nat → Nat → Nat → Nat} {C : Mem} (hP : PC C 5 p r w T) : ∃ C', Un_columnsOfIndices 5 C = some (sumN 5 (ciI p r w T), C') ∧ ∀ y, y < 22 ∨ 32 ≤ y → C' y = C y := by
  obtain ⟨C1, x1, x2, x3⟩ := countC_ok (e := 27) okc5 rfl rfl (by omega) (by omega) (by omega) (by omega) hP
  have hP1 : PC C1 5 p r w T := hP.mv (x2 5 (by omega) (by omega) (by omega)) (x2 6 (by omega) (by omega) (by omega))
  obtain ⟨C2, y1, y2, y3⟩ := flipOf_ok okc5 (by omega) (by omega) (by omega) hP1
  obtain ⟨C3, z1, z2, z3⟩ := countC_ok (e := 28) okc25 rfl rfl (by omega) (by omega) (by omega) (by omega) y3
  unfold Un_columnsOfIndices
  rw [if_pos isP5, x1, bd_s, y1, bv_s, z1, bd_s]
  obtain ⟨D', g1, g2⟩ := lp (fun m k M' => Un_columnsOfIndices_L28 m (sumN k (ciI p r w T)) (nI k) M') (fun M' => some (sumN 5 (ciI p r w T), M')) 5 (fun k M' => M' = C3) (fun m M' _ => by
      show Un_columnsOfIndices_L28 (m + 1) _ (nI 5) M' = _
      rw [Un_columnsOfIndices_L28, if_pos (show (5 : Int32) ≤ nI 5 by decide)]) (fun m k M' hk h' => by
      show ∃ M1, _ ∧ Un_columnsOfIndices_L28 (m + 1) (sumN k (ciI p r w T)) (nI k) M' = Un_columnsOfIndices_L28 m (sumN (k + 1) (ciI p r w T)) (nI (k + 1)) M1
      subst h'
      refine ⟨M', rfl, ?_⟩
      rw [Un_columnsOfIndices_L28, if_neg (show ¬ (5 : Int32) ≤ nI k from nI_ge (b := 5) hk (by omega)), if_pos (ibn (by omega) (by omega)), if_pos (ibn (by omega) (by omega)), ixn (by omega), z2 27 (by omega) (by omega) (by omega), y2 27 (by omega) (by omega), x3 k hk, z3 k hk, sumN, ← nI_1]
      rfl) 5 FU 0 C3 (by omega) (FU_lt (by omega)) rfl
  subst g1
  exact ⟨D', g2, fun y hy => by rw [z2 y (by omega) (by omega) (by omega), y2 y (by omega) (by omega), x2 y (by omega) (by omega) (by omega)]⟩
theorem op_rule : Op_rule Rel := fun M a hR => hR.ask (fC := fun C => Pf_rule a C) (fD := fun D => Mo_rule a D) (fun p r w T => if a = 0 then nI r else if a = 1 then nI w else if a = 2 then nI p else if a = 3 then coI p r w T else if a = 4 then coI p w r (tr T) else if a = 5 then lfI p r w T p else if a = 6 then sumN p (lfI p r w T) else if a = 7 then nI w - sumN 5 (ciI p r w T) - sumN (p + 1) (lfI p r w T) else -1)
  (fun C p r w T h => by
    have h7 := pr_le h.1
    have same : ∀ v : Int32, ∃ C', some (v, C) = some (v, C') ∧ ∀ x : Nat, x < 22 ∨ 32 ≤ x → C' x = C x := fun v => ⟨C, rfl, fun _ _ => rfl⟩
    have ez : (fun j => lfI p r w T (0 + j)) = lfI p r w T := funext (fun j => by rw [Nat.zero_add])
    show ∃ C', Pf_rule a C = _ ∧ _
    unfold Pf_rule
    rw [h.2.2.2.1, h.2.2.2.2.1, h.2.2.2.2.2.1]
    by_cases a0 : a = 0
    · rw [if_pos a0, if_pos a0]; exact same _
    rw [if_neg a0, if_neg a0]
    by_cases a1 : a = 1
    · rw [if_pos a1, if_pos a1]; exact same _
    rw [if_neg a1, if_neg a1]
    by_cases a2 : a = 2
    · rw [if_pos a2, if_pos a2]; exact same _
    rw [if_neg a2, if_neg a2]
    by_cases a3 : a = 3
    · rw [if_pos a3, if_pos a3]
      obtain ⟨C1, x1, x2, x3⟩ := countC_ok (e := 27) okc5 rfl rfl (by omega) (by omega) (by omega) (by omega) h
      unfold Un_howManyCols
      rw [if_pos isP5, x1, bd_s, bd_s]
      exact ⟨C1, rfl, fun y hy => x2 y (by omega) (by omega) (by omega)⟩
    rw [if_neg a3, if_neg a3]
    by_cases a4 : a = 4
    · rw [if_pos a4, if_pos a4]
      obtain ⟨C0, y1, y2, y3⟩ := flipOf_ok okc5 (by omega) (by omega) (by omega) h
      obtain ⟨C1, x1, x2, x3⟩ := countC_ok (e := 28) okc25 rfl rfl (by omega) (by omega) (by omega) (by omega) y3
      unfold Un_howManyRows
      rw [if_pos isP5, y1, bv_s, x1, bd_s, bd_s]
      exact ⟨C1, rfl, fun y hy => by rw [x2 y (by omega) (by omega) (by omega), y2 y (by omega) (by omega)]⟩
    rw [if_neg a4, if_neg a4]
    by_cases a5 : a = 5
    · rw [if_pos a5, if_pos a5]
      obtain ⟨C1, x1, x2⟩ := lensC_ok (a := p) (b := p) okc5 (by omega) (by omega) h (Nat.le_refl _) (by omega)
      rw [x1, bd_s]
      refine ⟨C1, ?_, fun y hy => x2 y (by omega) (by omega) (by omega)⟩
      rw [show p + 1 - p = 1 by omega]
      show some ((0 : Int32) + lfI p r w T (p + 0), C1) = _
      rw [show (0 : Int32) + lfI p r w T (p + 0) = lfI p r w T p by rw [Nat.add_zero]; grind]
    rw [if_neg a5, if_neg a5]
    by_cases a6 : a = 6
    · rw [if_pos a6, if_pos a6, show nI p - 1 = nI (p - 1) from nIs (b := 1) (by omega)]
      obtain ⟨C1, x1, x2⟩ := lensC_ok (a := 0) (b := p - 1) okc5 (by omega) (by omega) h (by omega) (by omega)
      rw [ez, show p - 1 + 1 - 0 = p by omega] at x1
      rw [show Un_lengthsFrom 5 0 (nI (p - 1)) C = _ from x1, bd_s]
      exact ⟨C1, rfl, fun y hy => x2 y (by omega) (by omega) (by omega)⟩
    rw [if_neg a6, if_neg a6]
    by_cases a7 : a = 7
    · rw [if_pos a7, if_pos a7]
      obtain ⟨C1, x1, x2⟩ := cidxC_ok h
      obtain ⟨C2, y1, y2⟩ := lensC_ok (a := 0) (b := p) okc5 (by omega) (by omega) (h.mv (x2 5 (by omega)) (x2 6 (by omega))) (Nat.le_refl _) (by omega)
      rw [ez, show p + 1 - 0 = p + 1 by omega] at y1
      rw [x1, bd_s, x2 5 (by omega), h.2.2.2.1, show Un_lengthsFrom 5 0 (nI p) C1 = _ from y1, bd_s]
      exact ⟨C2, rfl, fun y hy => by rw [y2 y (by omega) (by omega) (by omega), x2 y hy]⟩
    rw [if_neg a7, if_neg a7]; exact same _)
  (fun D p r w T h h0 => by
    obtain ⟨D1, x1, x2, x3, x4, x5⟩ := findAll_ok h h0
    have q1 : DP D1 p r w T := h.mv (x2 33 (by omega) (by omega) (by omega) (by omega)) (x3 17 (by omega) (by omega))
    have q0 : D1 32 17 = 0 := (x3 17 (by omega) (by omega)).trans h0
    have fr : ∀ D' : Mem, (∀ y, y ≠ 32 → y ≠ 38 → y ≠ 41 → D' y = D1 y) → (∀ y, y ≠ 15 → y ≠ 16 → D' 32 y = D1 32 y) → (∀ x, x < 32 ∨ (32 < x ∧ x < 38) ∨ 46 ≤ x → D' x = D x) ∧ ∀ k, k ≠ 15 → k ≠ 16 → D' 32 k = D 32 k := fun D' f1 f2 => ⟨fun y hy => by rw [f1 y (by omega) (by omega) (by omega), x2 y (by omega) (by omega) (by omega) (by omega)], fun k a b => by rw [f2 k a b, x3 k a b]⟩
    have same : ∀ v : Int32, ∃ D', some (v, D1) = some (v, D') ∧ (∀ x, x < 32 ∨ (32 < x ∧ x < 38) ∨ 46 ≤ x → D' x = D x) ∧ ∀ k, k ≠ 15 → k ≠ 16 → D' 32 k = D 32 k := fun v => ⟨D1, rfl, fr D1 (fun _ _ _ _ => rfl) (fun _ _ _ => rfl)⟩
    have e12 : D1 33 1 = nI r ∧ D1 33 2 = nI w := by
      obtain ⟨_, _, _, _, g | g⟩ := q1
      · exact ⟨g.2.1, g.2.2.1⟩
      · exact absurd (q0.symm.trans g.1) (by decide)
    show ∃ D', Mo_rule a D = _ ∧ _
    unfold Mo_rule
    rw [x1, bv_s, e12.1, e12.2, q1.2.2.2.1]
    by_cases a0 : a = 0
    · rw [if_pos a0, if_pos a0]; exact same _
    rw [if_neg a0, if_neg a0]
    by_cases a1 : a = 1
    · rw [if_pos a1, if_pos a1]; exact same _
    rw [if_neg a1, if_neg a1]
    by_cases a2 : a = 2
    · rw [if_pos a2, if_pos a2]; exact same _
    rw [if_neg a2, if_neg a2]
    by_cases a3 : a = 3
    · rw [if_pos a3, if_pos a3, many_ok (e := 39) rfl rfl x4, bd_s]; exact same _
    rw [if_neg a3, if_neg a3]
    by_cases a4 : a = 4
    · rw [if_pos a4, if_pos a4, many_ok (e := 40) rfl rfl x5, bd_s]; exact same _
    rw [if_neg a4, if_neg a4]
    by_cases a5 : a = 5
    · rw [if_pos a5, if_pos a5]
      obtain ⟨D2, y1, y2, y3⟩ := lens_ok (x := p) (Nat.le_refl _) q1 x4
      rw [y1, bd_s]
      exact ⟨D2, rfl, fr D2 y2 y3⟩
    rw [if_neg a5, if_neg a5]
    by_cases a6 : a = 6
    · rw [if_pos a6, if_pos a6]
      obtain ⟨D2, y1, y2, y3⟩ := but_ok q1 x4
      rw [y1, bd_s]
      exact ⟨D2, rfl, fr D2 y2 y3⟩
    rw [if_neg a6, if_neg a6]
    by_cases a7 : a = 7
    · rw [if_pos a7, if_pos a7]
      obtain ⟨D2, y1, y2, y3⟩ := rest_ok q1 q0 x4 x5
      rw [y1, bd_s]
      exact ⟨D2, rfl, fr D2 y2 y3⟩
    rw [if_neg a7, if_neg a7]; exact same _)
