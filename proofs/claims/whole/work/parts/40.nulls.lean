/-! PURE: nulls, steps -/
def KN (p r w : Nat) (T : Nat → Nat → Nat → Nat) (s : Nat) : Kt := fun b c i j => if c < s ∧ i < r ∧ j < w then (if b = c then vl2 p T 1 0 i j else if b = c + 1 then vl2 p T 0 (-1) i j else 0) else 0
theorem KN_0 {p r w : Nat} {T : Nat → Nat → Nat → Nat} : KN p r w T 0 = K0 := by
  funext b c i j
  exact if_neg (by omega)
theorem KN_s {p r w s : Nat} {T : Nat → Nat → Nat → Nat} : bk (bk (KN p r w T s) s s r w (vl2 p T 1 0)) (s + 1) s r w (vl2 p T 0 (-1)) = KN p r w T (s + 1) := by
  funext b c i j
  unfold bk KN
  grind
theorem KN_z1 {p r w s b : Nat} {T : Nat → Nat → Nat → Nat} : ∀ i j, KN p r w T s b s i j = 0 := fun i j => if_neg (by omega)
theorem KN_z2 {p r w s : Nat} {T : Nat → Nat → Nat → Nat} {v : Nat → Nat → Nat} : ∀ i j, bk (KN p r w T s) s s r w v (s + 1) s i j = 0 := fun i j => by
  unfold bk
  rw [if_neg (by omega)]
  exact KN_z1 i j
noncomputable def nlN (p r w : Nat) (T : Nat → Nat → Nat → Nat) (k : Nat) : Nat := dmn p ((k + 2) * r) ((k + 1) * w) (ff r w (KN p r w T (k + 1)))
theorem mul24 {k r : Nat} (hk : k ≤ 4) (hr : r ≤ 4) : (k + 2) * r ≤ 24 := Nat.mul_le_mul (show k + 2 ≤ 6 by omega) hr
theorem mul20 {k r : Nat} (hk : k ≤ 4) (hr : r ≤ 4) : (k + 1) * r ≤ 20 := Nat.mul_le_mul (show k + 1 ≤ 5 by omega) hr
theorem nullsC_ok {c p r w k : Nat} {T : Nat → Nat → Nat → Nat} (hc : okc c) (hk : k ≤ 4) {C : Mem} (hP : PC C c p r w T) : ∃ C', Un_nullsOf c (nI k) C = some (nI (nlN p r w T k), C') ∧ ∀ y, y ≠ 23 → y ≠ 24 → C' y = C y := by
  have hP2 := hP
  obtain ⟨hp, hr, hw, e1, e2, e3, hv⟩ := hP2
  have b1 := mul24 hk hr
  have b2 := mul20 hk hw
  obtain ⟨C1, x1, x2, x3⟩ := begin_ok (H := k + 2) (W := k + 1) hc hP b1 b2
  have hP1 := hP.mv (x2 c hc.2.1 hc.2.2.1) (x2 (c + 1) hc.2.2.2.1 hc.2.2.2.2)
  unfold Un_nullsOf
  rw [if_pos hc.1, show nI k + 2 = nI (k + 2) from nIa k 2, show nI k + 1 = nI (k + 1) from nIa k 1, x1, bv_s]
  obtain ⟨C', g1, g2⟩ := lp (fun m s M' => Un_nullsOf_L16 m c (nI k) (nI s) M') (fun M' => bd (Eq_useUpForRank M') fun r3 M1 => some (M' 23 3 - r3, M1)) (k + 1) (fun s M' => (∀ y, y ≠ 24 → M' y = C1 y) ∧ MW M' p ((k + 2) * r) ((k + 1) * w) (ff r w (KN p r w T s))) (fun m M' _ => by
      show Un_nullsOf_L16 (m + 1) c (nI k) (nI (k + 1)) M' = _
      rw [Un_nullsOf_L16, if_pos ((lt_sI (by omega)).mpr (Int32.le_refl _))]) (fun m s M' hs h' => by
      show ∃ M1, _ ∧ Un_nullsOf_L16 (m + 1) c (nI k) (nI s) M' = Un_nullsOf_L16 m c (nI k) (nI (s + 1)) M1
      have q1 := hP1.mv (h'.1 c hc.2.2.1) (h'.1 (c + 1) hc.2.2.2.2)
      obtain ⟨C2, y1, y2, y3⟩ := putB_ok (bi := s) (bj := s) (a := 1) (b := 0) hc q1 h'.2 (by omega) (by omega) (blk_in (by omega)) (blk_in (by omega))
      have q2 := q1.mv (y2 c hc.2.2.1) (y2 (c + 1) hc.2.2.2.2)
      obtain ⟨C3, z1, z2, z3⟩ := putB_ok (bi := s + 1) (bj := s) (a := 0) (b := -1) hc q2 y3 (by omega) (by omega) (blk_in (by omega)) (blk_in (by omega))
      rw [KN_s] at z3
      rw [Un_nullsOf_L16, if_neg (Int32.not_lt.mpr (nI_le (by omega) (by omega))), show Eq_putBlock c (nI s) (nI s) 1 0 M' = some C2 from y1, bv_s, nI_1, show Eq_putBlock c (nI (s + 1)) (nI s) 0 (-1) C2 = some C3 from z1, bv_s]
      exact ⟨C3, ⟨fun y hy => by rw [z2 y hy, y2 y hy, h'.1 y hy], z3⟩, rfl⟩) (k + 1) FU 0 C1 (by omega) (FU_lt (by omega)) ⟨fun _ _ => rfl, by rw [KN_0]; exact x3⟩
  obtain ⟨C2, y1, y2, y3, _⟩ := use_dm hp g1.2.mc
  have hg : Un_nullsOf_L16 FU c (nI k) 0 C1 = bd (Eq_useUpForRank C') fun r3 M1 => some (C' 23 3 - r3, M1) := g2
  refine ⟨C2, ?_, fun y n1 n2 => by rw [y2 y n2, g1.1 y n2, x2 y n1 n2]⟩
  rw [hg, y1, bd_s, g1.2.2.2.1, nIs (by omega), show (k + 1) * w - ((k + 1) * w - dmn p ((k + 2) * r) ((k + 1) * w) (ff r w (KN p r w T (k + 1)))) = nlN p r w T k by unfold nlN; omega]
theorem Sol.neg {p h n : Nat} {F G : Nat → Nat → Nat} (hh : ∀ i, i < h → (∀ j, j < n → F i j = G i j) ∨ (∀ j, j < n → (p : Int) ∣ (F i j : Int) + (G i j : Int))) (x : Nat → Int) : Sol p h n F x ↔ Sol p h n G x := by
  have key : ∀ i, i < h → ((p : Int) ∣ dt n (F i) x ↔ (p : Int) ∣ dt n (G i) x) := fun i hi => by
    rcases hh i hi with q | q
    · rw [dt_cg q (fun _ _ => rfl)]
    · have l := dt_lin (x := x) (a := -1) (b := 0) (R := F i) (S := F i) (T := G i) (fun j hj => by
        have := q j hj
        rwa [show (G i j : Int) - (-1 * (F i j : Int) - 0 * (F i j : Int)) = (F i j : Int) + (G i j : Int) by omega])
      constructor
      · intro z
        have := Int.dvd_sub l z
        rwa [show dt n (G i) x - (-1 * dt n (F i) x - 0 * dt n (F i) x) - dt n (F i) x = dt n (G i) x by omega] at this
      · intro z
        have := Int.dvd_sub l z
        rwa [show dt n (G i) x - (-1 * dt n (F i) x - 0 * dt n (F i) x) - dt n (G i) x = dt n (F i) x by omega] at this
  exact ⟨fun g i hi => (key i hi).mp (g i hi), fun g i hi => (key i hi).mpr (g i hi)⟩
theorem KN_neg {p r w k : Nat} {T : Nat → Nat → Nat → Nat} (hp : 0 < p) (i j : Nat) : (∀ j, ff r w (bk (bk (KN p r w T k) k k r w (vl2 p T 1 0)) (k + 1) k r w (vl2 p T 0 1)) i j = ff r w (KN p r w T (k + 1)) i j) ∨ (∀ j, (p : Int) ∣ (ff r w (bk (bk (KN p r w T k) k k r w (vl2 p T 1 0)) (k + 1) k r w (vl2 p T 0 1)) i j : Int) + (ff r w (KN p r w T (k + 1)) i j : Int)) := by
  by_cases e : i / r = k + 1
  · refine .inr (fun j => ?_)
    unfold ff
    rw [e, ← KN_s]
    unfold bk
    by_cases q : k + 1 = k + 1 ∧ j / w = k ∧ i % r < r ∧ j % w < w
    · rw [if_pos q, if_pos q]
      unfold vl2
      have d1 := md_dvd (z := 0 * (T 0 (i % r) (j % w) : Int) + 1 * (T 1 (i % r) (j % w) : Int)) hp
      have d2 := md_dvd (z := 0 * (T 0 (i % r) (j % w) : Int) + (-1) * (T 1 (i % r) (j % w) : Int)) hp
      have := Int.dvd_add d1 d2
      rwa [show ∀ a b : Int, a - (0 * (T 0 (i % r) (j % w) : Int) + 1 * (T 1 (i % r) (j % w) : Int)) + (b - (0 * (T 0 (i % r) (j % w) : Int) + (-1) * (T 1 (i % r) (j % w) : Int))) = a + b from fun a b => by omega] at this
    · rw [if_neg q, if_neg q, if_neg (by omega)]
      unfold KN
      by_cases q2 : j / w < k ∧ i % r < r ∧ j % w < w
      · rw [if_pos q2, if_neg (by omega), if_neg (by omega)]; simp
      · rw [if_neg q2]; simp
  · refine .inl (fun j => ?_)
    rw [← KN_s]
    unfold ff bk
    rw [if_neg (show ¬ (i / r = k + 1 ∧ j / w = k ∧ i % r < r ∧ j % w < w) from fun z => e z.1), if_neg (show ¬ (i / r = k + 1 ∧ j / w = k ∧ i % r < r ∧ j % w < w) from fun z => e z.1)]
theorem nullsD_ok {p r w k : Nat} {T : Nat → Nat → Nat → Nat} (hk : k ≤ 4) {D : Mem} (hP : DP D p r w T) : ∃ D', Mo_nullsOf (nI k) D = some (nI (nlN p r w T k), D') ∧ (∀ y, y ≠ 32 → y ≠ 38 → D' y = D y) ∧ ∀ y, y ≠ 15 → y ≠ 16 → D' 32 y = D 32 y := by
  have hp := hP.1
  have h7 := pr_le hp
  have b1 := mul24 hk hP.2.1
  have b2 := mul20 hk hP.2.2.1
  obtain ⟨D1, x1, x2, x3, x4, x5⟩ := startL_ok (H := k + 2) (W := k + 1) hP b1 b2
  have hP1 : DP D1 p r w T := hP.mv (x2 33 (by omega) (by omega)) (x3 17 (by omega) (by omega))
  unfold Mo_nullsOf
  rw [if_pos (nI_pos' (by omega)), show nI k + 2 = nI (k + 2) from nIa k 2, show nI k + 1 = nI (k + 1) from nIa k 1, x1, bv_s]
  have one : ∀ (s : Nat) (M' : Mem) (b : Int), s ≤ k → (∀ y, y ≠ 38 → M' y = D1 y) → MD M' p ((k + 2) * r) (ff r w (KN p r w T s)) → -7 ≤ b ∧ b ≤ 7 → ∃ C2 C3, Mo_adds (nI s) (nI s) 1 0 M' = some C2 ∧ Mo_adds (nI (s + 1)) (nI s) 0 (Int32.ofInt b) C2 = some C3 ∧ (∀ y, y ≠ 38 → C3 y = D1 y) ∧ MD C3 p ((k + 2) * r) (ff r w (bk (bk (KN p r w T s) s s r w (vl2 p T 1 0)) (s + 1) s r w (vl2 p T 0 b))) := fun s M' b hs f1 f2 hb => by
    have q1 : DP M' p r w T := hP1.mv (f1 33 (by omega)) (by rw [f1 32 (by omega)])
    have c1 := blk_in (r := w) (show s < k + 1 by omega)
    obtain ⟨C2, y1, y2, y3⟩ := addB_ok (bi := s) (bj := s) (a := 1) (b := 0) q1 f2 (by omega) (by omega) (blk_in (by omega)) (by omega)
    rw [bk_zero KN_z1] at y3
    have q2 : DP C2 p r w T := q1.mv (y2 33 (by omega)) (by rw [y2 32 (by omega)])
    obtain ⟨C3, z1, z2, z3⟩ := addB_ok (bi := s + 1) (bj := s) (a := 0) (b := b) q2 y3 (by omega) hb (blk_in (by omega)) (by omega)
    rw [bk_zero KN_z2] at z3
    exact ⟨C2, C3, y1, z1, fun y hy => by rw [z2 y hy, y2 y hy, f1 y hy], z3⟩
  obtain ⟨D', g1, g2⟩ := lp (fun m s M' => Mo_nullsOf_L18 m (nI k) (nI s) M') (fun M' => bd (Mo_dimension M') fun r3 M1 => some (r3, M1)) (k + 1) (fun s M' => (∀ y, y ≠ 38 → M' y = D1 y) ∧ (s ≤ k → MD M' p ((k + 2) * r) (ff r w (KN p r w T s))) ∧ (s = k + 1 → MD M' p ((k + 2) * r) (ff r w (bk (bk (KN p r w T k) k k r w (vl2 p T 1 0)) (k + 1) k r w (vl2 p T 0 1))))) (fun m M' _ => by
      show Mo_nullsOf_L18 (m + 1) (nI k) (nI (k + 1)) M' = _
      rw [Mo_nullsOf_L18, if_pos ((lt_sI (by omega)).mpr (Int32.le_refl _))]) (fun m s M' hs h' => by
      show ∃ M1, _ ∧ Mo_nullsOf_L18 (m + 1) (nI k) (nI s) M' = Mo_nullsOf_L18 m (nI k) (nI (s + 1)) M1
      rw [Mo_nullsOf_L18, if_neg (Int32.not_lt.mpr (nI_le (by omega) (by omega)))]
      by_cases e : s = k
      · subst e
        obtain ⟨C2, C3, y1, y2, y3, y4⟩ := one s M' 1 (by omega) h'.1 (h'.2.1 (by omega)) (by omega)
        rw [y1, bv_s, if_pos rfl, Mo_nullsOf_b47, nI_1, show Mo_adds (nI (s + 1)) (nI s) 0 1 C2 = some C3 from y2, bv_s]
        exact ⟨C3, ⟨y3, fun z => by omega, fun _ => y4⟩, rfl⟩
      · obtain ⟨C2, C3, y1, y2, y3, y4⟩ := one s M' (-1) (by omega) h'.1 (h'.2.1 (by omega)) (by omega)
        rw [KN_s] at y4
        rw [y1, bv_s, if_neg (fun z => e ((nI_eq (by omega) (by omega)).mp z)), Mo_nullsOf_b47, nI_1, show Mo_adds (nI (s + 1)) (nI s) 0 (-1) C2 = some C3 from y2, bv_s]
        exact ⟨C3, ⟨y3, fun z => y4, fun z => by omega⟩, rfl⟩) (k + 1) FU 0 D1 (by omega) (FU_lt (by omega)) ⟨fun _ _ => rfl, fun _ => by rw [KN_0]; exact x5, fun z => by omega⟩
  obtain ⟨D3, w1, w2⟩ := dimD_ok (m := (k + 1) * w) hp b2 (g1.2.2 rfl) (by rw [g1.1 32 (by omega)]; exact x4)
  have hg : Mo_nullsOf_L18 FU (nI k) 0 D1 = bd (Mo_dimension D') fun r3 M1 => some (r3, M1) := g2
  refine ⟨D3, ?_, fun y n1 n2 => by rw [w2 y n2, g1.1 y n2, x2 y n1 n2], fun y n1 n2 => by rw [w2 32 (by omega), g1.1 32 (by omega), x3 y n1 n2]⟩
  rw [hg, w1, bd_s]
  have : dmn p ((k + 2) * r) ((k + 1) * w) (ff r w (bk (bk (KN p r w T k) k k r w (vl2 p T 1 0)) (k + 1) k r w (vl2 p T 0 1))) = nlN p r w T k := dmn_cg (fun x => Sol.neg (fun i hi => by
    rcases KN_neg (T := T) (p := p) (r := r) (w := w) (k := k) (by omega) i 0 with q | q
    · exact .inl (fun j _ => q j)
    · exact .inr (fun j _ => q j)) x)
  rw [this]
theorem op_nulls : Op_nulls Rel := fun M a hR => hR.ask (fC := fun C => Pf_nulls a C) (fD := fun D => Mo_nulls a D) (fun p r w T => if 0 ≤ a ∧ a < 5 then nI (nlN p r w T (vlI a)) else -1)
  (fun C p r w T h => by
    show ∃ C', Pf_nulls a C = _ ∧ _
    unfold Pf_nulls
    rw [isStep_ok, bd_s]
    by_cases h1 : 0 ≤ a ∧ a < 5
    · rw [if_pos h1, if_neg (by decide), if_pos h1]
      obtain ⟨k, hk, rfl⟩ := ran (n := 5) (by omega) h1.1 h1.2
      rw [vlI_n (by omega)]
      obtain ⟨C', c1, c2⟩ := nullsC_ok (k := k) okc5 (by omega) h
      rw [c1, bd_s]
      exact ⟨C', rfl, fun y hy => c2 y (by omega) (by omega)⟩
    · rw [if_neg h1, if_pos rfl, if_neg h1]; exact ⟨C, rfl, fun _ _ => rfl⟩)
  (fun D p r w T h _ => by
    show ∃ D', Mo_nulls a D = _ ∧ _
    unfold Mo_nulls
    rw [in_4, bd_s]
    by_cases h1 : 0 ≤ a ∧ a < 5
    · rw [if_pos h1, if_neg (by decide), if_pos h1]
      obtain ⟨k, hk, rfl⟩ := ran (n := 5) (by omega) h1.1 h1.2
      rw [vlI_n (by omega)]
      obtain ⟨D', c1, c2, c3⟩ := nullsD_ok (k := k) (by omega) h
      rw [c1, bd_s]
      exact ⟨D', rfl, fun y hy => c2 y (by omega) (by omega), c3⟩
    · rw [if_neg h1, if_pos rfl, if_neg h1]; exact ⟨D, rfl, fun _ _ => rfl, fun _ _ _ => rfl⟩)
