/-! PURE: go, the reference -/
theorem goD_in {D : Mem} {p r w n h m i : Nat} {T : Nat → Nat → Nat → Nat} {F : Nat → Nat → Nat} {k36 : Int32 → Mem → Option (Int32 × Mem)} (hP : DP D p r w T) (h0 : D 32 17 = 0) (hm : D 32 16 = nI m) (hm20 : m ≤ 16) (hd : ∀ q, q < w → dgt n q < p) (h42 : ∀ q, q < w → D 42 q = nI (dgt n q)) (hM : MD D p h (XF p r w T n m i F)) (hi : i < r) (hrh : r ≤ h) : ∃ D', Mo_go_L52 k36 FU (nI i) 0 0 D = k36 (nI (i + 1)) D' ∧ (∀ y, y ≠ 38 → D' y = D y) ∧ MD D' p h (XF p r w T n m (i + 1) F) := by
  have hp := hP.1
  have hr := hP.2.1
  have hw := hP.2.2.1
  have h7 := pr_le hp
  have r12 := hP.rw0 h0
  have hT : ∀ q, q < w → T 0 i q < p := fun q hq => hP.lt (t := 0) (by omega) hi hq
  have sb := sx_b (r := r) (n := n) (j := w) hp hw hT hd (Nat.le_refl _)
  obtain ⟨m1, m2, m4, m6⟩ := hM
  have inner : Mo_go_L52 k36 FU (nI i) 0 0 D = (bd (Mo_modulo (nI (sxN T n i w)) D) fun r3 M1 => if ib ((21 * nI i) + (D 32 16)) 504 = true then (k36 (nI i + 1) (wr M1 38 (ix ((21 * nI i) + (D 32 16))) r3)) else none) := by
    obtain ⟨M2, a1, a2⟩ := lp (fun m' j M2 => Mo_go_L52 k36 m' (nI i) (nI (sxN T n i j)) (nI j) M2) (fun M2 => bd (Mo_modulo (nI (sxN T n i w)) M2) fun r3 M1 => if ib ((21 * nI i) + (M2 32 16)) 504 = true then (k36 (nI i + 1) (wr M1 38 (ix ((21 * nI i) + (M2 32 16))) r3)) else none) w (fun j M2 => M2 = D) (fun m' M2 h2 => by
        show Mo_go_L52 k36 (m' + 1) (nI i) (nI (sxN T n i w)) (nI w) M2 = _
        subst h2
        rw [Mo_go_L52, r12.2, if_pos (Int32.le_refl _)]) (fun m' j M2 hj h2 => by
        show ∃ M3, _ ∧ Mo_go_L52 k36 (m' + 1) (nI i) (nI (sxN T n i j)) (nI j) M2 = Mo_go_L52 k36 m' (nI i) (nI (sxN T n i (j + 1))) (nI (j + 1)) M3
        subst h2
        refine ⟨M2, rfl, ?_⟩
        have o0 : Mo_of 0 (nI i) (nI j) M2 = some (nI (T 0 i j), M2) := by
          have q := hP.at (t := 0) (by omega) hi hj
          unfold Mo_entry at q
          rw [h0, if_pos rfl] at q
          have e := of_in (t := 0) (i := i) (j := j) (M := M2) (by omega) (by omega) (by omega)
          have e' : Mo_of 0 (nI i) (nI j) M2 = _ := e
          rw [show nI 0 = (0 : Int32) from rfl, e', bd_s] at q
          rw [e', Option.some.inj q]
        rw [Mo_go_L52, r12.2, if_neg (nI_ge hj (by omega)), o0, bd_s, if_pos (ibn (by omega) (by omega)), ixn (by omega), h42 j hj, nIm, nIa, nI_1]
        rfl) w FU 0 D (by omega) (FU_lt (by omega)) rfl
    subst a1
    exact a2
  rw [inner, modulo_jM hP.2.2.2.1 hp, bd_s, nIo (sxN T n i w), jM_md (by omega) (by omega) hp, hm, at21, if_pos (ibn (by omega) (by omega)), ixn (by omega), nI_1]
  refine ⟨_, rfl, fun y hy => by rw [wr_ne hy], by rw [wr_ne (by omega)]; exact m1, by rw [wr_ne (by omega)]; exact m2, m4, fun i' j' hi' hj' => ?_⟩
  rw [wr_g]
  by_cases q : i' = i ∧ j' = m
  · rw [if_pos ⟨rfl, by rw [q.1, q.2]⟩]
    unfold XF
    rw [if_pos ⟨q.2, by omega⟩, q.1]
    exact ⟨md_lt (by omega), rfl⟩
  · rw [if_neg (by omega)]
    have := m6 i' j' hi' hj'
    unfold XF at this ⊢
    by_cases q2 : j' = m ∧ i' < i
    · rw [if_pos q2] at this
      rw [if_pos ⟨q2.1, by omega⟩]; exact this
    · rw [if_neg q2] at this
      rw [if_neg (by omega)]; exact this
theorem from_L {D : Mem} {p h m : Nat} {G : Nat → Nat → Nat} (hp7 : p ≤ 7) (hM : MD D p h G) (hm : D 32 16 = nI m) (hm20 : m ≤ 20) (d : Nat) : ∀ n i s, h - i < n → i ≤ h → d ≤ i → ((s = 1 ∧ ∀ q, d ≤ q → q < i → G q m = 0) ∨ (s = 0 ∧ ∃ q, d ≤ q ∧ q < h ∧ G q m ≠ 0)) → ∃ v, Mo_rankFrom_L4 n s (nI i) D = some (v, D) ∧ ((v = 1 ∧ ∀ q, d ≤ q → q < h → G q m = 0) ∨ (v = 0 ∧ ∃ q, d ≤ q ∧ q < h ∧ G q m ≠ 0)) := by
  obtain ⟨m1, m2, m4, m6⟩ := hM
  intro n
  induction n with
  | zero => intro i s h1; omega
  | succ n ih =>
    intro i s h1 h2 h3 h4
    rw [Mo_rankFrom_L4, m2]
    by_cases e : i = h
    · subst e
      rw [if_pos (Int32.le_refl _)]
      rcases h4 with ⟨rfl, g⟩ | ⟨rfl, g⟩
      · rw [if_pos z01_1]; exact ⟨1, rfl, .inl ⟨rfl, g⟩⟩
      · rw [if_pos z01_0]; exact ⟨0, rfl, .inr ⟨rfl, g⟩⟩
    · rw [if_neg (nI_ge (show i < h by omega) (by omega)), Mo_rankFrom_b37, Mo_rankFrom_b38, Mo_rankFrom_b38, nI_1]
      rcases h4 with ⟨rfl, g⟩ | ⟨rfl, g⟩
      · have mm := m6 i m (by omega) (by omega)
        rw [if_neg (show ¬ (1 : Int32) = 0 by decide), hm, at21, if_pos (ibn (by omega) (by omega)), ixn (by omega), mm.2]
        by_cases q : G i m = 0
        · rw [q, if_pos (show nI 0 = 0 from rfl)]
          exact ih (i + 1) 1 (by omega) (by omega) (by omega) (.inl ⟨rfl, fun j a b => by
            by_cases z : j = i
            · subst z; exact q
            · exact g j a (by omega)⟩)
        · rw [if_neg (nI_ne0 (by omega) (by omega))]
          exact ih (i + 1) 0 (by omega) (by omega) (by omega) (.inr ⟨rfl, i, h3, by omega, q⟩)
      · rw [if_pos rfl]
        exact ih (i + 1) 0 (by omega) (by omega) (by omega) (.inr ⟨rfl, g⟩)
/-- the column can go: the extra column adds nothing to the rank -/
def Go (p r w : Nat) (T : Nat → Nat → Nat → Nat) (n k : Nat) : Prop := dmn p (k * r) (k * w + 1) (XF p r w T n (k * w) r (ff r w (KC p r w T p k))) = dmn p (k * r) (k * w) (ff r w (KC p r w T p k)) + 1
theorem goD_ok {D : Mem} {p r w n k : Nat} {T : Nat → Nat → Nat → Nat} (hk : 1 ≤ k) (hk4 : k ≤ 4) (hP : DP D p r w T) (h0 : D 32 17 = 0) (hd : ∀ q, q < w → dgt n q < p) (h42 : ∀ q, q < w → D 42 q = nI (dgt n q)) : ∃ D1 v D', Mo_startsSteps (nI k) 1 D = some D1 ∧ Mo_go_L36 FU 0 D1 = some (v, D') ∧ (∀ y, y ≠ 32 → y ≠ 38 → D' y = D y) ∧ (∀ y, y ≠ 15 → y ≠ 16 → D' 32 y = D 32 y) ∧ ((v = 1 ∧ Go p r w T n k) ∨ (v = 0 ∧ ¬ Go p r w T n k)) := by
  have hp := hP.1
  have hr := hP.2.1
  have hw := hP.2.2.1
  have h7 := pr_le hp
  have b1 := mul4 hk4 hw
  have b2 := mul4 hk4 hr
  have rk : r ≤ k * r := by have := Nat.mul_le_mul_right r hk; omega
  obtain ⟨D1, x1, x2, x3, x4, x5⟩ := stepsD1 (k := k) hk4 hP
  have hP1 : DP D1 p r w T := hP.mv (x2 33 (by omega) (by omega)) (x3 17 (by omega) (by omega))
  have h01 : D1 32 17 = 0 := (x3 17 (by omega) (by omega)).trans h0
  have r12 := hP1.rw0 h01
  obtain ⟨D2, g1, g2⟩ := lp (fun m i M' => Mo_go_L36 m (nI i) M') (fun M' => bd (Mo_rankOf (M' 32 16) M') fun r3 M1 => bd (Mo_rankFrom r3 M1) fun r6 M4 => bd (Mo_flag r6 M4) fun r9 M7 => some (r9, M7)) r (fun i M' => (∀ y, y ≠ 38 → M' y = D1 y) ∧ MD M' p (k * r) (XF p r w T n (k * w) i (ff r w (KC p r w T p k)))) (fun m M' h' => by
      show Mo_go_L36 (m + 1) (nI r) M' = _
      rw [Mo_go_L36, h'.1 33 (by omega), r12.1, if_pos (Int32.le_refl _)]) (fun m i M' hi h' => by
      show ∃ M1, _ ∧ Mo_go_L36 (m + 1) (nI i) M' = Mo_go_L36 m (nI (i + 1)) M1
      have qP : DP M' p r w T := hP1.mv (h'.1 33 (by omega)) (by rw [h'.1 32 (by omega)])
      obtain ⟨D3, y1, y2, y3⟩ := goD_in (k36 := Mo_go_L36 m) (n := n) (m := k * w) qP (by rw [h'.1 32 (by omega)]; exact h01) (by rw [h'.1 32 (by omega)]; exact x4) b1 hd (fun q hq => by rw [h'.1 42 (by omega), x2 42 (by omega) (by omega)]; exact h42 q hq) h'.2 hi rk
      rw [Mo_go_L36, h'.1 33 (by omega), r12.1, if_neg (nI_ge hi (by omega)), y1]
      exact ⟨D3, ⟨fun y hy => by rw [y2 y hy, h'.1 y hy], y3⟩, rfl⟩) r FU 0 D1 (by omega) (FU_lt (by omega)) ⟨fun _ _ => rfl, by
        have : XF p r w T n (k * w) 0 (ff r w (KC p r w T p k)) = ff r w (KC p r w T p k) := by
          funext i j; exact if_neg (by omega)
        rw [this]; exact x5⟩
  have hg : Mo_go_L36 FU 0 D1 = _ := g2
  have e16 : D2 32 16 = nI (k * w) := by rw [g1.1 32 (by omega)]; exact x4
  obtain ⟨D3, G, d, u1, u2, u3, u4, u5⟩ := rankD_ok (m := k * w) hp (by omega) g1.2
  obtain ⟨v, v1, v2⟩ := from_L (m := k * w) (by omega) u3 (by rw [u2 32 (by omega)]; exact e16) (by omega) d FU d 1 (show k * r - d < FU from FU_lt (by omega)) u5.2.1 (Nat.le_refl _) (.inl ⟨rfl, fun q a b => by omega⟩)
  have v01 : v = 0 ∨ v = 1 := by
    rcases v2 with ⟨q, _⟩ | ⟨q, _⟩
    · exact .inr q
    · exact .inl q
  have dm0 : dmn p (k * r) (k * w) (ff r w (KC p r w T p k)) = k * w - d := by
    unfold dmn
    rw [cn_cg (g := fun y => iv (Sol p (k * r) (k * w) G y)) (fun y _ => iv_cg ?_), u5.fin, lg_pow (by omega)]
    refine Iff.trans ?_ (u4 (k * w) (by omega) y).symm
    have same : ∀ i, dt (k * w) (ff r w (KC p r w T p k) i) y = dt (k * w) (XF p r w T n (k * w) r (ff r w (KC p r w T p k)) i) y := fun i => dt_cg (fun j hj => (if_neg (by omega)).symm) (fun _ _ => rfl)
    exact ⟨fun g i hi => by rw [← same]; exact g i hi, fun g i hi => by rw [same]; exact g i hi⟩
  have dm1 : dmn p (k * r) (k * w + 1) (XF p r w T n (k * w) r (ff r w (KC p r w T p k))) = lg p (cn p 0 (k * w + 1) (fun y => iv (Sol p (k * r) (k * w + 1) G y)) (fun _ => 0)) := by
    unfold dmn
    rw [cn_cg (fun y _ => iv_cg (u4 (k * w + 1) (by omega) y).symm)]
  refine ⟨D1, v, D3, x1, ?_, fun y a b => by rw [u2 y b, g1.1 y b, x2 y a b], fun y a b => by rw [u2 32 (by omega), g1.1 32 (by omega), x3 y a b], ?_⟩
  · rw [hg, e16, u1, bd_s]
    unfold Mo_rankFrom
    rw [v1, bd_s, flag_ok v01, bd_s]
  · rcases v2 with ⟨q, z⟩ | ⟨q, q1, q2, q3, q4⟩
    · refine .inl ⟨q, ?_⟩
      unfold Go
      rw [dm0, dm1, u5.last0 z, lg_pow (by omega)]
    · refine .inr ⟨q, ?_⟩
      unfold Go
      rw [dm0, dm1, u5.last1 (by omega) q2 q3 (un_of hp q4 (u3.2.2.2 q1 (k * w) q3 (by omega)).1), lg_pow (by omega)]
      omega
