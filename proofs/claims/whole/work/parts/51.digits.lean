/-! PURE: the digits of a column -/
theorem divN {n : Nat} (h : n < 2 ^ 31) : nI n / 10 = nI (n / 10) := pk_div h (d := 10) (by omega) (by omega)
def dgt (n j : Nat) : Nat := n / 10 ^ j % 10
theorem pw_s {n j : Nat} : n / 10 ^ j / 10 = n / 10 ^ (j + 1) := by rw [Nat.div_div_eq_div_mul, Nat.pow_succ]
/-- a good column: digits below p, nothing left -/
def gcol (p w n : Nat) : Prop := (∀ j, j < w → dgt n j < p) ∧ n / 10 ^ w = 0
theorem takeC_L {p w n : Nat} (hp : pr p) (hw : w ≤ 4) (hn : n < 2 ^ 31) {C : Mem} (e1 : C 5 1 = nI p) (e3 : C 5 3 = nI w) : ∀ m j C1, w - j < m → j ≤ w → (∀ y, y ≠ 29 → C1 y = C y) → (∀ i, i < j → C1 29 i = nI (dgt n i)) → (∀ i, i < j → dgt n i < p) → ∃ v C2, Un_takeColumn_L11 m 5 (nI (n / 10 ^ j)) (nI j) C1 = some (v, C2) ∧ (∀ y, y ≠ 29 → C2 y = C y) ∧ ((v = 1 ∧ gcol p w n ∧ ∀ i, i < w → C2 29 i = nI (dgt n i)) ∨ (v = 0 ∧ ¬ gcol p w n)) := by
  have h7 := pr_le hp
  intro m
  induction m with
  | zero => intro j C1 h; omega
  | succ m ih =>
    intro j C1 h1 h2 f1 f2 f3
    have lt : n / 10 ^ j < 2 ^ 31 := Nat.lt_of_le_of_lt (Nat.div_le_self _ _) hn
    rw [Un_takeColumn_L11, f1 5 (by omega), e3]
    by_cases e : j = w
    · subst e
      rw [if_pos (Int32.le_refl _), Un_takeColumn_b64]
      by_cases q : n / 10 ^ j = 0
      · rw [q, if_pos (show nI 0 = 0 from rfl)]
        exact ⟨1, C1, rfl, f1, .inl ⟨rfl, ⟨f3, q⟩, f2⟩⟩
      · rw [if_neg (nI_ne0 (Nat.pos_of_ne_zero q) lt)]
        exact ⟨0, C1, rfl, f1, .inr ⟨rfl, fun z => q z.2⟩⟩
    · have dl : dgt n j < 10 := Nat.mod_lt _ (by omega)
      rw [if_neg (nI_ge (show j < w by omega) (by omega)), if_neg (show ¬ (4 : Int32) ≤ nI j from nI_ge (b := 4) (by omega) (by omega)), if_pos (ibn (by omega) (by omega)), if_pos (ibn (by omega) (by omega)), ixn (by omega), wr_s, wr_ne (show 5 ≠ 29 by omega), f1 5 (by omega), e1, show jrem (nI (n / 10 ^ j)) 10 = nI (dgt n j) from jremN (p := 10) lt (by omega) (by omega), divN lt, pw_s, nI_1]
      have g1 : ∀ y, y ≠ 29 → wr C1 29 j (nI (dgt n j)) y = C y := fun y hy => by rw [wr_ne hy, f1 y hy]
      by_cases q : dgt n j < p
      · rw [if_pos (nI_lt q (by omega))]
        exact ih (j + 1) _ (by omega) (by omega) g1 (fun i hi => by
          by_cases z : i = j
          · subst z; rw [wr_s]
          · rw [wr_o z]; exact f2 i (by omega)) (fun i hi => by
          by_cases z : i = j
          · subst z; exact q
          · exact f3 i (by omega))
      · rw [if_neg (Int32.not_lt.mpr (nI_le (by omega) (by omega)))]
        exact ⟨0, _, rfl, g1, .inr ⟨rfl, fun z => q (z.1 j (by omega))⟩⟩
theorem colD_L {p w n : Nat} (hp : pr p) (hw : w ≤ 4) (hn : n < 2 ^ 31) {D : Mem} (e1 : D 33 0 = nI p) (e3 : D 33 2 = nI w) : ∀ m j s D1, w - j < m → j ≤ w → (∀ y, y ≠ 42 → D1 y = D y) → (∀ i, i < j → D1 42 i = nI (dgt n i)) → ((s = 1 ∧ ∀ i, i < j → dgt n i < p) ∨ (s = 0 ∧ ∃ i, i < w ∧ ¬ dgt n i < p)) → ∃ v D2, Mo_isColumn_L15 m (nI (n / 10 ^ j)) s (nI j) D1 = some (v, D2) ∧ (∀ y, y ≠ 42 → D2 y = D y) ∧ ((v = 1 ∧ gcol p w n ∧ ∀ i, i < w → D2 42 i = nI (dgt n i)) ∨ (v = 0 ∧ ¬ gcol p w n)) := by
  have h7 := pr_le hp
  intro m
  induction m with
  | zero => intro j s D1 h; omega
  | succ m ih =>
    intro j s D1 h1 h2 f1 f2 f3
    have lt : n / 10 ^ j < 2 ^ 31 := Nat.lt_of_le_of_lt (Nat.div_le_self _ _) hn
    rw [Mo_isColumn_L15, f1 33 (by omega), e3]
    by_cases e : j = w
    · subst e
      rw [if_pos (Int32.le_refl _)]
      rcases f3 with ⟨rfl, f3⟩ | ⟨rfl, i, i1, i2⟩
      · rw [if_neg (show ¬ (1 : Int32) = 0 by decide)]
        by_cases q : n / 10 ^ j = 0
        · rw [q, if_pos (show nI 0 = 0 from rfl)]
          exact ⟨1, D1, rfl, f1, .inl ⟨rfl, ⟨f3, q⟩, f2⟩⟩
        · rw [if_neg (nI_ne0 (Nat.pos_of_ne_zero q) lt)]
          exact ⟨0, D1, rfl, f1, .inr ⟨rfl, fun z => q z.2⟩⟩
      · rw [if_pos rfl]
        exact ⟨0, D1, rfl, f1, .inr ⟨rfl, fun z => i2 (z.1 i i1)⟩⟩
    · have dl : dgt n j < 10 := Nat.mod_lt _ (by omega)
      rw [if_neg (nI_ge (show j < w by omega) (by omega)), if_pos (ibn (by omega) (by omega)), if_pos (ibn (by omega) (by omega)), ixn (by omega), wr_s, wr_ne (show 33 ≠ 42 by omega), f1 33 (by omega), e1, show jrem (nI (n / 10 ^ j)) 10 = nI (dgt n j) from jremN (p := 10) lt (by omega) (by omega), Mo_isColumn_b61, Mo_isColumn_b62, Mo_isColumn_b62, divN lt, pw_s, nI_1]
      have g1 : ∀ y, y ≠ 42 → wr D1 42 j (nI (dgt n j)) y = D y := fun y hy => by rw [wr_ne hy, f1 y hy]
      have g2 : ∀ i, i < j + 1 → wr D1 42 j (nI (dgt n j)) 42 i = nI (dgt n i) := fun i hi => by
        by_cases z : i = j
        · subst z; rw [wr_s]
        · rw [wr_o z]; exact f2 i (by omega)
      rcases f3 with ⟨rfl, f3⟩ | ⟨rfl, f3⟩
      · rw [if_neg (show ¬ (1 : Int32) = 0 by decide)]
        by_cases q : dgt n j < p
        · rw [if_neg (nI_ge q (by omega))]
          exact ih (j + 1) 1 _ (by omega) (by omega) g1 g2 (.inl ⟨rfl, fun i hi => by
            by_cases z : i = j
            · subst z; exact q
            · exact f3 i (by omega)⟩)
        · rw [if_pos (nI_le (by omega) (by omega))]
          exact ih (j + 1) 0 _ (by omega) (by omega) g1 g2 (.inr ⟨rfl, j, by omega, q⟩)
      · rw [if_pos rfl]
        exact ih (j + 1) 0 _ (by omega) (by omega) g1 g2 (.inr ⟨rfl, f3⟩)
theorem colD_neg {w : Nat} (hw : w ≤ 4) {D : Mem} (e3 : D 33 2 = nI w) : ∀ m j (a : Int32) D1, w - j < m → j ≤ w → (∀ y, y ≠ 42 → D1 y = D y) → ∃ D2, Mo_isColumn_L15 m a 0 (nI j) D1 = some (0, D2) ∧ ∀ y, y ≠ 42 → D2 y = D y := by
  intro m
  induction m with
  | zero => intro j a D1 h; omega
  | succ m ih =>
    intro j a D1 h1 h2 f1
    rw [Mo_isColumn_L15, f1 33 (by omega), e3]
    by_cases e : j = w
    · subst e
      rw [if_pos (Int32.le_refl _), if_pos rfl]
      exact ⟨D1, rfl, f1⟩
    · rw [if_neg (nI_ge (show j < w by omega) (by omega)), if_pos (ibn (by omega) (by omega)), if_pos rfl, Mo_isColumn_b61, Mo_isColumn_b62, nI_1]
      exact ih (j + 1) _ _ (by omega) (by omega) (fun y hy => by rw [wr_ne hy, f1 y hy])
/-! one more column -/
theorem Ech.last0 {p h : Nat} {G : Nat → Nat → Nat} {m d : Nat} (H : Ech p h G m d) (hz : ∀ i, d ≤ i → i < h → G i m = 0) : cn p 0 (m + 1) (fun y => iv (Sol p h (m + 1) G y)) (fun _ => 0) = p ^ (m - d + 1) := by
  rw [(H.no hz).fin, show m + 1 - d = m - d + 1 by have := H.1; omega]
theorem Ech.last1 {p h : Nat} {G : Nat → Nat → Nat} {m d q : Nat} (hp : 0 < p) (H : Ech p h G m d) (hq : d ≤ q) (hq2 : q < h) (hu : un p (G q m)) : cn p 0 (m + 1) (fun y => iv (Sol p h (m + 1) G y)) (fun _ => 0) = p ^ (m - d) := by
  rw [cn, sq_one (v := 0) hp (fun v hv hn => ?_)]
  · rw [← H.2.2.2 (fun _ => 0) (ud (fun _ => 0) (0 + m) ((0 : Nat) : Int))]
    refine cn_cg (fun y hy => iv_cg ?_)
    have ym : y m = 0 := by rw [hy m (by omega), show 0 + m = m by omega, ud_s]; rfl
    have e : ∀ i, dt (m + 1) (G i) y = dt m (G i) y := fun i => by rw [dt, ym]; omega
    constructor
    · intro g i hi
      have := g i (by have := H.2.1; omega)
      rw [e] at this
      simpa using this
    · intro g i hi
      rw [e]
      by_cases z : i < d
      · have := g i z
        simpa using this
      · rw [dt_0 (H.2.2.1 i (by omega) hi)]; exact Int.dvd_zero _
  · rw [cn_cg (g := fun _ => 0) (fun y hy => iv_0 (fun g => ?_))]
    · have z : ∀ n x, cn p 0 n (fun _ => 0) x = 0 := fun n => by
        induction n with
        | zero => intro x; rfl
        | succ n ih => intro x; rw [cn]; exact sq_zero (fun i _ => ih _)
      exact z _ _
    · have ym : y m = v := by rw [hy m (by omega), show 0 + m = m by omega, ud_s]
      have := g q hq2
      rw [dt, dt_0 (H.2.2.1 q hq hq2), ym, Int.zero_add, un_cancel hu] at this
      obtain ⟨c, hc⟩ := this
      have : c = 0 := by
        rcases Int.lt_trichotomy c 0 with z | z | z
        · exfalso
          have : (p : Int) * c ≤ (p : Int) * (-1) := Int.mul_le_mul_of_nonneg_left (by omega) (by omega)
          omega
        · exact z
        · exfalso
          have : (p : Int) * 1 ≤ (p : Int) * c := Int.mul_le_mul_of_nonneg_left (by omega) (by omega)
          omega
      subst this
      simp at hc
      omega
