/-! PURE: col, row -/
theorem sum_mn {n : Nat → Int32} (k : Nat) : sumN (k + 1) (mnI n) = n k - pvI n k := by
  induction k with
  | zero =>
    show (0 : Int32) + (n 0 - 2 * 0 + 0) = n 0 - 0
    grind
  | succ k ih =>
    rw [sumN, ih]
    show n k - pvI n k + (n (k + 1) - 2 * n k + pvI n k) = n (k + 1) - n k
    grind
theorem nl_20 {p r w k : Nat} {T : Nat → Nat → Nat → Nat} (hp : pr p) (hr : r ≤ 4) (hw : w ≤ 4) (hk : k ≤ 4) : nlN p r w T k ≤ 20 := by
  have := (nl_fact (T := T) hp hr hw hk).1
  have := mul20 hk hw
  omega
theorem sum_b {p r w k : Nat} {T : Nat → Nat → Nat → Nat} (hp : pr p) (hr : r ≤ 4) (hw : w ≤ 4) (hk : k ≤ 5) : ∃ s : Nat, s ≤ 20 ∧ sumN k (mCI p r w T) = nI s := by
  cases k with
  | zero => exact ⟨0, by omega, rfl⟩
  | succ k =>
    have e : sumN (k + 1) (mCI p r w T) = nlI p r w T k - pvI (nlI p r w T) k := sum_mn k
    rw [e]
    have b := nl_20 (T := T) (k := k) hp hr hw (by omega)
    cases k with
    | zero => exact ⟨nlN p r w T 0, b, by show nI (nlN p r w T 0) - 0 = _; grind⟩
    | succ k =>
      have u := nl_up (T := T) (k := k) hp hr hw (by omega)
      exact ⟨nlN p r w T (k + 1) - nlN p r w T k, by omega, nIs u⟩
theorem mn_b {p r w k : Nat} {T : Nat → Nat → Nat → Nat} (hp : pr p) (hr : r ≤ 4) (hw : w ≤ 4) (hk : k ≤ 4) : ∃ z : Int, -100 ≤ z ∧ z ≤ 100 ∧ mCI p r w T k = Int32.ofInt z := by
  have b := nl_20 (T := T) (k := k) hp hr hw hk
  have tw : (2 : Int32) = Int32.ofInt 2 := rfl
  have c1 : ∃ y : Int, 0 ≤ y ∧ y ≤ 20 ∧ pvI (nlI p r w T) k = Int32.ofInt y := by
    cases k with
    | zero => exact ⟨0, by omega, by omega, rfl⟩
    | succ k => exact ⟨nlN p r w T k, by omega, by have := nl_20 (T := T) (k := k) hp hr hw (by omega); omega, nIo _⟩
  have c2 : ∃ y : Int, 0 ≤ y ∧ y ≤ 20 ∧ pvI (pvI (nlI p r w T)) k = Int32.ofInt y := by
    cases k with
    | zero => exact ⟨0, by omega, by omega, rfl⟩
    | succ k =>
      cases k with
      | zero => exact ⟨0, by omega, by omega, rfl⟩
      | succ k => exact ⟨nlN p r w T k, by omega, by have := nl_20 (T := T) (k := k) hp hr hw (by omega); omega, nIo _⟩
  obtain ⟨y1, a1, a2, a3⟩ := c1
  obtain ⟨y2, a4, a5, a6⟩ := c2
  refine ⟨(nlN p r w T k : Int) - 2 * y1 + y2, by omega, by omega, ?_⟩
  unfold mCI mnI
  rw [a3, a6, show nlI p r w T k = Int32.ofInt (nlN p r w T k) from nIo _, tw, ← Int32.ofInt_mul, ← Int32.ofInt_sub, ← Int32.ofInt_add]
def ixG (f : Nat → Int32) (a : Int32) : Nat → Nat → Int32
  | 0, _ => -4
  | n + 1, k => if sumN k f + f k ≤ a then ixG f a n (k + 1) else nI k
theorem ixC_ok {f : Nat → Int32} {a : Int32} {e : Nat} {C : Mem} (he : isI e = true) (hl : ln e = 5) (hC : ∀ k, k < 5 → C e k = f k) : Un_indexIn e a C = some (ixG f a 5 0, C) := by
  unfold Un_indexIn
  rw [if_pos he]
  have key : ∀ d k n, k + d = 5 → d < n → Un_indexIn_L4 n e a (sumN k f) (nI k) C = some (ixG f a d k, C) := by
    intro d
    induction d with
    | zero =>
      intro k n hk hn
      obtain ⟨n, rfl⟩ : ∃ m, n = m + 1 := ⟨n - 1, by omega⟩
      have : k = 5 := by omega
      subst this
      rw [Un_indexIn_L4, hl, if_pos (Int32.le_refl _)]
      rfl
    | succ d ih =>
      intro k n hk hn
      obtain ⟨n, rfl⟩ : ∃ m, n = m + 1 := ⟨n - 1, by omega⟩
      rw [Un_indexIn_L4, hl, if_neg (nI_ge (show k < 5 by omega) (by omega)), if_pos (ibn (by omega) (by omega)), ixn (by omega), hC k (by omega), ixG]
      by_cases q : sumN k f + f k ≤ a
      · rw [if_pos q, if_pos q, nI_1]
        exact ih (k + 1) n (by omega) (by omega)
      · rw [if_neg q, if_neg q]
  exact key 5 0 FU rfl (FU_lt (by omega))
theorem ixD_ok {f : Nat → Int32} {a : Int32} {e : Nat} {D : Mem} (he : isI e = true) (hl : ln e = 5) (hD : ∀ k, k < 5 → D e k = f k) (ha : 0 ≤ a) (b1 : ∀ k, k ≤ 5 → ∃ s : Nat, s ≤ 20 ∧ sumN k f = nI s) (b2 : ∀ k, k < 5 → ∃ z : Int, -100 ≤ z ∧ z ≤ 100 ∧ f k = Int32.ofInt z) : Mo_indexAt e a D = some (ixG f a 5 0, D) := by
  unfold Mo_indexAt
  rw [if_pos he]
  have key : ∀ d k n, k + d = 5 → d < n → Mo_indexAt_L4 n e (a - sumN k f) (nI k) D = some (ixG f a d k, D) := by
    intro d
    induction d with
    | zero =>
      intro k n hk hn
      obtain ⟨n, rfl⟩ : ∃ m, n = m + 1 := ⟨n - 1, by omega⟩
      have : k = 5 := by omega
      subst this
      rw [Mo_indexAt_L4, if_pos (show (4 : Int32) < nI 5 by decide)]
      rfl
    | succ d ih =>
      intro k n hk hn
      obtain ⟨n, rfl⟩ : ∃ m, n = m + 1 := ⟨n - 1, by omega⟩
      rw [Mo_indexAt_L4, if_neg (show ¬ (4 : Int32) < nI k from Int32.not_lt.mpr (nI_le (b := 4) (by omega) (by omega))), hl, if_pos (ibn (by omega) (by omega)), ixn (by omega), hD k (by omega), ixG]
      obtain ⟨s, s1, s2⟩ := b1 k (by omega)
      obtain ⟨z, z1, z2, z3⟩ := b2 k (by omega)
      have cond : f k ≤ a - sumN k f ↔ sumN k f + f k ≤ a := by
        have a0 : (0 : Int) ≤ a.toInt := by
          have := Int32.le_iff_toInt_le.mp ha
          exact this
        have a1 : a.toInt < 2 ^ 31 := Int32.toInt_lt a
        have e1 : (a - nI s).toInt = a.toInt - s := by
          have : a - nI s = Int32.ofInt (a.toInt - s) := by rw [Int32.ofInt_sub, Int32.ofInt_toInt, nIo]
          rw [this, Int32.toInt_ofInt_of_le (by omega) (by omega)]
        have e2 : (nI s + Int32.ofInt z).toInt = s + z := by
          rw [nIo, ← Int32.ofInt_add, iof (by omega) (by omega)]
        rw [s2, z3, Int32.le_iff_toInt_le, Int32.le_iff_toInt_le, e1, e2, iof (by omega) (by omega)]
        omega
      by_cases q : sumN k f + f k ≤ a
      · rw [if_pos (cond.mpr q), if_pos (ibn (by omega) (by omega)), if_pos q, nI_1]
        have e : a - sumN k f - f k = a - sumN (k + 1) f := by rw [sumN]; grind
        rw [e]
        exact ih (k + 1) n (by omega) (by omega)
      · rw [if_neg (fun z => q (cond.mp z)), if_neg q]
  have := key 5 0 FU rfl (FU_lt (by omega))
  rwa [show a - sumN 0 f = a by show a - 0 = a; grind] at this
theorem op_col : Op_col Rel := fun M a hR => hR.ask (fC := fun C => Pf_col a C) (fD := fun D => Mo_col a D) (fun p r w T => if 0 ≤ a then ixG (mCI p r w T) a 5 0 else -1)
  (fun C p r w T h => by
    show ∃ C', Pf_col a C = _ ∧ _
    unfold Pf_col
    by_cases h1 : 0 ≤ a
    · rw [if_pos h1, if_pos h1]
      obtain ⟨C1, x1, x2, x3⟩ := countC_ok (e := 27) okc5 rfl rfl (by omega) (by omega) (by omega) (by omega) h
      unfold Un_colIndex
      rw [if_pos isP5, x1, bd_s, ixC_ok (e := 27) rfl rfl x3, bd_s, bd_s]
      exact ⟨C1, rfl, fun y hy => x2 y (by omega) (by omega) (by omega)⟩
    · rw [if_neg h1, if_neg h1]; exact ⟨C, rfl, fun _ _ => rfl⟩)
  (fun D p r w T h h0 => by
    show ∃ D', Mo_col a D = _ ∧ _
    unfold Mo_col
    by_cases h1 : 0 ≤ a
    · rw [if_pos h1, if_pos h1]
      obtain ⟨D1, x1, x2, x3, x4, x5⟩ := findAll_ok h h0
      rw [x1, bv_s, ixD_ok (e := 39) rfl rfl x4 h1 (fun k hk => sum_b h.1 h.2.1 h.2.2.1 hk) (fun k hk => mn_b h.1 h.2.1 h.2.2.1 (by omega)), bd_s]
      exact ⟨D1, rfl, fun y hy => x2 y (by omega) (by omega) (by omega) (by omega), x3⟩
    · rw [if_neg h1, if_neg h1]; exact ⟨D, rfl, fun _ _ => rfl, fun _ _ _ => rfl⟩)
theorem op_row : Op_row Rel := fun M a hR => hR.ask (fC := fun C => Pf_row a C) (fD := fun D => Mo_row a D) (fun p r w T => if 0 ≤ a then ixG (mCI p w r (tr T)) a 5 0 else -1)
  (fun C p r w T h => by
    show ∃ C', Pf_row a C = _ ∧ _
    unfold Pf_row
    by_cases h1 : 0 ≤ a
    · rw [if_pos h1, if_pos h1]
      obtain ⟨C0, y1, y2, y3⟩ := flipOf_ok okc5 (by omega) (by omega) (by omega) h
      obtain ⟨C1, x1, x2, x3⟩ := countC_ok (e := 28) okc25 rfl rfl (by omega) (by omega) (by omega) (by omega) y3
      unfold Un_rowIndex
      rw [if_pos isP5, y1, bv_s, x1, bd_s, ixC_ok (e := 28) rfl rfl x3, bd_s, bd_s]
      exact ⟨C1, rfl, fun y hy => by rw [x2 y (by omega) (by omega) (by omega), y2 y (by omega) (by omega)]⟩
    · rw [if_neg h1, if_neg h1]; exact ⟨C, rfl, fun _ _ => rfl⟩)
  (fun D p r w T h h0 => by
    show ∃ D', Mo_row a D = _ ∧ _
    unfold Mo_row
    by_cases h1 : 0 ≤ a
    · rw [if_pos h1, if_pos h1]
      obtain ⟨D1, x1, x2, x3, x4, x5⟩ := findAll_ok h h0
      rw [x1, bv_s, ixD_ok (e := 40) rfl rfl x5 h1 (fun k hk => sum_b h.1 h.2.2.1 h.2.1 hk) (fun k hk => mn_b h.1 h.2.2.1 h.2.1 (by omega)), bd_s]
      exact ⟨D1, rfl, fun y hy => x2 y (by omega) (by omega) (by omega) (by omega), x3⟩
    · rw [if_neg h1, if_neg h1]; exact ⟨D, rfl, fun _ _ => rfl, fun _ _ _ => rfl⟩)
