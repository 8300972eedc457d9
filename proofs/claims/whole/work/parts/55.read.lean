/-! PURE: read -/
theorem t64 (a b c : Int32) : (a.toInt64 + b.toInt64 + c.toInt64).toInt = a.toInt + b.toInt + c.toInt := by
  have a1 := Int32.le_toInt a
  have a2 := Int32.toInt_lt a
  have b1 := Int32.le_toInt b
  have b2 := Int32.toInt_lt b
  have c1 := Int32.le_toInt c
  have c2 := Int32.toInt_lt c
  rw [Int64.toInt_add, Int64.toInt_add, Int32.toInt_toInt64, Int32.toInt_toInt64, Int32.toInt_toInt64, Int.bmod_eq_of_le (n := a.toInt + b.toInt) (by omega) (by omega), Int.bmod_eq_of_le (by omega) (by omega)]
theorem cmp0 (a b c : Int32) : lg_cmp (a.toInt64 + b.toInt64 + c.toInt64) 0 < 0 ↔ a.toInt + b.toInt + c.toInt < 0 := by
  rw [lg_cmp_lt, Int64.lt_iff_toInt_lt, t64]
  exact Iff.rfl
theorem cmpn (a b c d : Int32) : lg_cmp (a.toInt64 + b.toInt64 + c.toInt64) d.toInt64 < 0 ↔ a.toInt + b.toInt + c.toInt < d.toInt := by
  rw [lg_cmp_lt, Int64.lt_iff_toInt_lt, t64, Int32.toInt_toInt64]
theorem nI_t {n : Nat} (h : n < 2 ^ 31) : (nI n).toInt = n := by rw [nIo, Int32.toInt_ofInt_of_le (by omega) (by omega)]
/-- what is found at the e-th four: 0 when all is there -/
def cdF (sh : Option (Nat × Nat)) (ln0 pos : Int32) (e : Nat) : Int32 := match sh with
  | none => 1
  | some (a, n) => if ln0 = nI a then (if 0 ≤ pos.toInt + 4 * e ∧ pos.toInt + 4 * e + 4 ≤ n then 0 else 2) else 3
def SC (C : Mem) (s : Nat) (sh : Option (Nat × Nat)) : Prop := match sh with
  | none => C (14 + 2 * s) 2 = -1
  | some (a, n) => a < 3 ∧ n ≤ 40 ∧ C (14 + 2 * s) 1 = nI a ∧ C (14 + 2 * s) 2 = nI n
def SD (D : Mem) (s : Nat) (sh : Option (Nat × Nat)) : Prop := match sh with
  | none => D 46 s = -4
  | some (a, n) => a < 3 ∧ n ≤ 40 ∧ D 46 s = nI a ∧ D 47 s = nI n
theorem pos4 {pos : Int32} {e : Nat} (he : e ≤ 10) (hz : pos.toInt + 4 * e < 2 ^ 31) : (pos + 4 * nI e).toInt = pos.toInt + 4 * e := by
  have b1 := Int32.le_toInt pos
  have e1 : pos + 4 * nI e = Int32.ofInt (pos.toInt + 4 * (e : Int)) := by
    rw [Int32.ofInt_add, Int32.ofInt_toInt, Int32.ofInt_mul, nIo]; rfl
  rw [e1, Int32.toInt_ofInt_of_le (by omega) (by omega)]
theorem four_ok {C : Mem} {s e : Nat} {sh : Option (Nat × Nat)} {ln0 pos : Int32} (hs : s < 4) (he : e ≤ 10) (hz : pos.toInt + 4 * e < 2 ^ 31) (h : SC C s sh) : Se_findFour (14 + 2 * s) ln0 (pos + 4 * nI e) C = some (cdF sh ln0 pos e, C) := by
  obtain ⟨r1, r2, r3, r4⟩ := rfn13 s hs
  unfold Se_findFour Se_isNothing
  rw [if_pos r2, if_pos r2]
  cases sh with
  | none =>
    have h' : C (14 + 2 * s) 2 = -1 := h
    rw [h', if_pos rfl, bd_s, if_neg (by decide)]
    rfl
  | some an =>
    obtain ⟨a, n⟩ := an
    obtain ⟨h1, h2, h3, h4⟩ := (show a < 3 ∧ n ≤ 40 ∧ C (14 + 2 * s) 1 = nI a ∧ C (14 + 2 * s) 2 = nI n from h)
    rw [h4, if_neg (size_ne h2), bd_s, if_pos rfl, h3]
    show _ = some (if ln0 = nI a then (if 0 ≤ pos.toInt + 4 * e ∧ pos.toInt + 4 * e + 4 ≤ n then 0 else 2) else 3, C)
    by_cases q : ln0 = nI a
    · rw [if_pos q, if_pos q, h4]
      have p4 := pos4 he hz
      have l0 : pos + 4 * nI e < 0 ↔ pos.toInt + 4 * e < 0 := by
        rw [Int32.lt_iff_toInt_lt, p4]; exact Iff.rfl
      have l4 : pos + 4 * nI e ≤ nI n - 4 ↔ pos.toInt + 4 * e ≤ (n : Int) - 4 := by
        rw [Int32.le_iff_toInt_le, p4, show nI n - 4 = Int32.ofInt ((n : Int) - 4) by rw [Int32.ofInt_sub, nIo]; rfl, iof (by omega) (by omega)]
      by_cases q1 : pos.toInt + 4 * e < 0
      · rw [if_pos (l0.mpr q1), if_neg (by omega)]
      · rw [if_neg (fun z => q1 (l0.mp z))]
        by_cases q2 : pos.toInt + 4 * e ≤ (n : Int) - 4
        · rw [if_pos (l4.mpr q2), if_pos (by omega)]
        · rw [if_neg (fun z => q2 (l4.mp z)), if_neg (by omega)]
    · rw [if_neg q, if_neg q]
theorem L77_stop {k62 : Int32 → Int32 → Int32 → Int32 → Int32 → Int32 → Int32 → Mem → Option (Int32 × Mem)} {v1 v2 v3 v4 v5 v6 v7 v8 : Int32} {D : Mem} {n : Nat} (h : ¬ v5 = 0) : Mo_read_L77 k62 (n + 1) v1 v2 v3 v4 v5 v6 v7 v8 D = Mo_read_b164 k62 v1 v2 v3 v4 v5 v6 v7 D := by
  rw [Mo_read_L77]
  by_cases q : (4 : Int32) ≤ v8
  · rw [if_pos q]
  · rw [if_neg q, if_neg h]
