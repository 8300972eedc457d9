/-! PURE: read, the walk -/
/-- all that both sides agree on -/
def RD (C D : Mem) (s : Nat) (sh : Option (Nat × Nat)) (p r w : Nat) : Prop := P2 C D ∧ C 5 1 = nI p ∧ C 5 2 = nI r ∧ C 5 3 = nI w ∧ pr p ∧ r ≤ 4 ∧ w ≤ 4 ∧ SC C s sh ∧ SD D s sh ∧ (sh ≠ none → ∀ i, i < 40 → C (15 + 2 * s) i = D 48 (40 * s + i))
theorem RD.d {C D : Mem} {s : Nat} {sh : Option (Nat × Nat)} {p r w : Nat} (h : RD C D s sh p r w) : D 33 0 = nI p ∧ D 33 1 = nI r ∧ D 33 2 = nI w := by
  obtain ⟨hP, e1, e2, e3, hp, hr, hw, _⟩ := h
  obtain ⟨p', r', w', hp', hr', hw', f1, f2, f3, s0, s1, s2, _⟩ := hP
  have h7 := pr_le hp
  have h7' := pr_le hp'
  have ep : p' = p := (nI_eq (by omega) (by omega)).mp (f1.symm.trans e1)
  have er : r' = r := (nI_eq (by omega) (by omega)).mp (f2.symm.trans e2)
  have ew : w' = w := (nI_eq (by omega) (by omega)).mp (f3.symm.trans e3)
  subst ep; subst er; subst ew
  exact ⟨s0, s1, s2⟩
/-- the e-th entry is there and may be set -/
def okE (C : Mem) (s : Nat) (sh : Option (Nat × Nat)) (p r w : Nat) (ln0 pos : Int32) (e : Nat) : Prop := cdF sh ln0 pos e = 0 ∧ Okv p r w (fun i => C (15 + 2 * s) ((pos.toInt + 4 * e).toNat + i))
theorem cdF_0 {sh : Option (Nat × Nat)} {ln0 pos : Int32} {e : Nat} (h : cdF sh ln0 pos e = 0) : ∃ a n, sh = some (a, n) ∧ 0 ≤ pos.toInt + 4 * e ∧ pos.toInt + 4 * e + 4 ≤ n := by
  cases sh with
  | none => exact absurd (show (1 : Int32) = 0 from h) (by decide)
  | some an =>
    obtain ⟨a, n⟩ := an
    refine ⟨a, n, rfl, ?_⟩
    have h' : (if ln0 = nI a then (if 0 ≤ pos.toInt + 4 * e ∧ pos.toInt + 4 * e + 4 ≤ n then (0 : Int32) else 2) else 3) = 0 := h
    by_cases q : ln0 = nI a
    · rw [if_pos q] at h'
      by_cases q2 : 0 ≤ pos.toInt + 4 * e ∧ pos.toInt + 4 * e + 4 ≤ n
      · exact q2
      · rw [if_neg q2] at h'; exact absurd h' (by decide)
    · rw [if_neg q] at h'; exact absurd h' (by decide)
theorem posZ {pos : Int32} {e z : Nat} (h : pos.toInt + 4 * e = z) : pos + 4 * nI e = nI z := by
  have e1 : pos + 4 * nI e = Int32.ofInt (pos.toInt + 4 * (e : Int)) := by
    rw [Int32.ofInt_add, Int32.ofInt_toInt, Int32.ofInt_mul, nIo]; rfl
  rw [e1, nIo, h]
