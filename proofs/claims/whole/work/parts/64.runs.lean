/-! PURE: text, runs of bytes -/
theorem wr_wr {M : Mem} {c k : Nat} {v v' : Int32} : wr (wr M c k v) c k v' = wr M c k v' := by
  funext a b
  by_cases h : a = c ∧ b = k <;> simp [wr_g, h]
theorem wr_id {M : Mem} {c k : Nat} {v : Int32} (h : M c k = v) : wr M c k v = M := by
  funext a b
  rw [wr_g]
  by_cases q : a = c ∧ b = k
  · rw [if_pos q, q.1, q.2, h]
  · rw [if_neg q]
theorem bv_some {o : Option Mem} : (bv o fun M => some M) = o := by cases o <;> rfl
def SCt (k : Nat) (b : Nat → Nat) (C : Mem) : Prop := k ≤ 160 ∧ C 1 2 = nI k ∧ ∀ j, j < k → b j < 128 ∧ C 2 j = nI (b j)
def SDt (k : Nat) (b : Nat → Nat) (D : Mem) : Prop := k ≤ 160 ∧ D 32 7 = nI k ∧ ∀ j, j < k → b j < 128 ∧ D 37 j = nI (b j)
theorem SCt.wr {k : Nat} {b : Nat → Nat} {C : Mem} {j : Nat} {v : Int32} (h : SCt k b C) (hj : 2 ≠ j) : SCt k b (wr C 1 j v) := ⟨h.1, by rw [wr_o hj]; exact h.2.1, fun i hi => by rw [wr_ne (by omega)]; exact h.2.2 i hi⟩
theorem SDt.wr {k : Nat} {b : Nat → Nat} {D : Mem} {j : Nat} {v : Int32} (h : SDt k b D) (hj : 7 ≠ j) : SDt k b (wr D 32 j v) := ⟨h.1, by rw [wr_o hj]; exact h.2.1, fun i hi => by rw [wr_ne (by omega)]; exact h.2.2 i hi⟩
theorem SCt.mv {k : Nat} {b : Nat → Nat} {C C' : Mem} (h : SCt k b C) (h1 : C' 1 2 = C 1 2) (h2 : C' 2 = C 2) : SCt k b C' := ⟨h.1, by rw [h1]; exact h.2.1, fun i hi => by rw [h2]; exact h.2.2 i hi⟩
theorem SDt.mv {k : Nat} {b : Nat → Nat} {D D' : Mem} (h : SDt k b D) (h1 : D' 32 7 = D 32 7) (h2 : D' 37 = D 37) : SDt k b D' := ⟨h.1, by rw [h1]; exact h.2.1, fun i hi => by rw [h2]; exact h.2.2 i hi⟩
def Rn (k : Nat) (b : Nat → Nat) (lo hi p q : Nat) : Prop := p ≤ q ∧ (∀ j, p ≤ j → j < q → j < k ∧ lo ≤ b j ∧ b j ≤ hi) ∧ ¬ (q < k ∧ lo ≤ b q ∧ b q ≤ hi)
theorem Rn.ex (k : Nat) (b : Nat → Nat) (lo hi : Nat) : ∀ d p, k - p ≤ d → ∃ q, Rn k b lo hi p q := by
  intro d
  induction d with
  | zero => exact fun p h => ⟨p, Nat.le_refl _, fun j h1 h2 => by omega, fun h' => by omega⟩
  | succ d ih =>
    intro p h
    by_cases q : p < k ∧ lo ≤ b p ∧ b p ≤ hi
    · obtain ⟨e, h1, h2, h3⟩ := ih (p + 1) (by omega)
      refine ⟨e, by omega, fun j a1 a2 => ?_, h3⟩
      by_cases z : j = p
      · subst z; exact q
      · exact h2 j (by omega) a2
    · exact ⟨p, Nat.le_refl _, fun j h1 h2 => by omega, q⟩
theorem Rn.le {k : Nat} {b : Nat → Nat} {lo hi p q : Nat} (h : Rn k b lo hi p q) (hp : p ≤ k) : q ≤ k := by
  by_cases e : p = q
  · omega
  · have h1 := h.1
    have := (h.2.1 (q - 1) (by omega) (by omega)).1
    omega
theorem Rn.gt {k : Nat} {b : Nat → Nat} {lo hi p q : Nat} (h : Rn k b lo hi p q) (hp : p < k ∧ lo ≤ b p ∧ b p ≤ hi) : p < q := by
  have h1 := h.1
  by_cases e : p = q
  · subst e; exact absurd hp h.2.2
  · omega
theorem eor_ok {k : Nat} {b : Nat → Nat} {C : Mem} {lo hi : Nat} (h : SCt k b C) (hl : lo < 200) (hh : hi < 200) : ∀ d n p q, p + d = q → d < n → q ≤ 160 → Rn k b lo hi p q → Tr_endOfRun_L5 n (nI lo) (nI hi) (nI p) C = some (nI q, C) := by
  obtain ⟨hk, h1, h2⟩ := h
  intro d
  induction d with
  | zero =>
    intro n p q e hn hq hr
    obtain ⟨n, rfl⟩ : ∃ m, n = m + 1 := ⟨n - 1, by omega⟩
    have e' : p = q := by omega
    subst e'
    rw [Tr_endOfRun_L5, h1]
    by_cases a1 : p < k
    · obtain ⟨b1, b2⟩ := h2 p a1
      rw [if_neg (nI_ge a1 (by omega)), if_pos (ibn (by omega) (by omega)), ixn (by omega), b2]
      by_cases a2 : b p < lo
      · rw [if_pos (nI_lt a2 (by omega))]
      · rw [if_neg (nI_nlt (by omega) (by omega)), if_pos (ibn (by omega) (by omega)), if_pos (nI_lt (by have := hr.2.2; omega) (by omega))]
    · rw [if_pos (nI_le (by omega) (by omega))]
  | succ d ih =>
    intro n p q e hn hq hr
    obtain ⟨n, rfl⟩ : ∃ m, n = m + 1 := ⟨n - 1, by omega⟩
    obtain ⟨a1, a2, a3⟩ := hr.2.1 p (Nat.le_refl _) (by omega)
    obtain ⟨b1, b2⟩ := h2 p a1
    rw [Tr_endOfRun_L5, h1, if_neg (nI_ge a1 (by omega)), if_pos (ibn (by omega) (by omega)), ixn (by omega), b2, if_neg (nI_nlt a2 (by omega)), if_pos (ibn (by omega) (by omega)), if_neg (nI_nlt a3 (by omega)), nI_1]
    exact ih n (p + 1) q (by omega) (by omega) hq ⟨by omega, fun j c1 c2 => hr.2.1 j (by omega) c2, hr.2.2⟩
theorem eor {k : Nat} {b : Nat → Nat} {C : Mem} {lo hi p q : Nat} (h : SCt k b C) (hl : lo < 200) (hh : hi < 200) (hp : C 1 3 = nI p) (hq : q ≤ 160) (hr : Rn k b lo hi p q) : Tr_endOfRun (nI lo) (nI hi) C = some (nI q, C) := by
  have h1 := hr.1
  unfold Tr_endOfRun
  rw [hp]
  exact eor_ok h hl hh (q - p) FU p q (by omega) (FU_lt (by omega)) hq hr
/-- what is at a place, or -1 -/
def by1 (k : Nat) (b : Nat → Nat) (p : Nat) : Int32 := if p < k then nI (b p) else -1
theorem byteAt_ok {k : Nat} {b : Nat → Nat} {D : Mem} {p : Nat} (h : SDt k b D) (hp : p < 1000) : Mo_byteAt (nI p) D = some (by1 k b p, D) := by
  obtain ⟨hk, h1, h2⟩ := h
  unfold Mo_byteAt by1
  rw [h1]
  by_cases q : p < k
  · rw [if_neg (nI_ge q (by omega)), if_pos (ibn (by omega) (by omega)), ixn (by omega), (h2 p q).2, if_pos q]
  · rw [if_pos (nI_le (by omega) (by omega)), if_neg q]
theorem cnd {k : Nat} {b : Nat → Nat} {lo hi p : Nat} (hb : ∀ j, j < k → b j < 128) (hl : lo < 200) (hh : hi < 200) : (nI lo ≤ by1 k b p ∧ by1 k b p ≤ nI hi) ↔ (p < k ∧ lo ≤ b p ∧ b p ≤ hi) := by
  unfold by1
  by_cases q : p < k
  · have := hb p q
    rw [if_pos q, nI_leI (by omega) (by omega), nI_leI (by omega) (by omega)]
    exact ⟨fun g => ⟨q, g⟩, fun g => g.2⟩
  · rw [if_neg q]
    refine ⟨fun g => ?_, fun g => absurd g.1 q⟩
    have g1 := g.1
    rw [Int32.le_iff_toInt_le, nI_toInt (by omega)] at g1
    have : (-1 : Int32).toInt = -1 := by decide
    omega
theorem inA {k : Nat} {b : Nat → Nat} (hb : ∀ j, j < k → b j < 128) (p : Nat) (M : Mem) : Mo_in (by1 k b p).toInt64 97 122 M = some (if p < k ∧ 97 ≤ b p ∧ b p ≤ 122 then 1 else 0, M) := by
  rw [in_97_122]
  have c := cnd (p := p) (lo := 97) (hi := 122) hb (by omega) (by omega)
  by_cases q : p < k ∧ 97 ≤ b p ∧ b p ≤ 122
  · rw [if_pos q, if_pos (show 97 ≤ by1 k b p ∧ by1 k b p ≤ 122 from c.mpr q)]
  · rw [if_neg q, if_neg (show ¬ (97 ≤ by1 k b p ∧ by1 k b p ≤ 122) from fun g => q (c.mp g))]
theorem in9 {k : Nat} {b : Nat → Nat} (hb : ∀ j, j < k → b j < 128) (p : Nat) (M : Mem) : Mo_in (by1 k b p).toInt64 48 57 M = some (if p < k ∧ 48 ≤ b p ∧ b p ≤ 57 then 1 else 0, M) := by
  rw [in_48_57]
  have c := cnd (p := p) (lo := 48) (hi := 57) hb (by omega) (by omega)
  by_cases q : p < k ∧ 48 ≤ b p ∧ b p ≤ 57
  · rw [if_pos q, if_pos (show 48 ≤ by1 k b p ∧ by1 k b p ≤ 57 from c.mpr q)]
  · rw [if_neg q, if_neg (show ¬ (48 ≤ by1 k b p ∧ by1 k b p ≤ 57) from fun g => q (c.mp g))]
theorem by1_eq {k : Nat} {b : Nat → Nat} {c p : Nat} (hb : ∀ j, j < k → b j < 128) (hc : c < 200) : by1 k b p = nI c ↔ (p < k ∧ b p = c) := by
  unfold by1
  by_cases q : p < k
  · have := hb p q
    rw [if_pos q, nI_eq (by omega) (by omega)]
    exact ⟨fun g => ⟨q, g⟩, fun g => g.2⟩
  · rw [if_neg q]
    refine ⟨fun g => ?_, fun g => absurd g.1 q⟩
    have g1 := congrArg Int32.toInt g
    rw [nI_toInt (by omega)] at g1
    have : (-1 : Int32).toInt = -1 := by decide
    omega
theorem by1_0 {k : Nat} {b : Nat → Nat} {p : Nat} (hb : ∀ j, j < k → b j < 128) : 0 ≤ by1 k b p ↔ p < k := by
  unfold by1
  by_cases q : p < k
  · have := hb p q
    rw [if_pos q]
    exact ⟨fun _ => q, fun _ => nI_pos' (by omega)⟩
  · rw [if_neg q]
    exact ⟨fun g => absurd g (by decide), fun g => absurd g q⟩
