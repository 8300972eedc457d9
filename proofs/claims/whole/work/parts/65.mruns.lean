/-! PURE: text, the reference's runs -/
theorem L8_bl {k : Nat} {b : Nat → Nat} {D : Mem} (h : SDt k b D) : ∀ d n p, (∀ j, p ≤ j → j < p + d → j < k ∧ b j = 32) → p + d ≤ 160 → Mo_reads_L8 (n + d) (wr D 32 8 (nI p)) = Mo_reads_L8 n (wr D 32 8 (nI (p + d))) := by
  have hb : ∀ j, j < k → b j < 128 := fun j hj => (h.2.2 j hj).1
  intro d
  induction d with
  | zero => exact fun n p _ _ => rfl
  | succ d ih =>
    intro n p hj hp
    rw [show n + (d + 1) = n + d + 1 by omega, Mo_reads_L8, wr_s, byteAt_ok (h.wr (by omega)) (by omega), bd_s, if_pos (show by1 k b p = 32 from (by1_eq (c := 32) hb (by omega)).mpr (hj p (by omega) (by omega))), wr_s, nI_1, wr_wr, ih n (p + 1) (fun j a1 a2 => hj j (by omega) (by omega)) (by omega), show p + 1 + d = p + (d + 1) by omega]
theorem L82_ok {k : Nat} {b : Nat → Nat} {D : Mem} (h : SDt k b D) : ∀ d n p q, p + d = q → d < n → q ≤ 160 → Rn k b 97 122 p q → Mo_reads_L82 n (wr D 32 8 (nI p)) = some (wr D 32 8 (nI q)) := by
  have hb : ∀ j, j < k → b j < 128 := fun j hj => (h.2.2 j hj).1
  intro d
  induction d with
  | zero =>
    intro n p q e hn hq hr
    obtain ⟨n, rfl⟩ : ∃ m, n = m + 1 := ⟨n - 1, by omega⟩
    have e' : p = q := by omega
    subst e'
    rw [Mo_reads_L82, wr_s, byteAt_ok (h.wr (by omega)) (by omega), bd_s, inA hb, bd_s, if_neg hr.2.2, if_pos rfl]
  | succ d ih =>
    intro n p q e hn hq hr
    obtain ⟨n, rfl⟩ : ∃ m, n = m + 1 := ⟨n - 1, by omega⟩
    rw [Mo_reads_L82, wr_s, byteAt_ok (h.wr (by omega)) (by omega), bd_s, inA hb, bd_s, if_pos (hr.2.1 p (Nat.le_refl _) (by omega)), if_neg (by decide), wr_s, nI_1, wr_wr]
    exact ih n (p + 1) q (by omega) (by omega) hq ⟨by omega, fun j c1 c2 => hr.2.1 j (by omega) c2, hr.2.2⟩
theorem req1 {c : Int32} {M : Mem} : Mo_requires 1 c M = some M := by
  unfold Mo_requires
  rw [if_neg (by decide)]
theorem req0 {c v : Int32} {M : Mem} (h : M 32 12 = 0) (h9 : M 32 9 = v) : Mo_requires 0 c M = some (wr (wr M 32 12 c) 32 13 v) := by
  unfold Mo_requires
  rw [if_pos rfl, if_pos h, wr_o (by omega), h9]
theorem reqF {a c : Int32} {M : Mem} (h : ¬ M 32 12 = 0) : Mo_requires a c M = some M := by
  unfold Mo_requires
  by_cases q : a = 0
  · rw [if_pos q, if_neg h]
  · rw [if_neg q]
/-- the number of d figures, at most two of them taken -/
def nv (b : Nat → Nat) (st d : Nat) : Nat := if d = 0 then 0 else if d = 1 then b st - 48 else 10 * (b st - 48) + (b (st + 1) - 48)
theorem nv_2 {b : Nat → Nat} {st d : Nat} (h : 2 ≤ d) : nv b st (d + 1) = nv b st d := by
  unfold nv
  rw [if_neg (by omega), if_neg (by omega), if_neg (by omega), if_neg (by omega)]
theorem nv_1 {b : Nat → Nat} {st d : Nat} (h : d < 2) : nv b st (d + 1) = 10 * nv b st d + (b (st + d) - 48) := by
  have e : d = 0 ∨ d = 1 := by omega
  rcases e with rfl | rfl
  · simp [nv]
  · simp [nv]
theorem nv_lt {b : Nat → Nat} {st d : Nat} (h0 : 0 < d → b st ≤ 57) (h1 : 1 < d → b (st + 1) ≤ 57) : nv b st d < 100 := by
  unfold nv
  by_cases q : d = 0
  · rw [if_pos q]; omega
  · rw [if_neg q]
    by_cases q1 : d = 1
    · rw [if_pos q1]; have := h0 (by omega); omega
    · rw [if_neg q1]; have := h0 (by omega); have := h1 (by omega); omega
theorem w118 {D : Mem} {a p a' p' : Int32} : wr (wr (wr (wr D 32 11 a) 32 8 p) 32 11 a') 32 8 p' = wr (wr D 32 11 a') 32 8 p' := by
  funext x y
  simp only [wr_g]
  grind
theorem dig {x c : Nat} (h : 48 ≤ c) : 10 * nI x + nI c - 48 = nI (10 * x + (c - 48)) := by
  rw [show (10 : Int32) = nI 10 from rfl, nIm, nIa, show (48 : Int32) = nI 48 from rfl, nIs (by omega)]
  congr 1
  omega
/-- the reference's number, read to its end -/
def nE (b : Nat → Nat) (D : Mem) (st q : Nat) : Mem := if q - st ≤ 2 then wr (wr D 32 11 (nI (nv b st (q - st)))) 32 8 (nI q) else wr (wr (wr (wr D 32 11 (nI (nv b st (q - st)))) 32 8 (nI q)) 32 12 1) 32 13 (nI st)
theorem L140_ok {k : Nat} {b : Nat → Nat} {D : Mem} {st : Nat} (h : SDt k b D) (hs : D 32 9 = nI st) (hf : D 32 12 = 0) : ∀ d n p q, p + d = q → d < n → q ≤ 160 → st ≤ p → Rn k b 48 57 p q → Mo_reads_L140 n (wr (wr D 32 11 (nI (nv b st (p - st)))) 32 8 (nI p)) = some (nE b D st q) := by
  have hb : ∀ j, j < k → b j < 128 := fun j hj => (h.2.2 j hj).1
  have h9 : ∀ x y, wr (wr D 32 11 x) 32 8 y 32 9 = nI st := fun x y => by rw [wr_o (by omega), wr_o (by omega)]; exact hs
  have h12 : ∀ x y, wr (wr D 32 11 x) 32 8 y 32 12 = 0 := fun x y => by rw [wr_o (by omega), wr_o (by omega)]; exact hf
  have h11 : ∀ x y, wr (wr D 32 11 x) 32 8 y 32 11 = x := fun x y => by rw [wr_o (by omega), wr_s]
  intro d
  induction d with
  | zero =>
    intro n p q e hn hq hst hr
    obtain ⟨n, rfl⟩ : ∃ m, n = m + 1 := ⟨n - 1, by omega⟩
    have e' : p = q := by omega
    subst e'
    rw [Mo_reads_L140, wr_s, byteAt_ok ((h.wr (by omega)).wr (by omega)) (by omega), bd_s, in9 hb, bd_s, if_neg hr.2.2, if_pos rfl, h9, wr_s, nIs hst, nE]
    by_cases z : p - st ≤ 2
    · rw [if_neg (show ¬ (2 : Int32) < nI (p - st) from nI_nlt (a := 2) (by omega) (by omega)), if_pos z, Mo_reads_b236, req1, bv_s]
    · rw [if_pos (show (2 : Int32) < nI (p - st) from nI_lt (a := 2) (by omega) (by omega)), if_neg z, Mo_reads_b236, req0 (h12 _ _) (h9 _ _), bv_s]
  | succ d ih =>
    intro n p q e hn hq hst hr
    obtain ⟨n, rfl⟩ : ∃ m, n = m + 1 := ⟨n - 1, by omega⟩
    have hc := hr.2.1 p (Nat.le_refl _) (by omega)
    have i := ih n (p + 1) q (by omega) (by omega) hq (by omega) ⟨by omega, fun j c1 c2 => hr.2.1 j (by omega) c2, hr.2.2⟩
    rw [Mo_reads_L140, wr_s, byteAt_ok ((h.wr (by omega)).wr (by omega)) (by omega), bd_s, in9 hb, bd_s, if_pos hc, if_neg (by decide), h9, wr_s, nIs hst]
    by_cases z : 2 ≤ p - st
    · rw [if_pos (show (2 : Int32) ≤ nI (p - st) from nI_le (a := 2) z (by omega)), Mo_reads_b201, h11, wr_o (k := 11) (b := 8) (by omega), wr_s, w118, nI_1, ← nv_2 z, show p - st + 1 = p + 1 - st by omega]
      exact i
    · rw [if_neg (show ¬ (2 : Int32) ≤ nI (p - st) from nI_ge (b := 2) (by omega) (by omega)), byteAt_ok ((h.wr (by omega)).wr (by omega)) (by omega), bd_s, Mo_reads_b201, h11, wr_o (k := 11) (b := 8) (by omega), wr_s, w118, nI_1, by1, if_pos hc.1, dig hc.2.1, show 10 * nv b st (p - st) + (b p - 48) = nv b st (p + 1 - st) by rw [show p + 1 - st = p - st + 1 by omega, nv_1 (by omega), show st + (p - st) = p by omega]]
      exact i
