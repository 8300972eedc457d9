/-! PURE: text, a token: what it is, and the class's -/
def Tk (k : Nat) (b : Nat → Nat) (p kd st q v : Nat) : Prop := Rn k b 32 32 p st ∧ ((kd = 0 ∧ k ≤ st ∧ q = st) ∨ (kd = 1 ∧ st < k ∧ (97 ≤ b st ∧ b st ≤ 122) ∧ Rn k b 97 122 st q) ∨ (kd = 2 ∧ st < k ∧ (48 ≤ b st ∧ b st ≤ 57) ∧ Rn k b 48 57 st q ∧ q - st ≤ 2 ∧ v = nv b st (q - st)) ∨ (kd = 3 ∧ st < k ∧ b st = 59 ∧ q = st + 1))
def Tf (k : Nat) (b : Nat → Nat) (p st : Nat) : Prop := Rn k b 32 32 p st ∧ st < k ∧ (((48 ≤ b st ∧ b st ≤ 57) ∧ ∃ q, Rn k b 48 57 st q ∧ 2 < q - st) ∨ (¬ (97 ≤ b st ∧ b st ≤ 122) ∧ ¬ (48 ≤ b st ∧ b st ≤ 57) ∧ b st ≠ 59))
theorem Tk_ex (k : Nat) (b : Nat → Nat) (p : Nat) : (∃ kd st q v, Tk k b p kd st q v) ∨ ∃ st, Tf k b p st := by
  obtain ⟨st, hr⟩ := Rn.ex k b 32 32 (k - p) p (Nat.le_refl _)
  by_cases h : st < k
  · by_cases h1 : 97 ≤ b st ∧ b st ≤ 122
    · obtain ⟨q, hq⟩ := Rn.ex k b 97 122 (k - st) st (Nat.le_refl _)
      exact .inl ⟨1, st, q, 0, hr, .inr (.inl ⟨rfl, h, h1, hq⟩)⟩
    · by_cases h2 : 48 ≤ b st ∧ b st ≤ 57
      · obtain ⟨q, hq⟩ := Rn.ex k b 48 57 (k - st) st (Nat.le_refl _)
        by_cases h3 : q - st ≤ 2
        · exact .inl ⟨2, st, q, _, hr, .inr (.inr (.inl ⟨rfl, h, h2, hq, h3, rfl⟩))⟩
        · exact .inr ⟨st, hr, h, .inl ⟨h2, q, hq, by omega⟩⟩
      · by_cases h3 : b st = 59
        · exact .inl ⟨3, st, st + 1, 0, hr, .inr (.inr (.inr ⟨rfl, h, h3, rfl⟩))⟩
        · exact .inr ⟨st, hr, h, .inr ⟨h1, h2, h3⟩⟩
  · exact .inl ⟨0, st, st, 0, hr, .inl ⟨rfl, by omega, rfl⟩⟩
/-- where a token lies -/
theorem Tk.bnd {k : Nat} {b : Nat → Nat} {p kd st q v : Nat} (h : Tk k b p kd st q v) (hp : p ≤ k) : p ≤ st ∧ st ≤ q ∧ q ≤ k ∧ kd ≤ 3 ∧ (kd ≠ 0 → st < q) ∧ (kd = 0 → st = k ∧ q = k) ∧ (kd = 2 → v < 100) ∧ (kd = 1 → st < k ∧ Rn k b 97 122 st q) := by
  obtain ⟨hr, hc⟩ := h
  have h1 := hr.1
  have h2 := hr.le hp
  rcases hc with ⟨rfl, z1, rfl⟩ | ⟨rfl, z1, z2, z3⟩ | ⟨rfl, z1, z2, z3, z4, z5⟩ | ⟨rfl, z1, z2, rfl⟩
  · exact ⟨h1, by omega, by omega, by omega, fun g => absurd rfl g, fun _ => by omega, fun g => by omega, fun g => by omega⟩
  · have g1 := z3.gt ⟨z1, z2⟩
    have g2 := z3.le (by omega)
    exact ⟨h1, by omega, by omega, by omega, fun _ => g1, fun g => by omega, fun g => by omega, fun _ => ⟨z1, z3⟩⟩
  · have g1 := z3.gt ⟨z1, z2⟩
    have g2 := z3.le (by omega)
    refine ⟨h1, by omega, by omega, by omega, fun _ => g1, fun g => by omega, fun _ => ?_, fun g => by omega⟩
    rw [z5]
    exact nv_lt (fun _ => z2.2) (fun g => (z3.2.1 (st + 1) (by omega) (by omega)).2.2)
  · exact ⟨h1, by omega, by omega, by omega, fun _ => by omega, fun g => by omega, fun g => by omega, fun g => by omega⟩
def fC (C C' : Mem) : Prop := (∀ y, y ≠ 1 → C' y = C y) ∧ ∀ j, j ≠ 3 → j ≠ 4 → j ≠ 5 → j ≠ 6 → j ≠ 10 → j ≠ 11 → C' 1 j = C 1 j
def rtB (C2 : Mem) : Option (Int32 × Mem) :=
  if (C2 1 3) < (C2 1 2) then (if ib (C2 1 3) 160 = true then (if (C2 2 (ix (C2 1 3))) < 97 then (Tr_readToken_b79 (C2 2 (ix (C2 1 3))) C2) else
  if 122 < (C2 2 (ix (C2 1 3))) then (Tr_readToken_b79 (C2 2 (ix (C2 1 3))) C2) else
  bd (Tr_endOfRun 97 122 (wr C2 1 4 1)) fun r7 M5 =>
  some (1, wr M5 1 3 r7)) else none) else
  some (1, wr C2 1 4 0)
theorem rt_pre {k : Nat} {b : Nat → Nat} {C : Mem} {p st : Nat} (h : SCt k b C) (hp : C 1 3 = nI p) (hpk : p ≤ k) (hr : Rn k b 32 32 p st) : ∃ C2, Tr_readToken C = rtB C2 ∧ SCt k b C2 ∧ C2 1 3 = nI st ∧ C2 1 5 = nI st ∧ (∀ y, y ≠ 1 → C2 y = C y) ∧ ∀ j, j ≠ 3 → j ≠ 5 → C2 1 j = C 1 j := by
  have hsk := hr.le hpk
  have hkk := h.1
  have e0 : Tr_endOfRun 32 32 C = some (nI st, C) := eor (lo := 32) (hi := 32) h (by omega) (by omega) hp (by omega) hr
  refine ⟨wr (wr C 1 3 (nI st)) 1 5 (nI st), ?_, (h.wr (by omega)).wr (by omega), by rw [wr_o (by omega), wr_s], wr_s, fun y hy => by rw [wr_ne hy, wr_ne hy], fun j h3 h5 => by rw [wr_o h5, wr_o h3]⟩
  unfold Tr_readToken
  rw [e0, bd_s, wr_s]
  rfl
theorem tn_ok {k : Nat} {b : Nat → Nat} {C : Mem} {st q : Nat} (h : SCt k b C) (hq : C 1 3 = nI q) (hqk : q ≤ k) (hq2 : q - st ≤ 2) (hd : ∀ j, st ≤ j → j < q → 48 ≤ b j ∧ b j ≤ 57) : ∀ d n p, p + d = q → d < n → st ≤ p → Tr_takeNumber_L10 n (nI p) (wr C 1 6 (nI (nv b st (p - st)))) = some (1, wr C 1 6 (nI (nv b st (q - st)))) := by
  have hkk := h.1
  intro d
  induction d with
  | zero =>
    intro n p e hn hst
    obtain ⟨n, rfl⟩ : ∃ m, n = m + 1 := ⟨n - 1, by omega⟩
    have e' : p = q := by omega
    subst e'
    rw [Tr_takeNumber_L10, wr_o (by omega), hq, if_pos (Int32.le_refl _)]
  | succ d ih =>
    intro n p e hn hst
    obtain ⟨n, rfl⟩ : ∃ m, n = m + 1 := ⟨n - 1, by omega⟩
    have hc := hd p hst (by omega)
    rw [Tr_takeNumber_L10, wr_o (by omega), hq, if_neg (nI_ge (by omega) (by omega)), if_pos (ibn (by omega) (by omega)), ixn (by omega), wr_s, wr_ne (a := 2) (by omega), (h.2.2 p (by omega)).2, dig hc.1, wr_wr, nI_1, show 10 * nv b st (p - st) + (b p - 48) = nv b st (p + 1 - st) by rw [show p + 1 - st = p - st + 1 by omega, nv_1 (by omega), show st + (p - st) = p by omega]]
    exact ih n (p + 1) (by omega) (by omega) (by omega)
theorem takeNumber_ok {k : Nat} {b : Nat → Nat} {C : Mem} {st q : Nat} (h : SCt k b C) (hq : C 1 3 = nI q) (hs : C 1 5 = nI st) (hqk : q ≤ k) (hsq : st ≤ q) (hq2 : q - st ≤ 2) (hd : ∀ j, st ≤ j → j < q → 48 ≤ b j ∧ b j ≤ 57) : Tr_takeNumber C = some (1, wr C 1 6 (nI (nv b st (q - st)))) := by
  have i := tn_ok h hq hqk hq2 hd (q - st) FU st (by omega) (FU_lt (by omega)) (Nat.le_refl _)
  unfold Tr_takeNumber
  rw [wr_o (by omega), hs]
  rw [show st - st = 0 by omega] at i
  exact i
theorem rtC_ok {k : Nat} {b : Nat → Nat} {C : Mem} {p kd st q v : Nat} (h : SCt k b C) (hp : C 1 3 = nI p) (hpk : p ≤ k) (ht : Tk k b p kd st q v) : ∃ C', Tr_readToken C = some (1, C') ∧ C' 1 3 = nI q ∧ C' 1 4 = nI kd ∧ C' 1 5 = nI st ∧ (kd = 2 → C' 1 6 = nI v) ∧ C' 1 10 = C 1 10 ∧ fC C C' := by
  obtain ⟨hr, hc⟩ := ht
  have hsk := hr.le hpk
  have hkk := h.1
  obtain ⟨C2, e, c2, f3, f5, fy, fj⟩ := rt_pre h hp hpk hr
  rw [e]
  unfold rtB
  rcases hc with ⟨rfl, z1, rfl⟩ | ⟨rfl, z1, z2, z3⟩ | ⟨rfl, z1, z2, z3, z4, z5⟩ | ⟨rfl, z1, z2, rfl⟩
  · refine ⟨wr C2 1 4 0, by rw [f3, c2.2.1, if_neg (nI_nlt z1 (by omega))], by rw [wr_o (by omega)]; exact f3, wr_s, by rw [wr_o (by omega)]; exact f5, fun g => absurd g (by omega), by rw [wr_o (by omega)]; exact fj 10 (by omega) (by omega), fun y hy => by rw [wr_ne hy]; exact fy y hy, fun j j1 j2 j3 _ _ _ => by rw [wr_o j2]; exact fj j j1 j3⟩
  · have hb := c2.2.2 st z1
    have g2 := z3.le (by omega)
    have e1 : Tr_endOfRun 97 122 (wr C2 1 4 1) = some (nI q, wr C2 1 4 1) := eor (lo := 97) (hi := 122) (c2.wr (by omega)) (by omega) (by omega) (by rw [wr_o (by omega)]; exact f3) (by omega) z3
    refine ⟨wr (wr C2 1 4 1) 1 3 (nI q), ?_, wr_s, by rw [wr_o (by omega), wr_s]; rfl, by rw [wr_o (by omega), wr_o (by omega)]; exact f5, fun g => absurd g (by omega), by rw [wr_o (by omega), wr_o (by omega)]; exact fj 10 (by omega) (by omega), fun y hy => by rw [wr_ne hy, wr_ne hy]; exact fy y hy, fun j j1 j2 j3 _ _ _ => by rw [wr_o j1, wr_o j2]; exact fj j j1 j3⟩
    rw [f3, c2.2.1, if_pos (nI_lt z1 (by omega)), if_pos (ibn (by omega) (by omega)), ixn (by omega), hb.2, if_neg (show ¬ nI (b st) < (97 : Int32) from nI_nlt (b := 97) z2.1 (by omega)), if_neg (show ¬ (122 : Int32) < nI (b st) from nI_nlt (a := 122) z2.2 (by omega)), e1, bd_s]
  · have hb := c2.2.2 st z1
    have g1 := z3.gt ⟨z1, z2⟩
    have g2 := z3.le (by omega)
    have e1 : Tr_endOfRun 48 57 (wr C2 1 4 2) = some (nI q, wr C2 1 4 2) := eor (lo := 48) (hi := 57) (c2.wr (by omega)) (by omega) (by omega) (by rw [wr_o (by omega)]; exact f3) (by omega) z3
    have e5 : wr (wr C2 1 4 2) 1 3 (nI q) 1 5 = nI st := by rw [wr_o (by omega), wr_o (by omega)]; exact f5
    have e2 := takeNumber_ok (k := k) (b := b) (C := wr (wr C2 1 4 2) 1 3 (nI q)) (st := st) (q := q) ((c2.wr (by omega)).wr (by omega)) wr_s e5 g2 (by omega) z4 (fun j j1 j2 => (z3.2.1 j j1 j2).2)
    refine ⟨wr (wr (wr C2 1 4 2) 1 3 (nI q)) 1 6 (nI (nv b st (q - st))), ?_, by rw [wr_o (by omega), wr_s], by rw [wr_o (by omega), wr_o (by omega), wr_s]; rfl, by rw [wr_o (by omega)]; exact e5, fun _ => by rw [wr_s, z5], by rw [wr_o (by omega), wr_o (by omega), wr_o (by omega)]; exact fj 10 (by omega) (by omega), fun y hy => by rw [wr_ne hy, wr_ne hy, wr_ne hy]; exact fy y hy, fun j j1 j2 j3 j6 _ _ => by rw [wr_o j6, wr_o j1, wr_o j2]; exact fj j j1 j3⟩
    rw [f3, c2.2.1, if_pos (nI_lt z1 (by omega)), if_pos (ibn (by omega) (by omega)), ixn (by omega), hb.2, if_pos (show nI (b st) < (97 : Int32) from nI_lt (b := 97) (by omega) (by omega)), Tr_readToken_b79, if_neg (show ¬ nI (b st) < (48 : Int32) from nI_nlt (b := 48) z2.1 (by omega)), if_neg (show ¬ (57 : Int32) < nI (b st) from nI_nlt (a := 57) z2.2 (by omega)), e1, bd_s, wr_s, e5, nIs (by omega), if_neg (show ¬ (2 : Int32) < nI (q - st) from nI_nlt (a := 2) (by omega) (by omega)), e2, bd_s, if_pos z01_1]
  · have hb := c2.2.2 st z1
    have e3 : wr C2 1 4 3 1 3 = nI st := by rw [wr_o (by omega)]; exact f3
    refine ⟨wr (wr C2 1 4 3) 1 3 (nI (st + 1)), ?_, wr_s, by rw [wr_o (by omega), wr_s]; rfl, by rw [wr_o (by omega), wr_o (by omega)]; exact f5, fun g => absurd g (by omega), by rw [wr_o (by omega), wr_o (by omega)]; exact fj 10 (by omega) (by omega), fun y hy => by rw [wr_ne hy, wr_ne hy]; exact fy y hy, fun j j1 j2 j3 _ _ _ => by rw [wr_o j1, wr_o j2]; exact fj j j1 j3⟩
    rw [f3, c2.2.1, if_pos (nI_lt z1 (by omega)), if_pos (ibn (by omega) (by omega)), ixn (by omega), hb.2, z2, if_pos (by decide), Tr_readToken_b79, if_neg (by decide), if_pos (by decide), Tr_readToken_b138, if_pos (by decide), e3, nI_1]
theorem stop_ok {k v : Int32} {C : Mem} : Tr_stopAt k v C = some (0, wr (wr C 1 10 k) 1 11 v) := rfl
theorem rtC_no {k : Nat} {b : Nat → Nat} {C : Mem} {p st : Nat} (h : SCt k b C) (hp : C 1 3 = nI p) (hpk : p ≤ k) (ht : Tf k b p st) : ∃ C', Tr_readToken C = some (0, C') ∧ C' 1 10 = 1 ∧ C' 1 11 = nI st ∧ fC C C' := by
  obtain ⟨hr, z1, hc⟩ := ht
  have hsk := hr.le hpk
  have hkk := h.1
  obtain ⟨C2, e, c2, f3, f5, fy, fj⟩ := rt_pre h hp hpk hr
  rw [e]
  unfold rtB
  have hb := c2.2.2 st z1
  rw [f3, c2.2.1, if_pos (nI_lt z1 (by omega)), if_pos (ibn (by omega) (by omega)), ixn (by omega), hb.2]
  rcases hc with ⟨z2, q, z3, z4⟩ | ⟨y1, y2, y3⟩
  · have g2 := z3.le (by omega)
    have e1 : Tr_endOfRun 48 57 (wr C2 1 4 2) = some (nI q, wr C2 1 4 2) := eor (lo := 48) (hi := 57) (c2.wr (by omega)) (by omega) (by omega) (by rw [wr_o (by omega)]; exact f3) (by omega) z3
    have e5 : wr (wr C2 1 4 2) 1 3 (nI q) 1 5 = nI st := by rw [wr_o (by omega), wr_o (by omega)]; exact f5
    refine ⟨wr (wr (wr (wr C2 1 4 2) 1 3 (nI q)) 1 10 1) 1 11 (nI st), ?_, by rw [wr_o (by omega), wr_s], wr_s, fun y hy => by rw [wr_ne hy, wr_ne hy, wr_ne hy, wr_ne hy]; exact fy y hy, fun j j1 j2 j3 _ j10 j11 => by rw [wr_o j11, wr_o j10, wr_o j1, wr_o j2]; exact fj j j1 j3⟩
    rw [if_pos (show nI (b st) < (97 : Int32) from nI_lt (b := 97) (by omega) (by omega)), Tr_readToken_b79, if_neg (show ¬ nI (b st) < (48 : Int32) from nI_nlt (b := 48) z2.1 (by omega)), if_neg (show ¬ (57 : Int32) < nI (b st) from nI_nlt (a := 57) z2.2 (by omega)), e1, bd_s, wr_s, e5, nIs (by omega), if_pos (show (2 : Int32) < nI (q - st) from nI_lt (a := 2) (by omega) (by omega)), stop_ok, bd_s, if_pos z01_0]
  · have e138 : Tr_readToken_b138 (nI (b st)) C2 = some (0, wr (wr C2 1 10 1) 1 11 (nI st)) := by
      rw [Tr_readToken_b138, if_neg (show ¬ nI (b st) = (59 : Int32) from fun g => y3 ((nI_eq (b := 59) (by omega) (by omega)).mp g)), f5, stop_ok, bd_s, if_pos z01_0]
    have e79 : Tr_readToken_b79 (nI (b st)) C2 = some (0, wr (wr C2 1 10 1) 1 11 (nI st)) := by
      rw [Tr_readToken_b79, e138]
      by_cases q : b st < 48
      · rw [if_pos (show nI (b st) < (48 : Int32) from nI_lt (b := 48) q (by omega))]
      · rw [if_neg (show ¬ nI (b st) < (48 : Int32) from nI_nlt (b := 48) (by omega) (by omega)), if_pos (show (57 : Int32) < nI (b st) from nI_lt (a := 57) (by omega) (by omega))]
    refine ⟨wr (wr C2 1 10 1) 1 11 (nI st), ?_, by rw [wr_o (by omega), wr_s], wr_s, fun y hy => by rw [wr_ne hy, wr_ne hy]; exact fy y hy, fun j j1 j2 j3 _ j10 j11 => by rw [wr_o j11, wr_o j10]; exact fj j j1 j3⟩
    rw [e79]
    by_cases q : b st < 97
    · rw [if_pos (show nI (b st) < (97 : Int32) from nI_lt (b := 97) q (by omega))]
    · rw [if_neg (show ¬ nI (b st) < (97 : Int32) from nI_nlt (b := 97) (by omega) (by omega)), if_pos (show (122 : Int32) < nI (b st) from nI_lt (a := 122) (by omega) (by omega))]
