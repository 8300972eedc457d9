/-! PURE: rank, chains -/
theorem lt_sI {a : Int32} {n : Nat} (hn : n < 100000) : a < nI (n + 1) ↔ a ≤ nI n := by
  rw [Int32.lt_iff_toInt_lt, Int32.le_iff_toInt_le, nIo, nIo, iof (by omega) (by omega), iof (by omega) (by omega)]
  omega
theorem isXC {C : Mem} {p : Nat} {a : Int32} (hp : pr p) (e : C 5 1 = nI p) : Pf_isX a C = some (if 0 ≤ a ∧ a < nI (p + 1) then 1 else 0, C) := by
  have h7 := pr_le hp
  unfold Pf_isX
  rw [e]
  by_cases h0 : 0 ≤ a
  · rw [if_neg (Int32.not_lt.mpr h0)]
    by_cases h1 : a ≤ nI p
    · rw [if_neg (Int32.not_lt.mpr h1), if_pos ⟨h0, (lt_sI (by omega)).mpr h1⟩]
    · rw [if_pos (Int32.not_le.mp h1), if_neg (fun z => h1 ((lt_sI (by omega)).mp z.2))]
  · rw [if_pos (Int32.not_le.mp h0), if_neg (fun z => h0 z.1)]
theorem z01_0 : z01 0 = true := by decide
theorem z01_1 : z01 1 = true := by decide
theorem isXD {D : Mem} {p : Nat} {a : Int32} (hp : pr p) (e : D 33 0 = nI p) : Mo_isX a D = some (if 0 ≤ a ∧ a < nI (p + 1) then 1 else 0, D) := by
  have h7 := pr_le hp
  unfold Mo_isX
  rw [e, in_0l (by omega), bd_s]
  by_cases h : 0 ≤ a ∧ a < nI (p + 1)
  · rw [if_pos h, if_pos z01_1]
  · rw [if_neg h, if_pos z01_0]
theorem isStep_ok {C : Mem} {a : Int32} : Pf_isStepCount a C = some (if 0 ≤ a ∧ a < 5 then 1 else 0, C) := by
  unfold Pf_isStepCount
  have l : a < 5 ↔ a ≤ 4 := lt_sI (n := 4) (by omega)
  by_cases h0 : 0 ≤ a
  · rw [if_neg (Int32.not_lt.mpr h0)]
    by_cases h1 : a ≤ 4
    · rw [if_neg (Int32.not_lt.mpr h1), if_pos ⟨h0, l.mpr h1⟩]
    · rw [if_pos (Int32.not_le.mp h1), if_neg (fun z => h1 (l.mp z.2))]
  · rw [if_pos (Int32.not_le.mp h0), if_neg (fun z => h0 z.1)]
theorem op_chains : Op_chains Rel := fun M a b hR => hR.ask (fC := fun C => Pf_chains a b C) (fD := fun D => Mo_chains a b D) (fun p r w T => if 0 ≤ a ∧ a < nI (p + 1) then (if 0 ≤ b ∧ b < 5 then nI (chN p r w T (vlI a) (vlI b)) else -1) else -1)
  (fun C p r w T h => by
    have h7 := pr_le h.1
    show ∃ C', Pf_chains a b C = _ ∧ _
    unfold Pf_chains
    rw [isXC h.1 h.2.2.2.1, bd_s]
    by_cases h0 : 0 ≤ a ∧ a < nI (p + 1)
    · rw [if_pos h0, if_neg (by decide), isStep_ok, bd_s, if_pos h0]
      by_cases h1 : 0 ≤ b ∧ b < 5
      · rw [if_pos h1, if_neg (by decide), if_pos h1]
        obtain ⟨x, hx, rfl⟩ := ran (n := p + 1) (by omega) h0.1 h0.2
        obtain ⟨k, hk, rfl⟩ := ran (n := 5) (by omega) h1.1 h1.2
        rw [vlI_n (by omega), vlI_n (by omega)]
        obtain ⟨C', c1, c2⟩ := chainsAt_ok (x := x) (k := k) okc5 (by omega) (by omega) h
        rw [c1, bd_s]
        exact ⟨C', rfl, fun y hy => c2 y (by omega) (by omega)⟩
      · rw [if_neg h1, if_pos rfl, if_neg h1]; exact ⟨C, rfl, fun _ _ => rfl⟩
    · rw [if_neg h0, if_pos rfl, if_neg h0]; exact ⟨C, rfl, fun _ _ => rfl⟩)
  (fun D p r w T h _ => by
    have h7 := pr_le h.1
    show ∃ D', Mo_chains a b D = _ ∧ _
    unfold Mo_chains
    rw [isXD h.1 h.2.2.2.1, bd_s]
    by_cases h0 : 0 ≤ a ∧ a < nI (p + 1)
    · rw [if_pos h0, if_neg (by decide), in_4, bd_s, if_pos h0]
      by_cases h1 : 0 ≤ b ∧ b < 5
      · rw [if_pos h1, if_neg (by decide), if_pos h1]
        obtain ⟨x, hx, rfl⟩ := ran (n := p + 1) (by omega) h0.1 h0.2
        obtain ⟨k, hk, rfl⟩ := ran (n := 5) (by omega) h1.1 h1.2
        rw [vlI_n (by omega), vlI_n (by omega)]
        obtain ⟨D', c1, c2, c3⟩ := chainD_ok (x := x) (k := k) (by omega) (by omega) h
        rw [c1, bd_s]
        exact ⟨D', rfl, fun y hy => c2 y (by omega) (by omega), c3⟩
      · rw [if_neg h1, if_pos rfl, if_neg h1]; exact ⟨D, rfl, fun _ _ => rfl, fun _ _ _ => rfl⟩
    · rw [if_neg h0, if_pos rfl, if_neg h0]; exact ⟨D, rfl, fun _ _ => rfl, fun _ _ _ => rfl⟩)
theorem op_rank : Op_rank Rel := fun M a hR => hR.ask (fC := fun C => Pf_rank a C) (fD := fun D => Mo_rank a D) (fun p r w T => if 0 ≤ a ∧ a < nI (p + 1) then nI (1 * w - chN p r w T (vlI a) 1) else -1)
  (fun C p r w T h => by
    have h7 := pr_le h.1
    show ∃ C', Pf_rank a C = _ ∧ _
    unfold Pf_rank
    rw [isXC h.1 h.2.2.2.1, bd_s]
    by_cases h0 : 0 ≤ a ∧ a < nI (p + 1)
    · rw [if_pos h0, if_neg (by decide), if_pos h0]
      obtain ⟨x, hx, rfl⟩ := ran (n := p + 1) (by omega) h0.1 h0.2
      rw [vlI_n (by omega)]
      obtain ⟨C', c1, c2⟩ := rankAt_ok (x := x) okc5 (by omega) h
      rw [c1, bd_s]
      exact ⟨C', rfl, fun y hy => c2 y (by omega) (by omega)⟩
    · rw [if_neg h0, if_pos rfl, if_neg h0]; exact ⟨C, rfl, fun _ _ => rfl⟩)
  (fun D p r w T h _ => by
    have h7 := pr_le h.1
    have hr := h.2.1
    have hw := h.2.2.1
    show ∃ D', Mo_rank a D = _ ∧ _
    unfold Mo_rank
    rw [isXD h.1 h.2.2.2.1, bd_s]
    by_cases h0 : 0 ≤ a ∧ a < nI (p + 1)
    · rw [if_pos h0, if_neg (by decide), if_pos h0]
      obtain ⟨x, hx, rfl⟩ := ran (n := p + 1) (by omega) h0.1 h0.2
      rw [vlI_n (by omega)]
      obtain ⟨D1, x1, x2, x3, x4, x5⟩ := startL_ok (H := 1) (W := 1) h (by omega) (by omega)
      have hP1 : DP D1 p r w T := h.mv (x2 33 (by omega) (by omega)) (x3 17 (by omega) (by omega))
      obtain ⟨D2, y1, y2, y3⟩ := addsAt_ok (bi := 0) (bj := 0) (x := x) (by omega) hP1 x5 (by omega) (by omega) (fun _ _ => rfl)
      rw [← KC_0 (p := p) (r := r) (w := w) (T := T) (x := x), KC_1] at y3
      obtain ⟨D3, z1, z2, z3⟩ := rank_dm (m := 1 * w) h.1 (by omega) y3
      rw [show Mo_startsLarge 1 1 D = some D1 from x1, bv_s, show Mo_addsAt 0 0 (nI x) D1 = some D2 from y1, bv_s, y2 32 (by omega), x4, z1, bd_s]
      exact ⟨D3, rfl, fun y hy => by rw [z2 y (by omega), y2 y (by omega), x2 y (by omega) (by omega)], fun k a b => by rw [z2 32 (by omega), y2 32 (by omega), x3 k a b]⟩
    · rw [if_neg h0, if_pos rfl, if_neg h0]; exact ⟨D, rfl, fun _ _ => rfl, fun _ _ _ => rfl⟩)
