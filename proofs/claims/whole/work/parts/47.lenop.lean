/-! PURE: length -/
theorem ln_of {p r w x j : Nat} {T : Nat → Nat → Nat → Nat} (hp : pr p) (hr : r ≤ 4) (hw : w ≤ 4) (hj : j < 4) : ∃ s : Nat, s ≤ 20 ∧ coI p r w T = nI s ∧ lnI p r w T x j = Int32.ofInt ((chN p r w T x (j + 1) : Int) - (chN p r w T x j : Int) - (s : Int)) := by
  obtain ⟨s, s1, s2⟩ := sum_b (T := T) (k := 5) hp hr hw (by omega)
  refine ⟨s, s1, s2, ?_⟩
  unfold lnI coI chI
  rw [s2, Int32.ofInt_sub, Int32.ofInt_sub, ← nIo, ← nIo, ← nIo]
  cases j with
  | zero => rw [ch_0 hp hr hw]; rfl
  | succ j => rfl
theorem ln_dn {p r w x j : Nat} {T : Nat → Nat → Nat → Nat} (hp : pr p) (hr : r ≤ 4) (hw : w ≤ 4) (hj : j + 1 < 4) : lnI p r w T x (j + 1) ≤ lnI p r w T x j := by
  obtain ⟨s, s1, s2, s3⟩ := ln_of (T := T) (x := x) (j := j) hp hr hw (by omega)
  obtain ⟨s', t1, t2, t3⟩ := ln_of (T := T) (x := x) (j := j + 1) hp hr hw hj
  have e : s' = s := (nI_eq (by omega) (by omega)).mp (t2.symm.trans s2)
  subst e
  have b0 := (AK_pow (T := T) (x := x) (k := j) hp hr hw (by omega)).2
  have b1 := (AK_pow (T := T) (x := x) (k := j + 1) hp hr hw (by omega)).2
  have b2 := (AK_pow (T := T) (x := x) (k := j + 2) hp hr hw (by omega)).2
  have d := ch_dn (T := T) (x := x) (k := j) hp hr hw (by omega)
  rw [show j + 1 + 1 = j + 2 from rfl] at t3
  rw [s3, t3, le_of (by omega) (by omega) (by omega) (by omega)]
  omega
/-- the count of those still above a -/
noncomputable def cF (L : Nat → Int32) (a : Int32) : Nat → Nat
  | 0 => 0
  | k + 1 => if L k ≤ a then cF L a k else cF L a k + 1
theorem cF_k {L : Nat → Int32} {a : Int32} (hL : ∀ j, j + 1 < 4 → L (j + 1) ≤ L j) : ∀ k, k ≤ 4 → cF L a k = k ∨ (0 < k ∧ L (k - 1) ≤ a) := by
  intro k
  induction k with
  | zero => intro _; exact .inl rfl
  | succ k ih =>
    intro hk
    rw [cF]
    by_cases q : L k ≤ a
    · exact .inr ⟨by omega, q⟩
    · rw [if_neg q]
      rcases ih (by omega) with g | g
      · exact .inl (by rw [g])
      · exfalso
        obtain ⟨m, rfl⟩ : ∃ m, k = m + 1 := ⟨k - 1, by omega⟩
        exact q (Int32.le_trans (hL m (by omega)) g.2)
theorem cF_n {L : Nat → Int32} {a : Int32} (hL : ∀ j, j + 1 < 4 → L (j + 1) ≤ L j) {k : Nat} (hk : k < 4) (q : ¬ L k ≤ a) : cF L a k = k := by
  rcases cF_k (a := a) hL k (by omega) with g | g
  · exact g
  · exfalso
    obtain ⟨m, rfl⟩ : ∃ m, k = m + 1 := ⟨k - 1, by omega⟩
    exact q (Int32.le_trans (hL m (by omega)) g.2)
theorem cF_le {L : Nat → Int32} {a : Int32} (k : Nat) : cF L a k ≤ k := by
  induction k with
  | zero => exact Nat.le_refl _
  | succ k ih => rw [cF]; split <;> omega
theorem lenC_ok {c p r w x : Nat} {T : Nat → Nat → Nat → Nat} {a : Int32} {C : Mem} (hc : okc c) (n1 : 27 ≠ c) (n2 : 27 ≠ c + 1) (hx : x ≤ p) (hP : PC C c p r w T) : ∃ C', Un_lengthAt c (nI x) a C = some (if cF (lnI p r w T x) a 4 = 0 then -4 else nI (cF (lnI p r w T x) a 4), C') ∧ ∀ y, y ≠ 23 → y ≠ 24 → y ≠ 27 → C' y = C y := by
  have hL : ∀ j, j + 1 < 4 → lnI p r w T x (j + 1) ≤ lnI p r w T x j := fun j hj => ln_dn hP.1 hP.2.1 hP.2.2.1 hj
  obtain ⟨C1, x1, x2, x3⟩ := countC_ok (e := 27) hc rfl rfl n1 n2 (by omega) (by omega) hP
  have hP1 : PC C1 c p r w T := hP.mv (x2 c hc.2.1 hc.2.2.1 (Ne.symm n1)) (x2 (c + 1) hc.2.2.2.1 hc.2.2.2.2 (Ne.symm n2))
  unfold Un_lengthAt
  rw [if_pos hc.1, x1, bd_s]
  obtain ⟨C', g1, g2⟩ := lp (fun m k M' => Un_lengthAt_L20 m c (nI x) a (sumN 5 (mCI p r w T)) (nI (cF (lnI p r w T x) a k)) (pvI (fun i => chI p r w T x (i + 1)) k) (nI (k + 1)) M') (fun M' => some (if cF (lnI p r w T x) a 4 = 0 then -4 else nI (cF (lnI p r w T x) a 4), M')) 4 (fun k M' => ∀ y, y ≠ 23 → y ≠ 24 → M' y = C1 y) (fun m M' _ => by
      show Un_lengthAt_L20 (m + 1) c (nI x) a (sumN 5 (mCI p r w T)) (nI (cF (lnI p r w T x) a 4)) (pvI (fun i => chI p r w T x (i + 1)) 4) (nI 5) M' = _
      have b := cF_le (L := lnI p r w T x) (a := a) 4
      rw [Un_lengthAt_L20, if_pos (show (4 : Int32) < nI 5 by decide)]
      by_cases q : cF (lnI p r w T x) a 4 = 0
      · rw [q, if_pos (show nI 0 = 0 from rfl), if_pos rfl]
      · rw [if_neg (nI_ne0 (by omega) (by omega)), if_neg q]) (fun m k M' hk h' => by
      show ∃ M1, _ ∧ Un_lengthAt_L20 (m + 1) c (nI x) a (sumN 5 (mCI p r w T)) (nI (cF (lnI p r w T x) a k)) (pvI (fun i => chI p r w T x (i + 1)) k) (nI (k + 1)) M' = Un_lengthAt_L20 m c (nI x) a (sumN 5 (mCI p r w T)) (nI (cF (lnI p r w T x) a (k + 1))) (pvI (fun i => chI p r w T x (i + 1)) (k + 1)) (nI (k + 1 + 1)) M1
      obtain ⟨C2, y1, y2⟩ := chainsAt_ok (x := x) (k := k + 1) hc hx (by omega) (hP1.mv (h' c hc.2.1 hc.2.2.1) (h' (c + 1) hc.2.2.2.1 hc.2.2.2.2))
      refine ⟨C2, fun y a1 a2 => by rw [y2 y a1 a2, h' y a1 a2], ?_⟩
      rw [Un_lengthAt_L20, if_neg (show ¬ (4 : Int32) < nI (k + 1) from Int32.not_lt.mpr (nI_le (b := 4) (by omega) (by omega))), y1, bd_s, Un_lengthAt_b52, Un_lengthAt_b52, nI_1, cF]
      by_cases q : lnI p r w T x k ≤ a
      · rw [if_pos q, if_pos (show nI (chN p r w T x (k + 1)) - pvI (fun i => chI p r w T x (i + 1)) k - sumN 5 (mCI p r w T) ≤ a from q)]
        rfl
      · rw [if_neg q, if_neg (show ¬ nI (chN p r w T x (k + 1)) - pvI (fun i => chI p r w T x (i + 1)) k - sumN 5 (mCI p r w T) ≤ a from q), cF_n hL hk q]
        rfl) 4 FU 0 C1 (by omega) (FU_lt (by omega)) (fun _ _ _ => rfl)
  exact ⟨C', g2, fun y a1 a2 a3 => by rw [g1 y a1 a2, x2 y a1 a2 a3]⟩
theorem lenD_ok {L : Nat → Int32} {a : Int32} {D : Mem} (hD : ∀ j, j < 4 → D 41 (j + 1) = L j) : Mo_lengthAt a D = some (nI (cF L a 4), D) := by
  unfold Mo_lengthAt
  obtain ⟨D', g1, g2⟩ := lp (fun m k M' => Mo_lengthAt_L4 m a (nI (cF L a k)) (nI (k + 1)) M') (fun M' => some (nI (cF L a 4), M')) 4 (fun k M' => M' = D) (fun m M' _ => by
      show Mo_lengthAt_L4 (m + 1) a (nI (cF L a 4)) (nI 5) M' = _
      rw [Mo_lengthAt_L4, if_pos (show (4 : Int32) < nI 5 by decide)]) (fun m k M' hk h' => by
      show ∃ M1, _ ∧ Mo_lengthAt_L4 (m + 1) a (nI (cF L a k)) (nI (k + 1)) M' = Mo_lengthAt_L4 m a (nI (cF L a (k + 1))) (nI (k + 1 + 1)) M1
      subst h'
      refine ⟨M', rfl, ?_⟩
      rw [Mo_lengthAt_L4, if_neg (show ¬ (4 : Int32) < nI (k + 1) from Int32.not_lt.mpr (nI_le (b := 4) (by omega) (by omega))), if_pos (ibn (by omega) (by omega)), ixn (by omega), hD k hk, Mo_lengthAt_b25, Mo_lengthAt_b25, flag_ok (.inl rfl), flag_ok (.inr rfl), bd_s, bd_s, nI_1 (k + 1), cF]
      by_cases q : L k ≤ a
      · rw [if_pos q, if_pos q, show nI (cF L a k) + 0 = nI (cF L a k) by grind]
      · rw [if_neg q, if_neg q, nI_1]) 4 FU 0 D (by omega) (FU_lt (by omega)) rfl
  subst g1
  exact g2
theorem op_length : Op_length Rel := fun M a b hR => hR.ask (fC := fun C => Pf_length a b C) (fD := fun D => Mo_length a b D) (fun p r w T => if 0 ≤ a ∧ a < nI (p + 1) then (if 0 ≤ b then (if cF (lnI p r w T (vlI a)) b 4 = 0 then -4 else nI (cF (lnI p r w T (vlI a)) b 4)) else -1) else -1)
  (fun C p r w T h => by
    have h7 := pr_le h.1
    show ∃ C', Pf_length a b C = _ ∧ _
    unfold Pf_length
    rw [isXC h.1 h.2.2.2.1, bd_s]
    by_cases h0 : 0 ≤ a ∧ a < nI (p + 1)
    · rw [if_pos h0, if_neg (by decide), if_pos h0]
      by_cases h1 : 0 ≤ b
      · rw [if_neg (Int32.not_lt.mpr h1), if_pos h1]
        obtain ⟨x, hx, rfl⟩ := ran (n := p + 1) (by omega) h0.1 h0.2
        rw [vlI_n (by omega)]
        obtain ⟨C', c1, c2⟩ := lenC_ok (x := x) (a := b) okc5 (by omega) (by omega) (by omega) h
        rw [c1, bd_s]
        exact ⟨C', rfl, fun y hy => c2 y (by omega) (by omega) (by omega)⟩
      · rw [if_pos (Int32.not_le.mp h1), if_neg h1]; exact ⟨C, rfl, fun _ _ => rfl⟩
    · rw [if_neg h0, if_pos rfl, if_neg h0]; exact ⟨C, rfl, fun _ _ => rfl⟩)
  (fun D p r w T h hf => by
    have h7 := pr_le h.1
    show ∃ D', Mo_length a b D = _ ∧ _
    unfold Mo_length
    rw [isXD h.1 h.2.2.2.1, bd_s]
    by_cases h0 : 0 ≤ a ∧ a < nI (p + 1)
    · rw [if_pos h0, if_neg (by decide), if_pos h0]
      by_cases h1 : 0 ≤ b
      · rw [if_pos h1, if_pos h1]
        obtain ⟨x, hx, rfl⟩ := ran (n := p + 1) (by omega) h0.1 h0.2
        rw [vlI_n (by omega)]
        obtain ⟨D1, x1, x2, x3, x4, x5⟩ := findAll_ok h hf
        have q1 : DP D1 p r w T := h.mv (x2 33 (by omega) (by omega) (by omega) (by omega)) (x3 17 (by omega) (by omega))
        obtain ⟨D2, y1, y2, y3, y4⟩ := findLong_ok (x := x) (by omega) q1 x4
        rw [x1, bv_s, y1, bv_s, lenD_ok y4, bd_s]
        have b4 := cF_le (L := lnI p r w T x) (a := b) 4
        have fr : (∀ x, x < 32 ∨ (32 < x ∧ x < 38) ∨ 46 ≤ x → D2 x = D x) ∧ ∀ k, k ≠ 15 → k ≠ 16 → D2 32 k = D 32 k := ⟨fun y hy => by rw [y2 y (by omega) (by omega) (by omega), x2 y (by omega) (by omega) (by omega) (by omega)], fun k a b => by rw [y3 k a b, x3 k a b]⟩
        by_cases q : cF (lnI p r w T x) b 4 = 0
        · rw [if_pos q, q, if_pos (show nI 0 = 0 from rfl)]; exact ⟨D2, rfl, fr⟩
        · rw [if_neg q, if_neg (nI_ne0 (by omega) (by omega))]; exact ⟨D2, rfl, fr⟩
      · rw [if_neg h1, if_neg h1]; exact ⟨D, rfl, fun _ _ => rfl, fun _ _ _ => rfl⟩
    · rw [if_neg h0, if_pos rfl, if_neg h0]; exact ⟨D, rfl, fun _ _ => rfl, fun _ _ _ => rfl⟩)
