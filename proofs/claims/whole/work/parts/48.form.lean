/-! PURE: forms -/
theorem putIn_ok {e q : Nat} {v : Int32} {C : Mem} (he : isI e = true) (hl : ln e = 45) (hq : q < 45) : Un_putIn e (nI q) v C = some (nI (q + 1), wr C e q v) := by
  unfold Un_putIn
  rw [if_pos he, if_neg (Int32.not_lt.mpr (nI_pos' (by omega))), hl, if_neg (nI_ge hq (by omega)), if_pos (ibn (by omega) (by omega)), ixn (by omega), nI_1]
def FC (C : Mem) (e p r w : Nat) (T : Nat → Nat → Nat → Nat) : Prop := C e 0 = nI p ∧ C e 1 = nI r ∧ C e 2 = nI w ∧ (∀ k, k < 5 → C e (3 + 2 * k) = mCI p r w T k ∧ C e (4 + 2 * k) = mCI p w r (tr T) k) ∧ (∀ x j, x < p + 1 → j < 4 → C e (13 + 4 * x + j) = chI p r w T x (j + 1)) ∧ ∀ q, 13 + 4 * (p + 1) ≤ q → q < 45 → C e q = 0
theorem tell_in {c e p r w x : Nat} {T : Nat → Nat → Nat → Nat} {C : Mem} {k103 : Nat → Nat → Int32 → Int32 → Mem → Option Mem} (hc : okc c) (he : isI e = true) (hl : ln e = 45) (n1 : e ≠ c) (n2 : e ≠ c + 1) (n3 : e ≠ 23) (n4 : e ≠ 24) (hx : x ≤ p) (hP : PC C c p r w T) : ∃ C', Un_tellForm_L115 k103 FU c e (nI (13 + 4 * x)) (nI x) 1 C = k103 c e (nI (13 + 4 * (x + 1))) (nI (x + 1)) C' ∧ (∀ y, y ≠ 23 → y ≠ 24 → y ≠ e → C' y = C y) ∧ (∀ j, j < 4 → C' e (13 + 4 * x + j) = chI p r w T x (j + 1)) ∧ ∀ q, q < 13 + 4 * x ∨ 13 + 4 * (x + 1) ≤ q → C' e q = C e q := by
  have h7 := pr_le hP.1
  obtain ⟨C', g1, g2⟩ := lp (fun m k M' => Un_tellForm_L115 k103 m c e (nI (13 + 4 * x + k)) (nI x) (nI (k + 1)) M') (fun M' => k103 c e (nI (13 + 4 * (x + 1))) (nI (x + 1)) M') 4 (fun k M' => (∀ y, y ≠ 23 → y ≠ 24 → y ≠ e → M' y = C y) ∧ (∀ j, j < k → M' e (13 + 4 * x + j) = chI p r w T x (j + 1)) ∧ ∀ q, q < 13 + 4 * x ∨ 13 + 4 * x + k ≤ q → M' e q = C e q) (fun m M' _ => by
      show Un_tellForm_L115 k103 (m + 1) c e (nI (13 + 4 * x + 4)) (nI x) (nI 5) M' = _
      rw [Un_tellForm_L115, if_pos (show (4 : Int32) < nI 5 by decide), nI_1, show 13 + 4 * x + 4 = 13 + 4 * (x + 1) by omega]) (fun m k M' hk h' => by
      show ∃ M1, _ ∧ Un_tellForm_L115 k103 (m + 1) c e (nI (13 + 4 * x + k)) (nI x) (nI (k + 1)) M' = Un_tellForm_L115 k103 m c e (nI (13 + 4 * x + (k + 1))) (nI x) (nI (k + 1 + 1)) M1
      obtain ⟨C2, y1, y2⟩ := chainsAt_ok (x := x) (k := k + 1) hc hx (by omega) (hP.mv (h'.1 c hc.2.1 hc.2.2.1 (Ne.symm n1)) (h'.1 (c + 1) hc.2.2.2.1 hc.2.2.2.2 (Ne.symm n2)))
      rw [Un_tellForm_L115, if_neg (show ¬ (4 : Int32) < nI (k + 1) from Int32.not_lt.mpr (nI_le (b := 4) (by omega) (by omega))), y1, bd_s, putIn_ok he hl (by omega), bd_s, nI_1]
      refine ⟨wr C2 e (13 + 4 * x + k) (nI (chN p r w T x (k + 1))), ⟨fun y a1 a2 a3 => by rw [wr_ne a3, y2 y a1 a2, h'.1 y a1 a2 a3], fun j hj => ?_, fun q hq => by rw [wr_o (by omega), y2 e n3 n4, h'.2.2 q (by omega)]⟩, rfl⟩
      by_cases q : j = k
      · subst q; rw [wr_s]; rfl
      · rw [wr_o (by omega), y2 e n3 n4]; exact h'.2.1 j (by omega)) 4 FU 0 C (by omega) (FU_lt (by omega)) ⟨fun _ _ _ _ => rfl, fun j hj => by omega, fun _ _ => rfl⟩
  exact ⟨C', g2, g1.1, g1.2.1, fun q hq => g1.2.2 q (by omega)⟩
theorem tell_ok {c e p r w : Nat} {T : Nat → Nat → Nat → Nat} {C : Mem} (hc : okc c) (he : isI e = true) (hl : ln e = 45) (hs : c + 1 < 22) (h30 : e = 30 ∨ e = 31) (hP : PC C c p r w T) : ∃ C', Un_tellForm c e C = some C' ∧ (∀ y, y < 22 ∨ 29 ≤ y → y ≠ e → C' y = C y) ∧ FC C' e p r w T := by
  have h7 := pr_le hP.1
  have hP2 := hP
  obtain ⟨hp, hr, hw, e1, e2, e3, hv⟩ := hP2
  unfold Un_tellForm
  rw [if_pos hc.1, if_pos he, fill_ok (n := 45) he hl (by omega), bv_s]
  have f1 : ∀ y, y ≠ e → (wra C e (fun k => if k < 45 then 0 else C e k)) y = C y := fun y hy => by funext q; rw [wra_g, if_neg hy]
  have f0 : ∀ q, q < 45 → (wra C e (fun k => if k < 45 then 0 else C e k)) e q = 0 := fun q hq => by rw [wra_g, if_pos rfl, if_pos hq]
  generalize wra C e (fun k => if k < 45 then 0 else C e k) = C0 at f1 f0
  have hP0 : PC C0 c p r w T := hP.mv (f1 c (by omega)) (f1 (c + 1) (by omega))
  obtain ⟨C1, x1, x2, x3⟩ := countC_ok (e := 27) hc rfl rfl (by omega) (by omega) (by omega) (by omega) hP0
  have hP1 : PC C1 c p r w T := hP0.mv (x2 c hc.2.1 hc.2.2.1 (by omega)) (x2 (c + 1) (by omega) (by omega) (by omega))
  obtain ⟨C2, y1, y2, y3⟩ := flipOf_ok hc (by omega) (by omega) (by omega) hP1
  obtain ⟨C3, z1, z2, z3⟩ := countC_ok (e := 28) okc25 rfl rfl (by omega) (by omega) (by omega) (by omega) y3
  have fc : ∀ y, y < 22 ∨ 29 ≤ y → y ≠ e → C3 y = C y := fun y hy hn => by rw [z2 y (by omega) (by omega) (by omega), y2 y (by omega) (by omega), x2 y (by omega) (by omega) (by omega), f1 y hn]
  have fe : ∀ q, q < 45 → C3 e q = 0 := fun q hq => by rw [z2 e (by omega) (by omega) (by omega), y2 e (by omega) (by omega), x2 e (by omega) (by omega) (by omega), f0 q hq]
  have m27 : ∀ k, k < 5 → C3 27 k = mCI p r w T k := fun k hk => by rw [z2 27 (by omega) (by omega) (by omega), y2 27 (by omega) (by omega), x3 k hk]
  rw [x1, bd_s, y1, bv_s, z1, bd_s, fc c (by omega) (by omega), e1, show (0 : Int32) = nI 0 from rfl, putIn_ok he hl (by omega), bd_s, wr_ne (show c ≠ e by omega), fc c (by omega) (by omega), e2, putIn_ok he hl (by omega), bd_s, wr_ne (show c ≠ e by omega), wr_ne (show c ≠ e by omega), fc c (by omega) (by omega), e3, putIn_ok he hl (by omega), bd_s]
  obtain ⟨C4, g1, g2⟩ := lp (fun m k M' => Un_tellForm_L62 m c e (nI (3 + 2 * k)) (nI k) M') (fun M' => Un_tellForm_L103 FU c e (nI 13) 0 M') 5 (fun k M' => (∀ y, y ≠ e → M' y = C3 y) ∧ M' e 0 = nI p ∧ M' e 1 = nI r ∧ M' e 2 = nI w ∧ (∀ j, j < k → M' e (3 + 2 * j) = mCI p r w T j ∧ M' e (4 + 2 * j) = mCI p w r (tr T) j) ∧ ∀ q, 3 + 2 * k ≤ q → q < 45 → M' e q = 0) (fun m M' _ => by
      show Un_tellForm_L62 (m + 1) c e (nI 13) (nI 5) M' = _
      rw [Un_tellForm_L62, if_pos (show (5 : Int32) ≤ nI 5 by decide)]) (fun m k M' hk h' => by
      show ∃ M1, _ ∧ Un_tellForm_L62 (m + 1) c e (nI (3 + 2 * k)) (nI k) M' = Un_tellForm_L62 m c e (nI (3 + 2 * (k + 1))) (nI (k + 1)) M1
      obtain ⟨q1, q2, q3, q4, q5, q6⟩ := h'
      rw [Un_tellForm_L62, if_neg (show ¬ (5 : Int32) ≤ nI k from nI_ge (b := 5) hk (by omega)), if_pos (ibn (by omega) (by omega)), ixn (by omega), q1 27 (by omega), m27 k hk, putIn_ok he hl (by omega), bd_s, if_pos (ibn (by omega) (by omega)), wr_ne (show 28 ≠ e by omega), q1 28 (by omega), z3 k hk, putIn_ok he hl (by omega), bd_s, nI_1]
      refine ⟨wr (wr M' e (3 + 2 * k) (mCI p r w T k)) e (3 + 2 * k + 1) (mCI p w r (tr T) k), ⟨fun y hy => by rw [wr_ne hy, wr_ne hy, q1 y hy], by rw [wr_o (by omega), wr_o (by omega)]; exact q2, by rw [wr_o (by omega), wr_o (by omega)]; exact q3, by rw [wr_o (by omega), wr_o (by omega)]; exact q4, fun j hj => ?_, fun q a b => by rw [wr_o (by omega), wr_o (by omega)]; exact q6 q (by omega) b⟩, rfl⟩
      by_cases q : j = k
      · subst q
        exact ⟨by rw [wr_o (by omega), wr_s], by rw [show 4 + 2 * j = 3 + 2 * j + 1 by omega, wr_s]⟩
      · exact ⟨by rw [wr_o (by omega), wr_o (by omega)]; exact (q5 j (by omega)).1, by rw [wr_o (by omega), wr_o (by omega)]; exact (q5 j (by omega)).2⟩) 5 FU 0 (wr (wr (wr C3 e 0 (nI p)) e (0 + 1) (nI r)) e (0 + 1 + 1) (nI w)) (by omega) (FU_lt (by omega)) ⟨fun y hy => by rw [wr_ne hy, wr_ne hy, wr_ne hy], by rw [wr_o (by omega), wr_o (by omega), wr_s], by rw [wr_o (by omega), wr_s], by rw [wr_s], fun j hj => by omega, fun q a b => by rw [wr_o (by omega), wr_o (by omega), wr_o (by omega)]; exact fe q b⟩
  obtain ⟨q1, q2, q3, q4, q5, q6⟩ := g1
  have hP4 : PC C4 c p r w T := hP.mv (by rw [q1 c (by omega), fc c (by omega) (by omega)]) (by rw [q1 (c + 1) (by omega), fc (c + 1) (by omega) (by omega)])
  obtain ⟨C5, k1, k2⟩ := lp (fun m x M' => Un_tellForm_L103 m c e (nI (13 + 4 * x)) (nI x) M') (fun M' => some M') (p + 1) (fun x M' => (∀ y, y ≠ 23 → y ≠ 24 → y ≠ e → M' y = C4 y) ∧ (∀ x' j, x' < x → j < 4 → M' e (13 + 4 * x' + j) = chI p r w T x' (j + 1)) ∧ ∀ q, q < 13 ∨ 13 + 4 * x ≤ q → M' e q = C4 e q) (fun m M' h' => by
      show Un_tellForm_L103 (m + 1) c e (nI (13 + 4 * (p + 1))) (nI (p + 1)) M' = _
      rw [Un_tellForm_L103, h'.1 c (by omega) (by omega) (by omega), hP4.2.2.2.1, if_pos ((lt_sI (by omega)).mpr (Int32.le_refl _))]) (fun m x M' hx h' => by
      show ∃ M1, _ ∧ Un_tellForm_L103 (m + 1) c e (nI (13 + 4 * x)) (nI x) M' = Un_tellForm_L103 m c e (nI (13 + 4 * (x + 1))) (nI (x + 1)) M1
      obtain ⟨C6, u1, u2, u3, u4⟩ := tell_in (k103 := Un_tellForm_L103 m) hc he hl (by omega) (by omega) (by omega) (by omega) (show x ≤ p by omega) (hP4.mv (h'.1 c (by omega) (by omega) (by omega)) (h'.1 (c + 1) (by omega) (by omega) (by omega)))
      rw [Un_tellForm_L103, h'.1 c (by omega) (by omega) (by omega), hP4.2.2.2.1, if_neg (Int32.not_lt.mpr (nI_le (by omega) (by omega))), u1]
      refine ⟨C6, ⟨fun y a1 a2 a3 => by rw [u2 y a1 a2 a3, h'.1 y a1 a2 a3], fun x' j a b => ?_, fun q hq => by rw [u4 q (by omega), h'.2.2 q (by omega)]⟩, rfl⟩
      by_cases q : x' = x
      · subst q; exact u3 j b
      · rw [u4 _ (by omega)]; exact h'.2.1 x' j (by omega) b) (p + 1) FU 0 C4 (by omega) (FU_lt (by omega)) ⟨fun _ _ _ _ => rfl, fun x' j a b => by omega, fun _ _ => rfl⟩
  have hg1 : Un_tellForm_L62 FU c e (nI (0 + 1 + 1 + 1)) (nI 0) (wr (wr (wr C3 e 0 (nI p)) e (0 + 1) (nI r)) e (0 + 1 + 1) (nI w)) = Un_tellForm_L103 FU c e (nI 13) 0 C4 := g2
  have hg2 : Un_tellForm_L103 FU c e (nI 13) 0 C4 = some C5 := k2
  refine ⟨C5, ?_, fun y hy hn => by rw [k1.1 y (by omega) (by omega) hn, q1 y hn, fc y hy hn], ?_⟩
  · rw [hg1, hg2]
  · exact ⟨by rw [k1.2.2 0 (by omega)]; exact q2, by rw [k1.2.2 1 (by omega)]; exact q3, by rw [k1.2.2 2 (by omega)]; exact q4, fun k hk => ⟨by rw [k1.2.2 _ (by omega)]; exact (q5 k hk).1, by rw [k1.2.2 _ (by omega)]; exact (q5 k hk).2⟩, k1.2.1, fun q a b => by rw [k1.2.2 q (by omega)]; exact q6 q (by omega) b⟩
