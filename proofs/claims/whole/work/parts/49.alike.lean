/-! PURE: the reference's form; alike -/
def FD (D : Mem) (e p r w : Nat) (T : Nat → Nat → Nat → Nat) : Prop := D e 0 = nI p ∧ D e 1 = nI r ∧ D e 2 = nI w ∧ (∀ k, k < 5 → D e (3 + k) = mCI p r w T k ∧ D e (8 + k) = mCI p w r (tr T) k) ∧ (∀ x j, x < p + 1 → j < 4 → D e (13 + 4 * x + j) = lnI p r w T x j) ∧ ∀ q, 13 + 4 * (p + 1) ≤ q → q < 45 → D e q = 0
theorem DP.rw0 {D : Mem} {p r w : Nat} {T : Nat → Nat → Nat → Nat} (h : DP D p r w T) (h0 : D 32 17 = 0) : D 33 1 = nI r ∧ D 33 2 = nI w := by
  obtain ⟨_, _, _, _, h | h⟩ := h
  · exact ⟨h.2.1, h.2.2.1⟩
  · exact absurd (h0.symm.trans h.1) (by decide)
theorem form_in {e p x : Nat} {D : Mem} {k87 : Nat → Int32 → Mem → Option Mem} (hl : ln e = 45) (he : e = 44 ∨ e = 45) (hp7 : p ≤ 7) (hx : x ≤ p) : ∃ D', Mo_findForm_L104 k87 FU e (nI x) 1 D = k87 e (nI (x + 1)) D' ∧ (∀ y, y ≠ e → D' y = D y) ∧ (∀ j, j < 4 → D' e (13 + 4 * x + j) = D 41 (j + 1)) ∧ ∀ q, q < 13 + 4 * x ∨ 13 + 4 * (x + 1) ≤ q → D' e q = D e q := by
  obtain ⟨D', g1, g2⟩ := lp (fun m k M' => Mo_findForm_L104 k87 m e (nI x) (nI (k + 1)) M') (fun M' => k87 e (nI (x + 1)) M') 4 (fun k M' => (∀ y, y ≠ e → M' y = D y) ∧ (∀ j, j < k → M' e (13 + 4 * x + j) = D 41 (j + 1)) ∧ ∀ q, q < 13 + 4 * x ∨ 13 + 4 * x + k ≤ q → M' e q = D e q) (fun m M' _ => by
      show Mo_findForm_L104 k87 (m + 1) e (nI x) (nI 5) M' = _
      rw [Mo_findForm_L104, if_pos (show (4 : Int32) < nI 5 by decide), nI_1]) (fun m k M' hk h' => by
      show ∃ M1, _ ∧ Mo_findForm_L104 k87 (m + 1) e (nI x) (nI (k + 1)) M' = Mo_findForm_L104 k87 m e (nI x) (nI (k + 1 + 1)) M1
      have ei : 13 + 4 * nI x + nI (k + 1) - 1 = nI (13 + 4 * x + k) := by
        rw [show (13 : Int32) = nI 13 from rfl, show (4 : Int32) = nI 4 from rfl, nIm, nIa, nIa]
        exact nIs (a := 13 + 4 * x + (k + 1)) (b := 1) (by omega)
      rw [Mo_findForm_L104, if_neg (show ¬ (4 : Int32) < nI (k + 1) from Int32.not_lt.mpr (nI_le (b := 4) (by omega) (by omega))), if_pos (ibn (by omega) (by omega)), ei, hl, if_pos (ibn (by omega) (by omega)), ixn (by omega), ixn (by omega), nI_1, h'.1 41 (by omega)]
      refine ⟨wr M' e (13 + 4 * x + k) (D 41 (k + 1)), ⟨fun y hy => by rw [wr_ne hy, h'.1 y hy], fun j hj => ?_, fun q hq => by rw [wr_o (by omega), h'.2.2 q (by omega)]⟩, rfl⟩
      by_cases q : j = k
      · subst q; rw [wr_s]
      · rw [wr_o (by omega)]; exact h'.2.1 j (by omega)) 4 FU 0 D (by omega) (FU_lt (by omega)) ⟨fun _ _ => rfl, fun j hj => by omega, fun _ _ => rfl⟩
  exact ⟨D', g2, g1.1, g1.2.1, fun q hq => g1.2.2 q (by omega)⟩
theorem form_ok {e p r w : Nat} {T : Nat → Nat → Nat → Nat} {D : Mem} (hi : isI e = true) (hl : ln e = 45) (he : e = 44 ∨ e = 45) (hP : DP D p r w T) (h0 : D 32 17 = 0) : ∃ D', Mo_findForm e D = some D' ∧ (∀ y, y ≠ 32 → y < 38 ∨ 41 < y → y ≠ e → D' y = D y) ∧ (∀ y, y ≠ 15 → y ≠ 16 → D' 32 y = D 32 y) ∧ FD D' e p r w T := by
  have h7 := pr_le hP.1
  obtain ⟨D1, x1, x2, x3, x4, x5⟩ := findAll_ok hP h0
  have r12 := hP.rw0 h0
  unfold Mo_findForm
  rw [if_pos hi, x1, bv_s]
  obtain ⟨D2, a1, a2⟩ := lp (fun m k M' => Mo_findForm_L6 m e (nI k) M') (fun M' => Mo_findForm_L51 FU e 0 (wr (wr (wr M' e 0 (nI p)) e 1 (nI r)) e 2 (nI w))) 45 (fun k M' => (∀ y, y ≠ e → M' y = D1 y) ∧ ∀ q, q < k → M' e q = 0) (fun m M' h' => by
      show Mo_findForm_L6 (m + 1) e (nI 45) M' = _
      have e33 : M' 33 = D 33 := by rw [h'.1 33 (by omega), x2 33 (by omega) (by omega) (by omega) (by omega)]
      rw [Mo_findForm_L6, if_pos (show (45 : Int32) ≤ nI 45 by decide), hl, if_pos (by decide), if_pos (by decide), if_pos (by decide), wr_ne (show 33 ≠ e by omega), wr_ne (show 33 ≠ e by omega), wr_ne (show 33 ≠ e by omega), e33, hP.2.2.2.1, r12.1, r12.2]
      rfl) (fun m k M' hk h' => by
      show ∃ M1, _ ∧ Mo_findForm_L6 (m + 1) e (nI k) M' = Mo_findForm_L6 m e (nI (k + 1)) M1
      rw [Mo_findForm_L6, if_neg (show ¬ (45 : Int32) ≤ nI k from nI_ge (b := 45) hk (by omega)), hl, if_pos (ibn (by omega) (by omega)), ixn (by omega), nI_1]
      refine ⟨_, ⟨fun y hy => by rw [wr_ne hy]; exact h'.1 y hy, fun q hq => ?_⟩, rfl⟩
      by_cases z : q = k
      · subst z; rw [wr_s]
      · rw [wr_o z]; exact h'.2 q (by omega)) 45 FU 0 D1 (by omega) (FU_lt (by omega)) ⟨fun _ _ => rfl, fun q hq => by omega⟩
  obtain ⟨D3, b1, b2⟩ := lp (fun m k M' => Mo_findForm_L51 m e (nI k) M') (fun M' => Mo_findForm_L87 FU e 0 M') 5 (fun k M' => (∀ y, y ≠ e → M' y = D1 y) ∧ M' e 0 = nI p ∧ M' e 1 = nI r ∧ M' e 2 = nI w ∧ (∀ j, j < k → M' e (3 + j) = mCI p r w T j ∧ M' e (8 + j) = mCI p w r (tr T) j) ∧ ∀ q, 13 ≤ q → q < 45 → M' e q = 0) (fun m M' _ => by
      show Mo_findForm_L51 (m + 1) e (nI 5) M' = _
      rw [Mo_findForm_L51, if_pos (show (4 : Int32) < nI 5 by decide)]) (fun m k M' hk h' => by
      show ∃ M1, _ ∧ Mo_findForm_L51 (m + 1) e (nI k) M' = Mo_findForm_L51 m e (nI (k + 1)) M1
      obtain ⟨q1, q2, q3, q4, q5, q6⟩ := h'
      have e3 : 3 + nI k = nI (3 + k) := nIa 3 k
      have e8 : 8 + nI k = nI (8 + k) := nIa 8 k
      rw [Mo_findForm_L51, if_neg (show ¬ (4 : Int32) < nI k from Int32.not_lt.mpr (nI_le (b := 4) (by omega) (by omega))), if_pos (ibn (by omega) (by omega)), e3, e8, hl, if_pos (ibn (by omega) (by omega)), if_pos (ibn (by omega) (by omega)), if_pos (ibn (by omega) (by omega)), ixn (by omega), ixn (by omega), ixn (by omega), wr_ne (show 40 ≠ e by omega), q1 39 (by omega), q1 40 (by omega), x4 k hk, x5 k hk, nI_1]
      refine ⟨_, ⟨fun y hy => by rw [wr_ne hy, wr_ne hy, q1 y hy], by rw [wr_o (by omega), wr_o (by omega)]; exact q2, by rw [wr_o (by omega), wr_o (by omega)]; exact q3, by rw [wr_o (by omega), wr_o (by omega)]; exact q4, fun j hj => ?_, fun q a b => by rw [wr_o (by omega), wr_o (by omega)]; exact q6 q (by omega) b⟩, rfl⟩
      by_cases q : j = k
      · subst q
        exact ⟨by rw [wr_o (by omega), wr_s], by rw [wr_s]⟩
      · exact ⟨by rw [wr_o (by omega), wr_o (by omega)]; exact (q5 j (by omega)).1, by rw [wr_o (by omega), wr_o (by omega)]; exact (q5 j (by omega)).2⟩) 5 FU 0 (wr (wr (wr D2 e 0 (nI p)) e 1 (nI r)) e 2 (nI w)) (by omega) (FU_lt (by omega)) ⟨fun y hy => by rw [wr_ne hy, wr_ne hy, wr_ne hy, a1.1 y hy], by rw [wr_o (by omega), wr_o (by omega), wr_s], by rw [wr_o (by omega), wr_s], by rw [wr_s], fun j hj => by omega, fun q a b => by rw [wr_o (by omega), wr_o (by omega), wr_o (by omega)]; exact a1.2 q b⟩
  obtain ⟨q1, q2, q3, q4, q5, q6⟩ := b1
  have hP1 : DP D1 p r w T := hP.mv (x2 33 (by omega) (by omega) (by omega) (by omega)) (x3 17 (by omega) (by omega))
  have hP3 : DP D3 p r w T := hP1.mv (q1 33 (by omega)) (by rw [q1 32 (by omega)])
  obtain ⟨D5, k1, k2⟩ := lp (fun m x M' => Mo_findForm_L87 m e (nI x) M') (fun M' => some M') (p + 1) (fun x M' => (∀ y, y ≠ 32 → y ≠ 38 → y ≠ 41 → y ≠ e → M' y = D3 y) ∧ (∀ y, y ≠ 15 → y ≠ 16 → M' 32 y = D3 32 y) ∧ (∀ x' j, x' < x → j < 4 → M' e (13 + 4 * x' + j) = lnI p r w T x' j) ∧ ∀ q, q < 13 ∨ 13 + 4 * x ≤ q → M' e q = D3 e q) (fun m M' h' => by
      show Mo_findForm_L87 (m + 1) e (nI (p + 1)) M' = _
      rw [Mo_findForm_L87, h'.1 33 (by omega) (by omega) (by omega) (by omega), hP3.2.2.2.1, if_pos ((lt_sI (by omega)).mpr (Int32.le_refl _))]) (fun m x M' hx h' => by
      show ∃ M1, _ ∧ Mo_findForm_L87 (m + 1) e (nI x) M' = Mo_findForm_L87 m e (nI (x + 1)) M1
      have qP : DP M' p r w T := hP3.mv (h'.1 33 (by omega) (by omega) (by omega) (by omega)) (h'.2.1 17 (by omega) (by omega))
      obtain ⟨D6, v1, v2, v3, v4⟩ := findLong_ok (x := x) (by omega) qP (fun k hk => by rw [h'.1 39 (by omega) (by omega) (by omega) (by omega), q1 39 (by omega)]; exact x4 k hk)
      obtain ⟨D7, u1, u2, u3, u4⟩ := form_in (e := e) (p := p) (x := x) (D := D6) (k87 := Mo_findForm_L87 m) hl he (by omega) (by omega)
      rw [Mo_findForm_L87, h'.1 33 (by omega) (by omega) (by omega) (by omega), hP3.2.2.2.1, if_neg (Int32.not_lt.mpr (nI_le (by omega) (by omega))), v1, bv_s, u1]
      refine ⟨D7, ⟨fun y b1 b2 b3 b4 => by rw [u2 y b4, v2 y b1 b2 b3, h'.1 y b1 b2 b3 b4], fun y b1 b2 => by rw [u2 32 (by omega), v3 y b1 b2, h'.2.1 y b1 b2], fun x' j a b => ?_, fun q hq => by rw [u4 q (by omega), v2 e (by omega) (by omega) (by omega), h'.2.2.2 q (by omega)]⟩, rfl⟩
      by_cases q : x' = x
      · subst q; rw [u3 j b, v4 j b]
      · rw [u4 _ (by omega), v2 e (by omega) (by omega) (by omega)]; exact h'.2.2.1 x' j (by omega) b) (p + 1) FU 0 D3 (by omega) (FU_lt (by omega)) ⟨fun _ _ _ _ _ => rfl, fun _ _ _ => rfl, fun x' j a b => by omega, fun _ _ => rfl⟩
  have hg0 : Mo_findForm_L6 FU e 0 D1 = Mo_findForm_L51 FU e 0 (wr (wr (wr D2 e 0 (nI p)) e 1 (nI r)) e 2 (nI w)) := a2
  have hg1 : Mo_findForm_L51 FU e 0 (wr (wr (wr D2 e 0 (nI p)) e 1 (nI r)) e 2 (nI w)) = Mo_findForm_L87 FU e 0 D3 := b2
  have hg2 : Mo_findForm_L87 FU e 0 D3 = some D5 := k2
  refine ⟨D5, by rw [hg0, hg1, hg2], fun y b1 b2 b3 => by rw [k1.1 y b1 (by omega) (by omega) b3, q1 y b3, x2 y b1 (by omega) (by omega) (by omega)], fun y b1 b2 => by rw [k1.2.1 y b1 b2, q1 32 (by omega), x3 y b1 b2], ?_⟩
  exact ⟨by rw [k1.2.2.2 0 (by omega)]; exact q2, by rw [k1.2.2.2 1 (by omega)]; exact q3, by rw [k1.2.2.2 2 (by omega)]; exact q4, fun k hk => ⟨by rw [k1.2.2.2 _ (by omega)]; exact (q5 k hk).1, by rw [k1.2.2.2 _ (by omega)]; exact (q5 k hk).2⟩, k1.2.2.1, fun q a b => by rw [k1.2.2.2 q (by omega)]; exact q6 q (by omega) b⟩
/-- the same form, said once -/
def Alk (p r w : Nat) (T : Nat → Nat → Nat → Nat) (p' r' w' : Nat) (T' : Nat → Nat → Nat → Nat) : Prop := p = p' ∧ r = r' ∧ w = w' ∧ (∀ k, k < 5 → mCI p r w T k = mCI p' r' w' T' k ∧ mCI p w r (tr T) k = mCI p' w' r' (tr T') k) ∧ ∀ x j, x < p + 1 → j < 4 → chI p r w T x (j + 1) = chI p' r' w' T' x (j + 1)
theorem q_form {q p : Nat} (hq : q < 45) : q = 0 ∨ q = 1 ∨ q = 2 ∨ (∃ k, k < 5 ∧ (q = 3 + 2 * k ∨ q = 4 + 2 * k)) ∨ (∃ x j, x < p + 1 ∧ j < 4 ∧ q = 13 + 4 * x + j) ∨ 13 + 4 * (p + 1) ≤ q := by
  by_cases h1 : q < 3
  · omega
  by_cases h2 : q < 13
  · exact .inr (.inr (.inr (.inl ⟨(q - 3) / 2, by omega, by omega⟩)))
  by_cases h3 : 13 + 4 * (p + 1) ≤ q
  · exact .inr (.inr (.inr (.inr (.inr h3))))
  · exact .inr (.inr (.inr (.inr (.inl ⟨(q - 13) / 4, (q - 13) % 4, by omega, by omega, by omega⟩))))
theorem alkC {C : Mem} {e e' p r w p' r' w' : Nat} {T T' : Nat → Nat → Nat → Nat} (hp : pr p) (hp' : pr p') (hr : r ≤ 4) (hr' : r' ≤ 4) (hw : w ≤ 4) (hw' : w' ≤ 4) (h : FC C e p r w T) (h' : FC C e' p' r' w' T') : (∀ q, q < 45 → C e q = C e' q) ↔ Alk p r w T p' r' w' T' := by
  have h7 := pr_le hp
  have h7' := pr_le hp'
  obtain ⟨a1, a2, a3, a4, a5, a6⟩ := h
  obtain ⟨b1, b2, b3, b4, b5, b6⟩ := h'
  constructor
  · intro g
    have e1 : p = p' := (nI_eq (by omega) (by omega)).mp (by rw [← a1, ← b1]; exact g 0 (by omega))
    have e2 : r = r' := (nI_eq (by omega) (by omega)).mp (by rw [← a2, ← b2]; exact g 1 (by omega))
    have e3 : w = w' := (nI_eq (by omega) (by omega)).mp (by rw [← a3, ← b3]; exact g 2 (by omega))
    refine ⟨e1, e2, e3, fun k hk => ⟨?_, ?_⟩, fun x j hx hj => ?_⟩
    · rw [← (a4 k hk).1, ← (b4 k hk).1]; exact g _ (by omega)
    · rw [← (a4 k hk).2, ← (b4 k hk).2]; exact g _ (by omega)
    · rw [← a5 x j hx hj, ← b5 x j (by omega) hj]; exact g _ (by omega)
  · rintro ⟨rfl, rfl, rfl, c4, c5⟩ q hq
    rcases q_form (p := p) hq with rfl | rfl | rfl | ⟨k, hk, rfl | rfl⟩ | ⟨x, j, hx, hj, rfl⟩ | g
    · rw [a1, b1]
    · rw [a2, b2]
    · rw [a3, b3]
    · rw [(a4 k hk).1, (b4 k hk).1]; exact (c4 k hk).1
    · rw [(a4 k hk).2, (b4 k hk).2]; exact (c4 k hk).2
    · rw [a5 x j hx hj, b5 x j hx hj]; exact c5 x j hx hj
    · rw [a6 q g hq, b6 q g hq]
theorem ln_ch {p r w p' r' w' x : Nat} {T T' : Nat → Nat → Nat → Nat} (hc : coI p r w T = coI p' r' w' T') : (∀ j, j < 4 → lnI p r w T x j = lnI p' r' w' T' x j) ↔ ∀ j, j < 4 → chI p r w T x (j + 1) = chI p' r' w' T' x (j + 1) := by
  constructor
  · intro g j
    induction j with
    | zero =>
      intro _
      have := g 0 (by omega)
      unfold lnI at this
      rw [hc] at this
      replace this : chI p r w T x 1 - 0 - coI p' r' w' T' = chI p' r' w' T' x 1 - 0 - coI p' r' w' T' := this
      show chI p r w T x 1 = chI p' r' w' T' x 1
      grind
    | succ j ih =>
      intro hj
      have i1 := ih (by omega)
      have := g (j + 1) hj
      unfold lnI at this
      rw [hc] at this
      replace this : chI p r w T x (j + 1 + 1) - chI p r w T x (j + 1) - coI p' r' w' T' = chI p' r' w' T' x (j + 1 + 1) - chI p' r' w' T' x (j + 1) - coI p' r' w' T' := this
      rw [i1] at this
      grind
  · intro g j hj
    unfold lnI
    rw [hc, g j hj]
    cases j with
    | zero => rfl
    | succ j =>
      show chI p' r' w' T' x (j + 1 + 1) - chI p r w T x (j + 1) - _ = chI p' r' w' T' x (j + 1 + 1) - chI p' r' w' T' x (j + 1) - _
      rw [g j (by omega)]
theorem q_formD {q p : Nat} (hq : q < 45) : q = 0 ∨ q = 1 ∨ q = 2 ∨ (∃ k, k < 5 ∧ (q = 3 + k ∨ q = 8 + k)) ∨ (∃ x j, x < p + 1 ∧ j < 4 ∧ q = 13 + 4 * x + j) ∨ 13 + 4 * (p + 1) ≤ q := by
  by_cases h1 : q < 3
  · omega
  by_cases h2 : q < 13
  · exact .inr (.inr (.inr (.inl ⟨(q - 3) % 5, by omega, by omega⟩)))
  by_cases h3 : 13 + 4 * (p + 1) ≤ q
  · exact .inr (.inr (.inr (.inr (.inr h3))))
  · exact .inr (.inr (.inr (.inr (.inl ⟨(q - 13) / 4, (q - 13) % 4, by omega, by omega, by omega⟩))))
theorem alkD {C : Mem} {e e' p r w p' r' w' : Nat} {T T' : Nat → Nat → Nat → Nat} (hp : pr p) (hp' : pr p') (hr : r ≤ 4) (hr' : r' ≤ 4) (hw : w ≤ 4) (hw' : w' ≤ 4) (h : FD C e p r w T) (h' : FD C e' p' r' w' T') : (∀ q, q < 45 → C e q = C e' q) ↔ Alk p r w T p' r' w' T' := by
  have h7 := pr_le hp
  have h7' := pr_le hp'
  obtain ⟨a1, a2, a3, a4, a5, a6⟩ := h
  obtain ⟨b1, b2, b3, b4, b5, b6⟩ := h'
  constructor
  · intro g
    have e1 : p = p' := (nI_eq (by omega) (by omega)).mp (by rw [← a1, ← b1]; exact g 0 (by omega))
    have e2 : r = r' := (nI_eq (by omega) (by omega)).mp (by rw [← a2, ← b2]; exact g 1 (by omega))
    have e3 : w = w' := (nI_eq (by omega) (by omega)).mp (by rw [← a3, ← b3]; exact g 2 (by omega))
    have e4 : ∀ k, k < 5 → mCI p r w T k = mCI p' r' w' T' k ∧ mCI p w r (tr T) k = mCI p' w' r' (tr T') k := fun k hk => ⟨by rw [← (a4 k hk).1, ← (b4 k hk).1]; exact g _ (by omega), by rw [← (a4 k hk).2, ← (b4 k hk).2]; exact g _ (by omega)⟩
    refine ⟨e1, e2, e3, e4, fun x j hx hj => ?_⟩
    exact (ln_ch (x := x) (sumN_cg (fun k hk => (e4 k hk).1))).mp (fun j hj => by rw [← a5 x j hx hj, ← b5 x j (by omega) hj]; exact g _ (by omega)) j hj
  · rintro ⟨rfl, rfl, rfl, c4, c5⟩ q hq
    rcases q_formD (p := p) hq with rfl | rfl | rfl | ⟨k, hk, rfl | rfl⟩ | ⟨x, j, hx, hj, rfl⟩ | g
    · rw [a1, b1]
    · rw [a2, b2]
    · rw [a3, b3]
    · rw [(a4 k hk).1, (b4 k hk).1]; exact (c4 k hk).1
    · rw [(a4 k hk).2, (b4 k hk).2]; exact (c4 k hk).2
    · rw [a5 x j hx hj, b5 x j hx hj]
      exact (ln_ch (x := x) (sumN_cg (fun k hk => (c4 k hk).1))).mpr (fun j hj => c5 x j hx hj) j hj
    · rw [a6 q g hq, b6 q g hq]
