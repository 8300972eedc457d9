/-! PURE: go -/
theorem goC_ok {C : Mem} {p r w n k : Nat} {T : Nat → Nat → Nat → Nat} (hk4 : k ≤ 4) (hP : PC C 5 p r w T) (hd : ∀ q, q < w → dgt n q < p) (h29 : ∀ q, q < w → C 29 q = nI (dgt n q)) : ∃ v C', Un_columnCanGo 5 (nI k) C = some (v, C') ∧ (∀ y, y ≠ 23 → y ≠ 24 → C' y = C y) ∧ (k = 0 → v = 1) ∧ (1 ≤ k → (v = 1 ∧ Go p r w T n k) ∨ (v = 0 ∧ ¬ Go p r w T n k)) := by
  have hp := hP.1
  have h7 := pr_le hp
  have b1 := mul4 hk4 hP.2.2.1
  obtain ⟨C1, x1, x2, x3⟩ := chainC_ok (x := p) (k := k) okc5 (Nat.le_refl _) hk4 hP
  obtain ⟨C2, y1, y2, y3, _⟩ := use_dm hp x3.mc
  have hP2 : PC C2 5 p r w T := hP.mv (by rw [y2 5 (by omega), x2 5 (by omega) (by omega)]) (by rw [y2 6 (by omega), x2 6 (by omega) (by omega)])
  obtain ⟨C3, z1, z2, z3⟩ := chainC_ok (x := p) (k := k) okc5 (Nat.le_refl _) hk4 hP2
  have f3 : ∀ y, y ≠ 23 → y ≠ 24 → C3 y = C y := fun y a b => by rw [z2 y a b, y2 y b, x2 y a b]
  unfold Un_columnCanGo
  rw [if_pos isP5, hP.2.2.2.1, x1, bv_s, y1, bd_s, hP2.2.2.2.1, z1, bv_s]
  by_cases e : k = 0
  · subst e
    rw [if_pos (show nI 0 ≤ 0 by decide), Un_columnCanGo_b44]
    obtain ⟨C4, u1, u2, u3, _⟩ := use_dm hp z3.mc
    rw [u1, bd_s, if_pos rfl]
    exact ⟨1, C4, rfl, fun y a b => by rw [u2 y b, f3 y a b], fun _ => rfl, fun z => by omega⟩
  · rw [if_neg (show ¬ nI k ≤ 0 from nI_ge (a := 0) (b := k) (by omega) (by omega))]
    have hP3 : PC C3 5 p r w T := hP2.mv (z2 5 (by omega) (by omega)) (z2 6 (by omega) (by omega))
    obtain ⟨C4, t1, t2, t3⟩ := addC_ok (n := n) (by omega) hk4 hP3 hd (fun q hq => by rw [f3 29 (by omega) (by omega)]; exact h29 q hq) z3
    obtain ⟨C5, u1, u2, u3, _⟩ := use_dm hp t3.mc
    rw [t1, bv_s, Un_columnCanGo_b44, u1, bd_s]
    have fr : ∀ y, y ≠ 23 → y ≠ 24 → C5 y = C y := fun y a b => by rw [u2 y b, t2 y a b, f3 y a b]
    by_cases g : Go p r w T n k
    · have ge : dmn p (k * r) (k * w + 1) (XF p r w T n (k * w) r (ff r w (KC p r w T p k))) = dmn p (k * r) (k * w) (ff r w (KC p r w T p k)) + 1 := g
      rw [if_pos (by rw [ge]; congr 1; omega)]
      exact ⟨1, C5, rfl, fr, fun z => absurd z e, fun _ => .inl ⟨rfl, g⟩⟩
    · rw [if_neg (fun z => g (by
        have := (nI_eq (by omega) (by omega)).mp z
        show dmn p (k * r) (k * w + 1) (XF p r w T n (k * w) r (ff r w (KC p r w T p k))) = dmn p (k * r) (k * w) (ff r w (KC p r w T p k)) + 1
        omega))]
      exact ⟨0, C5, rfl, fr, fun z => absurd z e, fun _ => .inr ⟨rfl, g⟩⟩
noncomputable def goI (p r w : Nat) (T : Nat → Nat → Nat → Nat) (n k : Nat) : Int32 := if k = 0 then 1 else @ite Int32 (Go p r w T n k) (Classical.propDecidable _) 1 0
theorem op_go : Op_go Rel := fun M a b hR => hR.ask (fC := fun C => Pf_go a b C) (fD := fun D => Mo_go a b D) (fun p r w T => if 0 ≤ b ∧ b < 5 then (@ite Int32 (0 ≤ a ∧ gcol p w (vlI a)) (Classical.propDecidable _) (goI p r w T (vlI a) (vlI b)) (-1)) else -1)
  (fun C p r w T h => by
    have h7 := pr_le h.1
    show ∃ C', Pf_go a b C = _ ∧ _
    unfold Pf_go
    rw [isStep_ok, bd_s]
    by_cases h1 : 0 ≤ b ∧ b < 5
    · rw [if_pos h1, if_neg (show ¬ (1 : Int32) = 0 by decide), if_pos h1]
      obtain ⟨k, hk, rfl⟩ := ran (n := 5) (by omega) h1.1 h1.2
      rw [vlI_n (by omega)]
      unfold Un_takeColumn
      rw [if_pos isP5]
      by_cases ha : 0 ≤ a
      · obtain ⟨n, hn, rfl⟩ := nI_of (Int32.not_lt.mpr ha)
        rw [if_pos ha, vlI_b hn]
        obtain ⟨v, C1, v1, v2, v3⟩ := takeC_L (n := n) h.1 h.2.2.1 hn h.2.2.2.1 h.2.2.2.2.2.1 FU 0 C (show w - 0 < FU from FU_lt (by have := h.2.2.1; omega)) (by omega) (fun _ _ => rfl) (fun i hi => by omega) (fun i hi => by omega)
        rw [show n / 10 ^ 0 = n by simp] at v1
        rw [show Un_takeColumn_L11 FU 5 (nI n) 0 C = some (v, C1) from v1, bd_s]
        rcases v3 with ⟨rfl, g1, g2⟩ | ⟨rfl, g1⟩
        · rw [if_neg (show ¬ (1 : Int32) = 0 by decide), if_pos ⟨ha, g1⟩]
          obtain ⟨u, C2, u1, u2, u3, u4⟩ := goC_ok (n := n) (k := k) (by omega) (h.mv (v2 5 (by omega)) (v2 6 (by omega))) g1.1 g2
          rw [u1, bd_s]
          have fr : ∀ x, x < 22 ∨ 32 ≤ x → C2 x = C x := fun y hy => by rw [u2 y (by omega) (by omega), v2 y (by omega)]
          unfold goI
          by_cases e : k = 0
          · rw [if_pos e, u3 e, if_neg (show ¬ (1 : Int32) = 0 by decide)]; exact ⟨C2, rfl, fr⟩
          · rw [if_neg e]
            rcases u4 (by omega) with ⟨rfl, g⟩ | ⟨rfl, g⟩
            · rw [if_neg (show ¬ (1 : Int32) = 0 by decide), if_pos g]; exact ⟨C2, rfl, fr⟩
            · rw [if_pos rfl, if_neg g]; exact ⟨C2, rfl, fr⟩
        · rw [if_pos rfl, if_neg (fun z => g1 z.2)]
          exact ⟨C1, rfl, fun y hy => v2 y (by omega)⟩
      · rw [if_neg ha, bd_s, if_pos rfl, if_neg (fun z => ha z.1)]
        exact ⟨C, rfl, fun _ _ => rfl⟩
    · rw [if_neg h1, if_pos rfl, if_neg h1]; exact ⟨C, rfl, fun _ _ => rfl⟩)
  (fun D p r w T h h0 => by
    have h7 := pr_le h.1
    have hw := h.2.2.1
    have r12 := h.rw0 h0
    show ∃ D', Mo_go a b D = _ ∧ _
    unfold Mo_go Mo_isColumn Mo_isColumn_b11
    by_cases ha : 0 ≤ a
    · obtain ⟨n, hn, rfl⟩ := nI_of (Int32.not_lt.mpr ha)
      rw [if_neg (Int32.not_lt.mpr ha), vlI_b hn]
      obtain ⟨v, D1, v1, v2, v3⟩ := colD_L (n := n) h.1 hw hn h.2.2.2.1 r12.2 FU 0 1 D (show w - 0 < FU from FU_lt (by omega)) (by omega) (fun _ _ => rfl) (fun i hi => by omega) (.inl ⟨rfl, fun i hi => by omega⟩)
      rw [show n / 10 ^ 0 = n by simp] at v1
      rw [show Mo_isColumn_L15 FU (nI n) 1 0 D = some (v, D1) from v1, bd_s]
      have fr1 : (∀ x, x < 32 ∨ (32 < x ∧ x < 38) ∨ 46 ≤ x → D1 x = D x) ∧ ∀ k, k ≠ 15 → k ≠ 16 → D1 32 k = D 32 k := ⟨fun y hy => v2 y (by omega), fun k a b => by rw [v2 32 (by omega)]⟩
      rcases v3 with ⟨rfl, g1, g2⟩ | ⟨rfl, g1⟩
      · rw [if_neg (show ¬ (1 : Int32) = 0 by decide), in_4, bd_s]
        by_cases h1 : 0 ≤ b ∧ b < 5
        · rw [if_pos h1, if_neg (show ¬ (1 : Int32) = 0 by decide), if_pos h1, if_pos (show 0 ≤ nI n ∧ gcol p w n from ⟨ha, g1⟩)]
          obtain ⟨k, hk, rfl⟩ := ran (n := 5) (by omega) h1.1 h1.2
          rw [vlI_n (by omega)]
          unfold goI
          by_cases e : k = 0
          · subst e
            rw [if_pos (show nI 0 = 0 from rfl), if_pos rfl]; exact ⟨D1, rfl, fr1⟩
          · rw [if_neg (nI_ne0 (by omega) (by omega)), if_neg e]
            obtain ⟨D2, u, D3, u1, u2, u3, u4, u5⟩ := goD_ok (n := n) (k := k) (by omega) (by omega) (h.mv (v2 33 (by omega)) (by rw [v2 32 (by omega)])) (by rw [v2 32 (by omega)]; exact h0) g1.1 g2
            rw [u1, bv_s, u2]
            have fr : (∀ x, x < 32 ∨ (32 < x ∧ x < 38) ∨ 46 ≤ x → D3 x = D x) ∧ ∀ k, k ≠ 15 → k ≠ 16 → D3 32 k = D 32 k := ⟨fun y hy => by rw [u3 y (by omega) (by omega), v2 y (by omega)], fun k a b => by rw [u4 k a b, v2 32 (by omega)]⟩
            rcases u5 with ⟨rfl, g⟩ | ⟨rfl, g⟩
            · rw [if_pos g]; exact ⟨D3, rfl, fr⟩
            · rw [if_neg g]; exact ⟨D3, rfl, fr⟩
        · rw [if_neg h1, if_pos rfl, if_neg h1]; exact ⟨D1, rfl, fr1⟩
      · rw [if_pos rfl]
        refine ⟨D1, ?_, fr1⟩
        by_cases h1 : 0 ≤ b ∧ b < 5
        · rw [if_pos h1, if_neg (fun z => g1 z.2)]
        · rw [if_neg h1]
    · rw [if_pos (Int32.not_le.mp ha)]
      obtain ⟨D1, v1, v2⟩ := colD_neg hw r12.2 FU 0 a D (show w - 0 < FU from FU_lt (by omega)) (by omega) (fun _ _ => rfl)
      rw [show Mo_isColumn_L15 FU a 0 0 D = some (0, D1) from v1, bd_s, if_pos rfl]
      refine ⟨D1, ?_, fun y hy => v2 y (by omega), fun k a b => by rw [v2 32 (by omega)]⟩
      by_cases h1 : 0 ≤ b ∧ b < 5
      · rw [if_pos h1, if_neg (fun z => ha z.1)]
      · rw [if_neg h1])
