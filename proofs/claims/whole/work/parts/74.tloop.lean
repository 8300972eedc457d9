/-! PURE: text, all lines -/
def HC (C C' : Mem) : Prop := (∀ y, y ≠ 1 → y ≠ 3 → y ≠ 4 → C' y = C y) ∧ C' 1 2 = C 1 2
theorem GC.H {C C' : Mem} (h : GC C C') : HC C C' := ⟨h.1, h.2.1⟩
theorem HC.tr {A B C : Mem} (h : HC A B) (g : HC B C) : HC A C := ⟨fun y a1 a2 a3 => by rw [g.1 y a1 a2 a3, h.1 y a1 a2 a3], by rw [g.2, h.2]⟩
theorem b78_e {n : Nat} {v2 : Int32} {M : Mem} : Tr_readText_b78 (Tr_readText_L41 (n + 1)) v2 M = Tr_readText_b104 M := by
  rw [Tr_readText_b78, Tr_readText_b79, if_pos rfl, Tr_readText_b94, Int32.add_zero, wr_id rfl, Tr_readText_L41]
  rw [if_pos (show (0 : Int32) = 0 from rfl)]
  split <;> rfl
theorem L55_f {n : Nat} {v : Int32} {D : Mem} (h : ¬ D 32 12 = 0) : Mo_text_L55 (n + 1) v D = Mo_text_b79 v D := by
  rw [Mo_text_L55, if_neg h]
theorem ST.w7 {k : Nat} {b : Nat → Nat} {C D : Mem} {q : Nat} {v : Int32} (h : ST k b C D q) : ST k b (wr C 1 7 v) D q := by
  obtain ⟨sC, sD, s3, s8, hqk, s10, s12, hDR, hpT⟩ := h
  exact ⟨sC.wr (by omega), sD, by rw [wr_o (by omega)]; exact s3, s8, hqk, by rw [wr_o (by omega)]; exact s10, s12, hDR.mv (wr_ne (by omega)) (wr_ne (by omega)) rfl (wr_o (by omega)) rfl, hpT.mv (wr_o (by omega)) rfl⟩
theorem tloop {k : Nat} {b : Nat → Nat} : ∀ d p, k - p < d → ∀ nC nD t ln C D, d + 1 ≤ nC → d + 1 ≤ nD → t ≤ p → ST k b C D p → C 1 7 = nI ln → ∃ C' D' v, Tr_readText_L41 nC 1 (nI t) C = Tr_readText_b104 C' ∧ (bv (Mo_reads D) fun M1 => Mo_text_L55 nD (nI ln) M1) = Mo_text_b79 v D' ∧ HC C C' ∧ GD D D' ∧ (FA C' D' ∨ (ST k b C' D' k ∧ D' 32 9 = nI k ∧ C' 1 7 = v)) := by
  intro d
  induction d with
  | zero => exact fun p h => by omega
  | succ d ih =>
    intro p hd nC nD t ln C D hC hD ht hS h7
    obtain ⟨nC, rfl⟩ : ∃ z, nC = z + 2 := ⟨nC - 2, by omega⟩
    obtain ⟨nD, rfl⟩ : ∃ z, nD = z + 2 := ⟨nD - 2, by omega⟩
    obtain ⟨sC, sD, s3, s8, hpk, s10, s12, hDR, hpT⟩ := id hS
    have hkk := sC.1
    rw [Tr_readText_L41, sC.2.1, if_neg (nI_nlt (by omega) (by omega)), if_neg (show ¬ (1 : Int32) = 0 by decide)]
    rcases tok hS with ⟨kd, st, q, v, C1, D1, htk, e1, e2, hS1, hT, gc, gd, c8⟩ | ⟨C1, D1, e1, e2, hF, gc, gd⟩
    · have bn := htk.bnd hpk
      obtain ⟨c4, d10, c5, d9, _⟩ := id hT
      have t12 : D1 32 12 = 0 := hS1.2.2.2.2.2.2.1
      rw [e1, bd_s, if_neg (show ¬ (1 : Int32) = 0 by decide), c4, e2, bv_s, Mo_text_L55, if_pos t12, d10]
      by_cases z : kd = 0
      · obtain ⟨y1, y2⟩ := bn.2.2.2.2.2.1 z
        rw [if_pos (show nI kd = 0 by rw [z]; rfl), if_pos (show nI kd = 0 by rw [z]; rfl), b78_e]
        exact ⟨C1, D1, nI ln, rfl, rfl, gc.H, gd, .inr ⟨by rw [y2] at hS1; exact hS1, by rw [d9, y1], by rw [gc.2.2]; exact h7⟩⟩
      · have z' : ¬ nI kd = 0 := nI_ne0 (by omega) (by omega)
        rw [if_neg z', if_neg z']
        have hsq := bn.2.2.2.2.1 z
        rcases line hS1 hT bn.2.2.2.1 bn.2.1 with ⟨C2, D2, f1, f2, hF, gc2, gd2⟩ | ⟨C2, D2, q2, f1, f2, hS2, hq2, gc2, gd2⟩
        · rw [f1, bd_s, if_pos rfl, b78_e, f2, bv_s, L55_f hF.n0.1]
          exact ⟨C2, D2, _, rfl, rfl, (gc.tr gc2).H, gd.tr gd2, .inl hF⟩
        · have hq2k := hS2.2.2.2.2.1
          have g7 : C2 1 7 = nI ln := by rw [gc2.2.2, gc.2.2]; exact h7
          rw [f1, bd_s, if_neg (show ¬ (1 : Int32) = 0 by decide), Tr_readText_b79, if_neg (show ¬ (1 : Int32) = 0 by decide), Tr_readText_b94, f2, g7, nI_1, nI_1]
          obtain ⟨C3, D3, w3, a1, a2, a3, a4, a5⟩ := ih q2 (by omega) (nC + 1) (nD + 1) (t + 1) (ln + 1) (wr C2 1 7 (nI (ln + 1))) D2 (by omega) (by omega) (by omega) hS2.w7 wr_s
          exact ⟨C3, D3, w3, a1, a2, ((gc.tr gc2).H.tr ⟨fun y y1 _ _ => wr_ne y1, wr_o (by omega)⟩).tr a3, (gd.tr gd2).tr a4, a5⟩
    · rw [e1, bd_s, if_pos rfl, b78_e, e2, bv_s, L55_f hF.n0.1]
      exact ⟨C1, D1, _, rfl, rfl, gc.H, gd, .inl hF⟩
