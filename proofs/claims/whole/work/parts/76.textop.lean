/-! PURE: text -/
theorem op_text : Op_text Rel := by
  intro M hR
  obtain ⟨⟨k, hk, t1, t2, tb⟩, hP, hI, hS, hF⟩ := id hR
  have hb : ∀ j, j < k → ix (M 2 j) < 128 ∧ M 2 j = nI (ix (M 2 j)) ∧ M 37 j = nI (ix (M 2 j)) := fun j hj => by
    obtain ⟨x, x1, x2, x3⟩ := tb j hj
    rw [x3, x2, ixn (by omega)]
    exact ⟨x1, rfl, rfl⟩
  have sC : SCt k (fun j => ix (M 2 j)) M := ⟨hk, t1, fun j hj => ⟨(hb j hj).1, (hb j hj).2.1⟩⟩
  have sD : SDt k (fun j => ix (M 2 j)) M := ⟨hk, t2, fun j hj => ⟨(hb j hj).1, (hb j hj).2.2⟩⟩
  obtain ⟨_, M1, _, g1, _, ⟨_, _, _, _, _, f1, _, _⟩⟩ := text_main sC sD
  obtain ⟨v, M1', M2, g1', g2, ⟨k1, k2, k3, k4, k5, k6, k7, k8⟩⟩ := text_main sC (sD.mv (D' := M1) (by rw [f1 32 (by omega)]) (f1 37 (by omega)))
  have eM : M1' = M1 := by
    have := g1'.symm.trans g1
    simp at this
    exact this.2
  subst eM
  refine ⟨v, M1', M2, g1', g2, ?_⟩
  have m32 : ∀ j, 14 ≤ j → M2 32 j = M 32 j := fun j hj => by rw [k5 j hj, k6 32 (by omega)]
  have mM : ∀ y, (y < 32 ∨ y = 34 ∨ 37 ≤ y) → (y = 2 ∨ (7 ≤ y ∧ y ≠ 12)) → M2 y = M y := fun y a1 a2 => by rw [k7 y a1, k6 y a2]
  refine ⟨⟨0, by omega, by rw [k7 1 (by omega), k1]; rfl, by rw [k2]; rfl, fun j hj => by omega⟩, ?_, ?_, hS.mv (fun c c1 c2 => mM c (by omega) (by omega)) (mM 46 (by omega) (by omega)) (mM 47 (by omega) (by omega)) (mM 48 (by omega) (by omega)), by rw [k7 0 (by omega)]; exact k3, by rw [k7 0 (by omega), k4 9 (by omega), m32 28 (by omega)]; exact hF.2.1, by rw [m32 17 (by omega)]; exact hF.2.2⟩
  · rcases k8 with ⟨a1, a2, a3, a4, a5⟩ | ⟨a1, _⟩
    · exact hP.mv (by rw [k7 5 (by omega), a1]) (by rw [k7 6 (by omega), a2]) (by rw [a4, k6 33 (by omega)])
    · exact PRel.mv a1 (k7 5 (by omega)) (k7 6 (by omega)) rfl
  · rcases k8 with ⟨a1, a2, a3, a4, a5⟩ | ⟨_, a1, a2, a3, a4⟩
    · exact hI.mv (by rw [k7 12 (by omega), a3]) (by rw [a5, k6 35 (by omega)]) (mM 8 (by omega) (by omega)) (mM 9 (by omega) (by omega)) (mM 10 (by omega) (by omega)) (mM 11 (by omega) (by omega)) (mM 34 (by omega) (by omega))
    · intro q hq
      have e : q = 0 ∨ q = 1 := by omega
      rcases e with rfl | rfl
      · exact .inl ⟨by rw [k7 12 (by omega)]; exact a1, a3⟩
      · exact .inl ⟨by rw [k7 12 (by omega)]; exact a2, a4⟩
