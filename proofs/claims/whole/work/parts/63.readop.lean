/-! PURE: read -/
theorem RS.sh {M : Mem} {s : Nat} (h : RS M) (hs : s < 4) : ∃ sh, SC M s sh ∧ SD M s sh ∧ (sh ≠ none → ∀ i, i < 40 → M (15 + 2 * s) i = M 48 (40 * s + i)) := by
  rcases h s hs with ⟨g1, g2⟩ | ⟨a, n, g1, g2, g3, g4, g5, g6, g7⟩
  · exact ⟨none, g1, g2, fun q => absurd rfl q⟩
  · exact ⟨some (a, n), ⟨g1, g2, g3, g4⟩, ⟨g1, g2, g5, g6⟩, fun _ => g7⟩
theorem RD.of {C D : Mem} {s p r w : Nat} {sh : Option (Nat × Nat)} (hP : PRel (C 5) (C 6) (C 33)) (e1 : C 5 1 = nI p) (e2 : C 5 2 = nI r) (e3 : C 5 3 = nI w) (hp : pr p) (hr : r ≤ 4) (hw : w ≤ 4) (s1 : SC C s sh) (s2 : SD C s sh) (s3 : sh ≠ none → ∀ i, i < 40 → C (15 + 2 * s) i = C 48 (40 * s + i)) (hf : ∀ y, y ≠ 6 → y ≠ 0 → y ≠ 49 → D y = C y) : RD C D s sh p r w := by
  refine ⟨PRel.mv hP rfl rfl (hf 33 (by omega) (by omega) (by omega)), e1, e2, e3, hp, hr, hw, s1, ?_, fun q i hi => by rw [hf 48 (by omega) (by omega) (by omega)]; exact s3 q i hi⟩
  cases sh with
  | none => show D 46 s = -4; rw [hf 46 (by omega) (by omega) (by omega)]; exact s2
  | some an =>
    obtain ⟨a, n⟩ := an
    obtain ⟨g1, g2, g3, g4⟩ := (show a < 3 ∧ n ≤ 40 ∧ C 46 s = nI a ∧ C 47 s = nI n from s2)
    exact ⟨g1, g2, by rw [hf 46 (by omega) (by omega) (by omega)]; exact g3, by rw [hf 47 (by omega) (by omega) (by omega)]; exact g4⟩
theorem op_read : Op_read Rel := by
  intro M a b d n hR
  by_cases h1 : 0 ≤ a ∧ a < 4
  · by_cases h2 : 0 ≤ b ∧ b < 3
    · by_cases h3 : 0 ≤ n ∧ n ≤ 10
      · obtain ⟨s, hs, rfl⟩ := ran (n := 4) (by omega) h1.1 h1.2
        obtain ⟨u, hu, rfl⟩ := ran (n := 3) (by omega) h2.1 h2.2
        obtain ⟨cnt, hc, rfl⟩ := ranl (n := 10) (by omega) h3.1 h3.2
        obtain ⟨r1, r2, r3, r4⟩ := rfn13 s hs
        obtain ⟨hT, ⟨p, r, w, hp, hr, hw, e1, e2, e3, s0, s1, s2, hv, hz⟩, hI, hS, hF⟩ := id hR
        obtain ⟨sh, t1, t2, t3⟩ := hS.sh hs
        have q1 : ib (nI s) 4 = true := ibn hs (by omega)
        have q2 : ix (nI s) = s := ixn (by omega)
        have pf : ∀ C : Mem, Pf_read (nI s) (nI u) d (nI cnt) C = Pf_read_L45 FU (nI u) d (nI cnt) (14 + 2 * s) 0 0 0 C := fun C => by
          unfold Pf_read
          rw [isSheet_ok, if_pos h1, bd_s, if_neg (by decide), isLane_ok, if_pos h2, bd_s, if_neg (by decide), if_neg (Int32.not_lt.mpr h3.1), if_pos h3.2, if_pos q1, q2, r1]
        have mo : ∀ D : Mem, Mo_read (nI s) (nI u) d (nI cnt) D = Mo_read_L62 FU (nI s) (nI u) d (nI cnt) 0 0 0 (wra D 49 (fun k => if k < 35 then D 33 k else D 49 k)) := fun D => by
          unfold Mo_read
          rw [mSheet_ok, if_pos ⟨h1, h2⟩, bd_s, if_neg (by decide), in_0_10, if_pos h3, bd_s, if_neg (by decide), L26_ok]
        have dup : ∀ D : Mem, ∀ i, i < 35 → wra D 49 (fun k => if k < 35 then D 33 k else D 49 k) 49 i = wra D 49 (fun k => if k < 35 then D 33 k else D 49 k) 33 i := fun D i hi => by
          rw [wra_ne (a := 33) (by omega), wra_g, if_pos rfl, if_pos hi]
        obtain ⟨v0, M1, _, g1, _, ⟨_, f1, _, _⟩⟩ := read_main (C := M) (D := wra M 49 (fun k => if k < 35 then M 33 k else M 49 k)) (pos := d) (ln0 := nI u) hs hc ⟨u, hu, rfl⟩ (RD.of hR.2.1 e1 e2 e3 hp hr hw t1 t2 t3 (fun y _ _ y3 => wra_ne y3)) (dup M)
        obtain ⟨v, M1', M2, g1', g2, ⟨k1, k2, k3, k4⟩⟩ := read_main (C := M) (D := wra M1 49 (fun k => if k < 35 then M1 33 k else M1 49 k)) (pos := d) (ln0 := nI u) hs hc ⟨u, hu, rfl⟩ (RD.of hR.2.1 e1 e2 e3 hp hr hw t1 t2 t3 (fun y y1 y2 y3 => by rw [wra_ne y3, f1 y y1 y2])) (dup M1)
        have eM : M1' = M1 := by
          have := g1'.symm.trans g1
          simp at this
          exact this.2
        subst eM
        refine ⟨v, M1', M2, by rw [pf]; exact g1', by rw [mo]; exact g2, ?_⟩
        have kk : ∀ y, y ≠ 33 → y ≠ 32 → y ≠ 49 → M2 y = M1' y := fun y y1 y2 y3 => by rw [k3 y y1 y2, wra_ne y3]
        have kM : ∀ y, y ≠ 33 → y ≠ 32 → y ≠ 49 → y ≠ 6 → y ≠ 0 → M2 y = M y := fun y y1 y2 y3 y4 y5 => by rw [kk y y1 y2 y3, k2 y y4 y5]
        have w32 : wra M1' 49 (fun k => if k < 35 then M1' 33 k else M1' 49 k) 32 = M 32 := by rw [wra_ne (by omega), k2 32 (by omega) (by omega)]
        have k32 : ∀ j, j ≠ 28 → M2 32 j = M 32 j := fun j hj => by
          rcases k4 with ⟨_, g⟩ | ⟨f, _, g⟩
          · rw [g, w32]
          · rw [g j, if_neg hj, w32]
        have k0 : ∀ j, j ≠ 9 → M2 0 j = M 0 j := fun j hj => by
          rw [kk 0 (by omega) (by omega) (by omega)]
          rcases k4 with ⟨g, _⟩ | ⟨f, g, _⟩
          · rw [g]
          · rw [g j, if_neg hj]
        have kf : M2 0 9 = M2 32 28 := by
          rw [kk 0 (by omega) (by omega) (by omega)]
          rcases k4 with ⟨g, g'⟩ | ⟨f, g, g'⟩
          · rw [g, g', w32]; exact hF.2.1
          · rw [g 9, g' 28, if_pos rfl, if_pos rfl]
        refine ⟨hT.mv (by rw [kM 1 (by omega) (by omega) (by omega) (by omega) (by omega)]) (kM 2 (by omega) (by omega) (by omega) (by omega) (by omega)) (k32 7 (by omega)) (kM 37 (by omega) (by omega) (by omega) (by omega) (by omega)), PRel.mv k1 (kk 5 (by omega) (by omega) (by omega)) (kk 6 (by omega) (by omega) (by omega)) rfl, hI.mv (kM 12 (by omega) (by omega) (by omega) (by omega) (by omega)) (kM 35 (by omega) (by omega) (by omega) (by omega) (by omega)) (kM 8 (by omega) (by omega) (by omega) (by omega) (by omega)) (kM 9 (by omega) (by omega) (by omega) (by omega) (by omega)) (kM 10 (by omega) (by omega) (by omega) (by omega) (by omega)) (kM 11 (by omega) (by omega) (by omega) (by omega) (by omega)) (kM 34 (by omega) (by omega) (by omega) (by omega) (by omega)), hS.mv (fun c c1 c2 => kM c (by omega) (by omega) (by omega) (by omega) (by omega)) (kM 46 (by omega) (by omega) (by omega) (by omega) (by omega)) (kM 47 (by omega) (by omega) (by omega) (by omega) (by omega)) (kM 48 (by omega) (by omega) (by omega) (by omega) (by omega)), by rw [k0 8 (by omega), k32 12 (by omega)]; exact hF.1, kf, by rw [k32 17 (by omega)]; exact hF.2.2⟩
      · refine ⟨-1, M, M, ?_, ?_, hR⟩
        · unfold Pf_read
          rw [isSheet_ok, if_pos h1, bd_s, if_neg (by decide), isLane_ok, if_pos h2, bd_s, if_neg (by decide)]
          by_cases q : n < 0
          · rw [if_pos q]
          · rw [if_neg q, if_neg (fun g => h3 ⟨Int32.not_lt.mp q, g⟩)]
        · unfold Mo_read
          rw [mSheet_ok, if_pos ⟨h1, h2⟩, bd_s, if_neg (by decide), in_0_10, if_neg h3, bd_s, if_pos rfl]
    · refine ⟨-1, M, M, ?_, ?_, hR⟩
      · unfold Pf_read
        rw [isSheet_ok, if_pos h1, bd_s, if_neg (by decide), isLane_ok, if_neg h2, bd_s, if_pos rfl]
      · unfold Mo_read
        rw [mSheet_ok, if_neg (fun h => h2 h.2), bd_s, if_pos rfl]
  · refine ⟨-1, M, M, ?_, ?_, hR⟩
    · unfold Pf_read
      rw [isSheet_ok, if_neg h1, bd_s, if_pos rfl]
    · unfold Mo_read
      rw [mSheet_ok, if_neg (fun h => h1 h.1), bd_s, if_pos rfl]
