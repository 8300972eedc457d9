/-! PURE: text, the beginning and the end -/
theorem t24 {v : Int32} {D : Mem} : Mo_text_L24 FU v 0 D = bv (Mo_reads (wr (wra D 36 (fun k => if k < 35 then 0 else D 36 k)) 36 0 7)) fun M1 => Mo_text_L55 FU v M1 := by
  obtain ⟨M', h1, h2⟩ := lp (fun m i M' => Mo_text_L24 m v (nI i) M') (fun M' => bv (Mo_reads (wr M' 36 0 7)) fun M1 => Mo_text_L55 FU v M1) 35 (fun i M' => M' = wra D 36 (fun k => if k < i then 0 else D 36 k)) (fun m M' _ => by
      show Mo_text_L24 (m + 1) v (nI 35) M' = _
      rw [Mo_text_L24, if_pos (by decide)]) (fun m i M' hi e => by
      refine ⟨wra D 36 (fun k => if k < i + 1 then 0 else D 36 k), rfl, ?_⟩
      show Mo_text_L24 (m + 1) v (nI i) M' = Mo_text_L24 m v (nI (i + 1)) _
      rw [Mo_text_L24, if_neg (show ¬ (35 : Int32) ≤ nI i from nI_ge (b := 35) hi (by omega)), if_pos (ibn hi (by omega)), ixn (by omega), e, wr_wra, nI_1]
      congr 2
      funext b
      grind) 35 FU 0 D (by omega) (FU_lt (by omega)) (by
      funext a b
      by_cases h : a = 36 <;> simp [wra_g, h])
  have h3 : Mo_text_L24 FU v 0 D = _ := h2
  rw [h3, h1]
theorem t125 {v : Int32} {D : Mem} : Mo_text_L125 FU v 0 D = some (v, wr (wr (wra D 33 (fun k => if k < 35 then D 36 k else D 33 k)) 35 0 0) 35 1 0) := by
  obtain ⟨M', h1, h2⟩ := lp (fun m i M' => Mo_text_L125 m v (nI i) M') (fun M' => some (v, wr (wr M' 35 0 0) 35 1 0)) 35 (fun i M' => M' = wra D 33 (fun k => if k < i then D 36 k else D 33 k)) (fun m M' _ => by
      show Mo_text_L125 (m + 1) v (nI 35) M' = _
      rw [Mo_text_L125, if_pos (by decide)]) (fun m i M' hi e => by
      refine ⟨wra D 33 (fun k => if k < i + 1 then D 36 k else D 33 k), rfl, ?_⟩
      show Mo_text_L125 (m + 1) v (nI i) M' = Mo_text_L125 m v (nI (i + 1)) _
      rw [Mo_text_L125, if_neg (show ¬ (35 : Int32) ≤ nI i from nI_ge (b := 35) hi (by omega)), if_pos (ibn hi (by omega)), if_pos (ibn hi (by omega)), ixn (by omega), e, wra_ne (a := 36) (by omega), wr_wra, nI_1]
      congr 2
      funext b
      grind) 35 FU 0 D (by omega) (FU_lt (by omega)) (by
      funext a b
      by_cases h : a = 33 <;> simp [wra_g, h])
  have h3 : Mo_text_L125 FU v 0 D = _ := h2
  rw [h3, h1]
theorem t60 {C : Mem} : Pf_text_L60 FU 0 C = some (C 1 7, wr (wr C 12 0 0) 12 1 0) := by
  obtain ⟨m, hm⟩ : ∃ m, FU = m + 3 := ⟨FU - 3, by have : (6 : Nat) < FU := FU_lt (by omega); omega⟩
  rw [hm, Pf_text_L60, if_neg (by decide), if_pos (by decide), Pf_text_L60, if_neg (by decide), if_pos (by decide), Pf_text_L60, if_pos (by decide), wr_ne (a := 1) (by omega), wr_ne (a := 1) (by omega)]
  rfl
/-- at the beginning -/
theorem tbeg {k : Nat} {b : Nat → Nat} {C D : Mem} (hC : SCt k b C) (hD : SDt k b D) : ∃ C0 D0, Tr_readText C = Tr_readText_L41 FU 1 0 C0 ∧ Mo_text D = (bv (Mo_reads D0) fun M1 => Mo_text_L55 FU 0 M1) ∧ ST k b C0 D0 0 ∧ C0 1 7 = nI 0 ∧ HC C C0 ∧ GD D D0 := by
  refine ⟨wr (wr (wr (wr (wra (wr (wr (wr (wr (wr C 1 3 0) 1 8 (-1)) 1 9 0) 1 10 0) 1 11 0) 4 (fun k => if k < 32 then 0 else wr (wr (wr (wr (wr C 1 3 0) 1 8 (-1)) 1 9 0) 1 10 0) 1 11 0 4 k)) 3 1 7) 3 2 0) 3 3 0) 1 7 0, wr (wra (wr (wr (wr (wr D 32 12 0) 32 8 0) 32 5 0) 32 4 (-1)) 36 (fun k => if k < 35 then 0 else wr (wr (wr (wr D 32 12 0) 32 8 0) 32 5 0) 32 4 (-1) 36 k)) 36 0 7, ?_, ?_, ⟨hC.mv ?_ ?_, hD.mv ?_ ?_, ?_, ?_, by omega, ?_, ?_, ⟨7, 0, 0, -1, .inr (.inr (.inr rfl)), by omega, by omega, ?_, ?_, ?_, ?_, ?_, ?_, ?_, ?_, by decide, fun t i j h1 h2 h3 => ⟨0, by omega, ?_, ?_, .inl (by omega), fun _ => rfl⟩⟩, .inl ⟨?_, ?_⟩⟩, wr_s, ⟨fun y y1 y3 y4 => ?_, ?_⟩, ⟨fun y y1 y2 => ?_, fun j hj => ?_⟩⟩
  · unfold Tr_readText Pa_makeEmpty
    rw [if_pos (show isP 3 = true from rfl), fill_ok (c := 3 + 1) (n := 32) rfl rfl (by omega), bv_s, bv_s]
  · unfold Mo_text
    rw [t24]
  · simp [wr_g, wra_g]
  · funext z; simp [wr_g, wra_g]
  · simp [wr_g, wra_g]
  · funext z; simp [wr_g, wra_g]
  · simp [wr_g, wra_g]; rfl
  · simp [wr_g, wra_g]; rfl
  · simp [wr_g, wra_g]
  · simp [wr_g, wra_g]
  · simp [wr_g, wra_g]; rfl
  · simp [wr_g, wra_g]; rfl
  · simp [wr_g, wra_g]; rfl
  · simp [wr_g, wra_g]; rfl
  · simp [wr_g, wra_g]; rfl
  · simp [wr_g, wra_g]; rfl
  · simp [wr_g, wra_g]
  · simp [wr_g, wra_g]
  · have : 16 * t + 4 * i + j < 32 := by omega
    simp [wr_g, wra_g, this]; rfl
  · have a1 : 3 + (16 * t + 4 * i + j) < 35 := by omega
    have a2 : ¬ 3 + (16 * t + 4 * i + j) = 0 := by omega
    rw [wr_o (by omega), wra_g, if_pos rfl, if_pos a1]; rfl
  · simp [wr_g, wra_g]
  · simp [wr_g, wra_g]
  · rw [wr_ne y1, wr_ne y3, wr_ne y3, wr_ne y3, wra_ne y4, wr_ne y1, wr_ne y1, wr_ne y1, wr_ne y1, wr_ne y1]
  · simp [wr_g, wra_g]
  · rw [wr_ne y2, wra_ne y2, wr_ne y1, wr_ne y1, wr_ne y1, wr_ne y1]
  · rw [wr_ne (by omega), wra_ne (by omega), wr_o (by omega), wr_o (by omega), wr_o (by omega), wr_o (by omega)]
/-- what text leaves -/
def TO (C D C' D' : Mem) : Prop := C' 1 2 = 0 ∧ D' 32 7 = 0 ∧ C' 0 8 = D' 32 12 ∧ (∀ j, j ≠ 8 → C' 0 j = C 0 j) ∧ (∀ j, 14 ≤ j → D' 32 j = D 32 j) ∧ (∀ y, y = 2 ∨ (7 ≤ y ∧ y ≠ 12) → C' y = C y) ∧ (∀ y, y < 32 ∨ y = 34 ∨ 37 ≤ y → D' y = D y) ∧ ((C' 5 = C 5 ∧ C' 6 = C 6 ∧ C' 12 = C 12 ∧ D' 33 = D 33 ∧ D' 35 = D 35) ∨ (P2 C' D' ∧ C' 12 0 = 0 ∧ C' 12 1 = 0 ∧ D' 35 0 = 0 ∧ D' 35 1 = 0))
theorem tfault {C D C1 D1 : Mem} (e1 : Tr_readText C = some C1) (e2 : Mo_text D = some (-10 - D1 32 13, wr D1 32 7 0)) (hF : FA C1 D1) (hc : HC C C1) (gd : GD D D1) : ∃ r C' D', Pf_text C = some (r, C') ∧ Mo_text D = some (r, D') ∧ TO C D C' D' := by
  have n0 := hF.n0
  obtain ⟨f, st, f1, f2, c10, d12, c11, d13⟩ := hF
  refine ⟨-10 - D1 32 13, wr (wr C1 1 2 0) 0 8 (nI f), wr D1 32 7 0, ?_, e2, ?_, wr_s, ?_, fun j hj => ?_, fun j hj => ?_, fun y hy => ?_, fun y hy => ?_, .inl ⟨?_, ?_, ?_, ?_, ?_⟩⟩
  · unfold Pf_text
    rw [e1, bv_s, wr_o (M := C1) (k := 2) (b := 10) (by omega), wr_s, if_neg n0.2.2, wr_ne (a := 1) (by omega), wr_o (M := C1) (k := 2) (b := 11) (by omega), c11, d13, c10]
  · rw [wr_ne (by omega), wr_s]
  · rw [wr_s, wr_o (by omega), d12]
  · rw [wr_o hj, wr_ne (by omega), hc.1 0 (by omega) (by omega) (by omega)]
  · rw [wr_o (by omega), gd.2 j (.inr hj)]
  · rw [wr_ne (by omega), wr_ne (by omega), hc.1 y (by omega) (by omega) (by omega)]
  · rw [wr_ne (by omega), gd.1 y (by omega) (by omega)]
  · rw [wr_ne (by omega), wr_ne (by omega), hc.1 5 (by omega) (by omega) (by omega)]
  · rw [wr_ne (by omega), wr_ne (by omega), hc.1 6 (by omega) (by omega) (by omega)]
  · rw [wr_ne (by omega), wr_ne (by omega), hc.1 12 (by omega) (by omega) (by omega)]
  · rw [wr_ne (by omega), gd.1 33 (by omega) (by omega)]
  · rw [wr_ne (by omega), gd.1 35 (by omega) (by omega)]
theorem b98_f {D : Mem} {v s : Int32} (h : ¬ D 32 12 = 0) (h' : ¬ D 32 12 ≤ 0) : Mo_text_b98 v s D = some (-10 - D 32 13, wr D 32 7 0) := by
  rw [Mo_text_b98, reqF h, bv_s, wr_o (k := 7) (b := 12) (by omega), if_neg h', wr_o (k := 7) (b := 13) (by omega)]
theorem b79_f {D : Mem} {v : Int32} (h : ¬ D 32 12 = 0) (h' : ¬ D 32 12 ≤ 0) : Mo_text_b79 v D = some (-10 - D 32 13, wr D 32 7 0) := by
  rw [Mo_text_b79, b98_f h h', b98_f h h']
  split <;> rfl
theorem text_main {k : Nat} {b : Nat → Nat} {C D : Mem} (hC : SCt k b C) (hD : SDt k b D) : ∃ r C' D', Pf_text C = some (r, C') ∧ Mo_text D = some (r, D') ∧ TO C D C' D' := by
  have hkk := hC.1
  obtain ⟨C0, D0, e1, e2, hS, h7, hc0, gd0⟩ := tbeg hC hD
  obtain ⟨C1, D1, v, f1, f2, hc1, gd1, hr⟩ := tloop (k := k) (b := b) (k + 1) 0 (by omega) FU FU 0 0 C0 D0 (by have : (200 : Nat) < FU := FU_lt (by omega); omega) (by have : (200 : Nat) < FU := FU_lt (by omega); omega) (by omega) hS h7
  have f1' : Tr_readText_L41 FU 1 0 C0 = Tr_readText_b104 C1 := f1
  have f2' : (bv (Mo_reads D0) fun M1 => Mo_text_L55 FU 0 M1) = Mo_text_b79 v D1 := f2
  rw [f1'] at e1
  rw [f2'] at e2
  have hc := hc0.tr hc1
  have gd := gd0.tr gd1
  rcases hr with hF | ⟨hS1, d9, c7⟩
  · have n0 := hF.n0
    refine tfault (C1 := C1) (D1 := D1) ?_ ?_ hF hc gd
    · rw [e1, Tr_readText_b104, if_neg n0.2.2]
    · rw [e2, b79_f n0.1 n0.2.1]
  · obtain ⟨sC, sD, s3, s8, hqk, s10, s12, ⟨p, r, w, h, hp, hr, hw, a1, a2, a3, d0, d1, d2, x8, x4, h6, hV⟩, hpT⟩ := id hS1
    have h7' := pr_le hp
    by_cases z : h < nI p
    · obtain ⟨C3, g1, g2, g3, g4⟩ := takeFrom_ok (c := 5) (d := 3) (M := wr (wr C1 1 2 0) 0 8 0) rfl rfl (by omega) (by omega) (by omega)
      have y3 : ∀ j, wr (wr C1 1 2 0) 0 8 0 3 j = C1 3 j := fun j => by rw [wr_ne (by omega), wr_ne (by omega)]
      have y4 : ∀ j, wr (wr C1 1 2 0) 0 8 0 (3 + 1) j = C1 4 j := fun j => by rw [wr_ne (by omega), wr_ne (by omega)]
      have y0 : ∀ y, y ≠ 5 → y ≠ 6 → y ≠ 0 → y ≠ 1 → C3 y = C1 y := fun y q5 q6 q0 q1 => by rw [g2 y q5 q6, wr_ne q0, wr_ne q1]
      have c17 : C3 1 7 = v := by rw [g2 1 (by omega) (by omega), wr_ne (by omega), wr_o (by omega)]; exact c7
      refine ⟨v, wr (wr C3 12 0 0) 12 1 0, wr (wr (wra (wr D1 32 7 0) 33 (fun k => if k < 35 then wr D1 32 7 0 36 k else wr D1 32 7 0 33 k)) 35 0 0) 35 1 0, ?_, ?_, ?_, ?_, ?_, fun j hj => ?_, fun j hj => ?_, fun y hy => ?_, fun y hy => ?_, .inr ⟨⟨p, r, w, hp, hr, hw, ?_, ?_, ?_, ?_, ?_, ?_, fun t i j q1 q2 q3 => ?_, fun t i j q1 q2 q3 q4 => ?_⟩, ?_, ?_, ?_, ?_⟩⟩
      · have e1' : Tr_readText C = some C1 := by rw [e1, Tr_readText_b104, if_pos s10, x8, a1, if_pos z]
        unfold Pf_text
        rw [e1', bv_s, wr_o (M := C1) (k := 2) (b := 10) (by omega), s10, wr_s, if_pos rfl, g1, bv_s, t60, c17]
      · rw [e2, Mo_text_b79, d0, x4, if_neg (Int32.not_le.mpr z), Mo_text_b98, req1, bv_s, wr_o (k := 7) (b := 12) (by omega), s12, if_pos (by decide), t125]
      · rw [wr_ne (by omega), wr_ne (by omega), g2 1 (by omega) (by omega), wr_ne (by omega), wr_s]
      · rw [wr_ne (by omega), wr_ne (by omega), wra_ne (by omega), wr_s]
      · rw [wr_ne (by omega), wr_ne (by omega), g2 0 (by omega) (by omega), wr_s, wr_ne (by omega), wr_ne (by omega), wra_ne (by omega), wr_o (by omega), s12]
      · rw [wr_ne (by omega), wr_ne (by omega), g2 0 (by omega) (by omega), wr_o hj, wr_ne (by omega), hc.1 0 (by omega) (by omega) (by omega)]
      · rw [wr_ne (by omega), wr_ne (by omega), wra_ne (by omega), wr_o (by omega), gd.2 j (.inr hj)]
      · rw [wr_ne (by omega), wr_ne (by omega), y0 y (by omega) (by omega) (by omega) (by omega), hc.1 y (by omega) (by omega) (by omega)]
      · rw [wr_ne (by omega), wr_ne (by omega), wra_ne (by omega), wr_ne (by omega), gd.1 y (by omega) (by omega)]
      · rw [wr_ne (by omega), wr_ne (by omega), g3 1 (by omega) (by omega), y3]; exact a1
      · rw [wr_ne (by omega), wr_ne (by omega), g3 2 (by omega) (by omega), y3]; exact a2
      · rw [wr_ne (by omega), wr_ne (by omega), g3 3 (by omega) (by omega), y3]; exact a3
      · rw [wr_ne (by omega), wr_ne (by omega), wra_g, if_pos rfl, if_pos (by omega), wr_ne (by omega)]; exact d0
      · rw [wr_ne (by omega), wr_ne (by omega), wra_g, if_pos rfl, if_pos (by omega), wr_ne (by omega)]; exact d1
      · rw [wr_ne (by omega), wr_ne (by omega), wra_g, if_pos rfl, if_pos (by omega), wr_ne (by omega)]; exact d2
      · obtain ⟨u, u1, u2, u3, u4, u5⟩ := hV t i j q1 (by omega) (by omega)
        refine ⟨u, ?_, ?_, ?_⟩
        · rcases u4 with u4 | u4
          · omega
          · have g1 := Int32.le_iff_toInt_le.mp u4
            have g2 := Int32.lt_iff_toInt_lt.mp z
            rw [nI_toInt (by omega)] at g1 g2
            omega
        · rw [wr_ne (by omega), wr_ne (by omega), show (6 : Nat) = 5 + 1 from rfl, g4 _ (by omega), y4]; exact u2
        · rw [wr_ne (by omega), wr_ne (by omega), wra_g, if_pos rfl, if_pos (by omega), wr_ne (by omega)]; exact u3
      · obtain ⟨u, u1, u2, u3, u4, u5⟩ := hV t i j q1 q2 q3
        rw [wr_ne (by omega), wr_ne (by omega), show (6 : Nat) = 5 + 1 from rfl, g4 _ (by omega), y4, u2, u5 q4]
        rfl
      · rw [wr_o (by omega), wr_s]
      · rw [wr_s]
      · rw [wr_o (by omega), wr_s]
      · rw [wr_s]
    · have hF : FA (wr (wr C1 1 10 (nI 6)) 1 11 (nI k)) (wr (wr D1 32 12 (nI 6)) 32 13 (nI k)) := FA.set (by omega) (by omega)
      have n0 := hF.n0
      refine tfault (C1 := wr (wr C1 1 10 (nI 6)) 1 11 (nI k)) (D1 := wr (wr D1 32 12 (nI 6)) 32 13 (nI k)) ?_ ?_ hF (hc.tr GC.st.H) (gd.tr GD.st)
      · rw [e1, Tr_readText_b104, if_pos s10, x8, a1, if_neg z, stop_ok, bd_s, sC.2.1]; rfl
      · have rq : Mo_requires 0 6 D1 = some (wr (wr D1 32 12 (nI 6)) 32 13 (nI k)) := req0 s12 d9
        rw [e2, Mo_text_b79, d0, x4, if_pos (Int32.not_lt.mp z), Mo_text_b98, rq, bv_s, wr_o (k := 7) (b := 12) (by omega), if_neg n0.2.1, wr_o (k := 7) (b := 13) (by omega)]
