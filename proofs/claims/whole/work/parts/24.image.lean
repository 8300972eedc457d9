/-! PURE: images: keep, back -/
theorem PRel.cg {A B S A' B' S' : Nat → Int32} (h : PRel A B S) (h1 : ∀ k, 1 ≤ k → k ≤ 3 → A' k = A k) (h2 : ∀ k, k < 32 → B' k = B k) (h3 : ∀ k, k < 35 → S' k = S k) : PRel A' B' S' := by
  obtain ⟨p, r, w, hp, hr, hw, e1, e2, e3, s0, s1, s2, hv, hz⟩ := h
  refine ⟨p, r, w, hp, hr, hw, by rw [h1 1 (by omega) (by omega)]; exact e1, by rw [h1 2 (by omega) (by omega)]; exact e2, by rw [h1 3 (by omega) (by omega)]; exact e3, by rw [h3 0 (by omega)]; exact s0, by rw [h3 1 (by omega)]; exact s1, by rw [h3 2 (by omega)]; exact s2, fun t i j a1 a2 a3 => ?_, fun t i j a1 a2 a3 a4 => ?_⟩
  · rw [h2 _ (by omega), h3 _ (by omega)]
    exact hv t i j a1 a2 a3
  · rw [h2 _ (by omega)]
    exact hz t i j a1 a2 a3 a4
theorem takeFrom_ok {c d : Nat} {M : Mem} (hc : isP c = true) (hd : isP d = true) (h1 : c ≠ d) (h2 : c + 1 ≠ d) (h3 : d + 1 ≠ c) : ∃ M', Pa_takeFrom c d M = some M' ∧ (∀ a, a ≠ c → a ≠ c + 1 → M' a = M a) ∧ (∀ k, 1 ≤ k → k ≤ 3 → M' c k = M d k) ∧ ∀ k, k < 32 → M' (c + 1) k = M (d + 1) k := by
  unfold Pa_takeFrom
  rw [if_pos hc, if_pos hd]
  refine ⟨_, rfl, fun a g1 g2 => ?_, fun k g1 g2 => ?_, fun k hk => ?_⟩
  · rw [wr_ne g1, wr_ne g1, wr_ne g1, wra_ne g2]
  · have e : k = 1 ∨ k = 2 ∨ k = 3 := by omega
    have n1 : ¬ d = c := fun q => h1 q.symm
    have n2 : ¬ d = c + 1 := fun q => h2 q.symm
    rcases e with rfl | rfl | rfl <;> simp [wr_g, wra_g, n1, n2]
  · have e1 : c + 1 ≠ c := by omega
    rw [wr_ne e1, wr_ne e1, wr_ne e1, wra_eq, pk_cpy_in (by omega) (by omega)]
    congr 1
    omega
theorem rfn7 : ∀ k, k < 2 → rfn 7 k = 8 + 2 * k ∧ isP (8 + 2 * k) = true := by decide +kernel
theorem isImage_ok (a : Int32) (M : Mem) : Pf_isImage a M = some (if 0 ≤ a ∧ a < 2 then 1 else 0, M) := by
  unfold Pf_isImage
  by_cases q1 : a < 0
  · rw [if_pos q1, if_neg (fun h => Int32.not_le.mpr q1 h.1)]
  rw [if_neg q1]
  by_cases q2 : 2 ≤ a
  · rw [if_pos q2, if_neg (fun h => Int32.not_le.mpr h.2 q2)]
  rw [if_neg q2, if_pos ⟨Int32.not_lt.mp q1, Int32.not_le.mp q2⟩]
theorem n35 (k i : Nat) : 35 * nI k + nI i = nI (35 * k + i) := by
  rw [show (35 : Int32) = nI 35 from rfl, nIm, nIa]
theorem keep_loop {k : Nat} {x : Int32} {M : Mem} (hk : k < 2) : Mo_keep_L31 FU (nI k) x 0 M = some (x, wra M 34 (fun b => if 35 * k ≤ b ∧ b < 35 * k + 35 then M 33 (b - 35 * k) else M 34 b)) := by
  obtain ⟨M', h1, h2⟩ := lp (fun m i M' => Mo_keep_L31 m (nI k) x (nI i) M') (fun M' => some (x, M')) 35 (fun i M' => M' = wra M 34 (fun b => if 35 * k ≤ b ∧ b < 35 * k + i then M 33 (b - 35 * k) else M 34 b)) (fun m M' _ => by
      show Mo_keep_L31 (m + 1) (nI k) x (nI 35) M' = _
      rw [Mo_keep_L31, if_pos (by decide)]) (fun m i M' hi e => by
      refine ⟨wra M 34 (fun b => if 35 * k ≤ b ∧ b < 35 * k + (i + 1) then M 33 (b - 35 * k) else M 34 b), rfl, ?_⟩
      show Mo_keep_L31 (m + 1) (nI k) x (nI i) M' = Mo_keep_L31 m (nI k) x (nI (i + 1)) _
      rw [Mo_keep_L31, if_neg (show ¬ (35 : Int32) ≤ nI i from nI_ge (b := 35) hi (by omega)), if_pos (ibn hi (by omega)), n35, if_pos (ibn (by omega) (by omega)), ixn (by omega), ixn (by omega), e, wr_wra, nI_1, wra_ne (by omega)]
      congr 2
      funext b
      by_cases q : b = 35 * k + i
      · subst q
        simp
      · grind) 35 FU 0 M (by omega) (FU_lt (by omega)) (by
      funext a b
      by_cases h : a = 34 <;> simp [wra_g, h]
      intros; omega)
  have h3 : Mo_keep_L31 FU (nI k) x 0 M = some (x, M') := h2
  rw [h3, h1]
theorem takes_loop {k : Nat} {M : Mem} (hk : k < 2) : Mo_takes (nI k) M = some (wra M 33 (fun b => if b < 35 then M 34 (35 * k + b) else M 33 b)) := by
  unfold Mo_takes
  obtain ⟨M', h1, h2⟩ := lp (fun m i M' => Mo_takes_L2 m (nI k) (nI i) M') (fun M' => some M') 35 (fun i M' => M' = wra M 33 (fun b => if b < i then M 34 (35 * k + b) else M 33 b)) (fun m M' _ => by
      show Mo_takes_L2 (m + 1) (nI k) (nI 35) M' = _
      rw [Mo_takes_L2, if_pos (by decide)]) (fun m i M' hi e => by
      refine ⟨wra M 33 (fun b => if b < i + 1 then M 34 (35 * k + b) else M 33 b), rfl, ?_⟩
      show Mo_takes_L2 (m + 1) (nI k) (nI i) M' = Mo_takes_L2 m (nI k) (nI (i + 1)) _
      rw [Mo_takes_L2, if_neg (show ¬ (35 : Int32) ≤ nI i from nI_ge (b := 35) hi (by omega)), n35, if_pos (ibn (by omega) (by omega)), if_pos (ibn hi (by omega)), ixn (by omega), ixn (by omega), e, wr_wra, nI_1, wra_ne (by omega)]
      congr 2
      funext b
      by_cases q : b = i
      · subst q
        simp
      · grind) 35 FU 0 M (by omega) (FU_lt (by omega)) (by
      funext a b
      by_cases h : a = 33 <;> simp [wra_g, h])
  have h3 : Mo_takes_L2 FU (nI k) 0 M = some M' := h2
  rw [h3, h1]
theorem keepC_ok {k : Nat} {x : Int32} {M : Mem} (hk : k < 2) (hx : M 12 k = x) (h01 : x = 0 ∨ x = 1) : ∃ M1, Pf_keep (nI k) M = some (x, M1) ∧ (∀ a, a ≠ 8 + 2 * k → a ≠ 9 + 2 * k → a ≠ 12 → M1 a = M a) ∧ (∀ j, 1 ≤ j → j ≤ 3 → M1 (8 + 2 * k) j = M 5 j) ∧ (∀ j, j < 32 → M1 (9 + 2 * k) j = M 6 j) ∧ M1 12 k = 1 ∧ ∀ j, j ≠ k → M1 12 j = M 12 j := by
  obtain ⟨r1, r2⟩ := rfn7 k hk
  have q1 : ib (nI k) 2 = true := ibn hk (by omega)
  have q2 : ix (nI k) = k := ixn (by omega)
  have h1 : 0 ≤ nI k ∧ nI k < 2 := ⟨nI_pos' (by omega), nI_lt (b := 2) hk (by omega)⟩
  obtain ⟨M', g1, g2, g3, g4⟩ := takeFrom_ok (M := M) r2 isP5 (by omega) (by omega) (by omega)
  refine ⟨wr M' 12 k 1, ?_, fun a a1 a2 a3 => ?_, fun j a1 a2 => ?_, fun j a1 => ?_, wr_s, fun j hj => ?_⟩
  · unfold Pf_keep
    rw [isImage_ok, if_pos h1, bd_s, if_neg (by decide), if_pos q1, q2, hx]
    have hb : ∀ s, Pf_keep_b23 (nI k) s M = some (s, wr M' 12 k 1) := fun s => by
      unfold Pf_keep_b23
      rw [if_pos q1, q2, r1, g1, bv_s, if_pos q1]
    rcases h01 with rfl | rfl
    · rw [if_pos rfl, hb]
    · rw [if_neg (by decide), hb]
  · rw [wr_ne a3, g2 a a1 (by omega)]
  · rw [wr_ne (by omega), g3 j a1 a2]
  · rw [wr_ne (by omega), show 9 + 2 * k = 8 + 2 * k + 1 by omega, g4 j a1]
  · rw [wr_o hj, g2 12 (by omega) (by omega)]
theorem flag_ok {x : Int32} {M : Mem} (h : x = 0 ∨ x = 1) : Mo_flag x M = some (x, M) := by
  unfold Mo_flag
  rcases h with rfl | rfl
  · rw [if_pos rfl]
  · rw [if_neg (by decide)]
theorem op_keep : Op_keep Rel := by
  intro M a hR
  by_cases h1 : 0 ≤ a ∧ a < 2
  · obtain ⟨k, hk, rfl⟩ := ran (n := 2) (by omega) h1.1 h1.2
    have q1 : ib (nI k) 2 = true := ibn hk (by omega)
    have q2 : ix (nI k) = k := ixn (by omega)
    obtain ⟨hT, hP, hI, hS, hF⟩ := id hR
    obtain ⟨x, h01, hx, hy⟩ : ∃ x, (x = 0 ∨ x = 1) ∧ M 12 k = x ∧ M 35 k = x := by
      rcases hI k hk with ⟨b1, b2⟩ | ⟨b1, b2, -⟩
      · exact ⟨0, Or.inl rfl, b1, b2⟩
      · exact ⟨1, Or.inr rfl, b1, b2⟩
    obtain ⟨M1, g1, g2, g3, g4, g5, g6⟩ := keepC_ok hk hx h01
    have m35 : M1 35 k = x := by rw [g2 35 (by omega) (by omega) (by omega)]; exact hy
    refine ⟨x, M1, wra (wr M1 35 k 1) 34 (fun b => if 35 * k ≤ b ∧ b < 35 * k + 35 then M1 33 (b - 35 * k) else M1 34 b), g1, ?_, ?_⟩
    · unfold Mo_keep
      rw [in_1, if_pos h1, bd_s, if_neg (by decide), if_pos q1, q2, m35, flag_ok h01, bd_s, if_pos q1, keep_loop hk]
      congr 3
    · have c : ∀ a, a ≠ 8 + 2 * k → a ≠ 9 + 2 * k → a ≠ 12 → a ≠ 35 → a ≠ 34 → wra (wr M1 35 k 1) 34 (fun b => if 35 * k ≤ b ∧ b < 35 * k + 35 then M1 33 (b - 35 * k) else M1 34 b) a = M a := fun a a1 a2 a3 a4 a5 => by
        rw [wra_ne a5, wr_ne a4, g2 a a1 a2 a3]
      refine ⟨hT.mv (by rw [c 1 (by omega) (by omega) (by omega) (by omega) (by omega)]) (c 2 (by omega) (by omega) (by omega) (by omega) (by omega)) (by rw [c 32 (by omega) (by omega) (by omega) (by omega) (by omega)]) (c 37 (by omega) (by omega) (by omega) (by omega) (by omega)), hP.mv (c 5 (by omega) (by omega) (by omega) (by omega) (by omega)) (c 6 (by omega) (by omega) (by omega) (by omega) (by omega)) (c 33 (by omega) (by omega) (by omega) (by omega) (by omega)), ?_, hS.mv (fun d d1 d2 => c d (by omega) (by omega) (by omega) (by omega) (by omega)) (c 46 (by omega) (by omega) (by omega) (by omega) (by omega)) (c 47 (by omega) (by omega) (by omega) (by omega) (by omega)) (c 48 (by omega) (by omega) (by omega) (by omega) (by omega)), hF.mv (c 0 (by omega) (by omega) (by omega) (by omega) (by omega)) (by rw [c 32 (by omega) (by omega) (by omega) (by omega) (by omega)]) (by rw [c 32 (by omega) (by omega) (by omega) (by omega) (by omega)]) (by rw [c 32 (by omega) (by omega) (by omega) (by omega) (by omega)])⟩
      intro k' hk'
      by_cases e : k' = k
      · subst e
        refine Or.inr ⟨?_, ?_, ?_⟩
        · rw [wra_ne (by omega), wr_ne (by omega)]; exact g5
        · rw [wra_ne (by omega), wr_s]
        · refine hP.cg (fun j j1 j2 => ?_) (fun j j1 => ?_) (fun j j1 => ?_)
          · rw [wra_ne (by omega), wr_ne (by omega)]; exact g3 j j1 j2
          · rw [wra_ne (by omega), wr_ne (by omega)]; exact g4 j j1
          · rw [wra_eq, if_pos ⟨by omega, by omega⟩, g2 33 (by omega) (by omega) (by omega)]
            congr 1
            omega
      · have d1 : wra (wr M1 35 k 1) 34 (fun b => if 35 * k ≤ b ∧ b < 35 * k + 35 then M1 33 (b - 35 * k) else M1 34 b) 12 k' = M 12 k' := by
          rw [wra_ne (by omega), wr_ne (by omega)]; exact g6 k' e
        have d2 : wra (wr M1 35 k 1) 34 (fun b => if 35 * k ≤ b ∧ b < 35 * k + 35 then M1 33 (b - 35 * k) else M1 34 b) 35 k' = M 35 k' := by
          rw [wra_ne (by omega), wr_o e, g2 35 (by omega) (by omega) (by omega)]
        rw [d1, d2]
        rcases hI k' hk' with q | ⟨b1, b2, b3⟩
        · exact Or.inl q
        · refine Or.inr ⟨b1, b2, b3.cg (fun j _ _ => ?_) (fun j _ => ?_) (fun j j1 => ?_)⟩
          · rw [c (8 + 2 * k') (by omega) (by omega) (by omega) (by omega) (by omega)]
          · rw [c (9 + 2 * k') (by omega) (by omega) (by omega) (by omega) (by omega)]
          · rw [wra_eq, if_neg (by omega), g2 34 (by omega) (by omega) (by omega)]
  · refine ⟨-1, M, M, ?_, ?_, hR⟩
    · unfold Pf_keep
      rw [isImage_ok, if_neg h1, bd_s, if_pos rfl]
    · unfold Mo_keep
      rw [in_1, if_neg h1, bd_s, if_pos rfl]
theorem op_back : Op_back Rel := by
  intro M a hR
  by_cases h1 : 0 ≤ a ∧ a < 2
  · obtain ⟨k, hk, rfl⟩ := ran (n := 2) (by omega) h1.1 h1.2
    have q1 : ib (nI k) 2 = true := ibn hk (by omega)
    have q2 : ix (nI k) = k := ixn (by omega)
    obtain ⟨r1, r2⟩ := rfn7 k hk
    obtain ⟨hT, hP, hI, hS, hF⟩ := id hR
    rcases hI k hk with ⟨b1, b2⟩ | ⟨b1, b2, b3⟩
    · refine ⟨-2, M, M, ?_, ?_, hR⟩
      · unfold Pf_back
        rw [isImage_ok, if_pos h1, bd_s, if_neg (by decide), if_pos q1, q2, if_pos b1]
      · unfold Mo_back
        rw [in_1, if_pos h1, bd_s, if_neg (by decide), if_pos q1, q2, if_pos b2]
    · obtain ⟨M', g1, g2, g3, g4⟩ := takeFrom_ok (M := M) isP5 r2 (by omega) (by omega) (by omega)
      obtain ⟨p, r, w, hp, hr, hw, e1, e2, e3, s0, s1, s2, hv, hz⟩ := id b3
      refine ⟨10 * nI r + nI w, M', wra M' 33 (fun b => if b < 35 then M' 34 (35 * k + b) else M' 33 b), ?_, ?_, ?_⟩
      · unfold Pf_back Pa_shape
        rw [isImage_ok, if_pos h1, bd_s, if_neg (by decide), if_pos q1, q2, if_neg (by rw [b1]; decide), if_pos q1, r1, g1, bv_s, if_pos isP5, bd_s, g3 2 (by omega) (by omega), g3 3 (by omega) (by omega), e2, e3]
      · have m35 : M' 35 k = 1 := by rw [g2 35 (by omega) (by omega)]; exact b2
        have m34 : M' 34 = M 34 := g2 34 (by omega) (by omega)
        unfold Mo_back Mo_shape
        rw [in_1, if_pos h1, bd_s, if_neg (by decide), if_pos q1, q2, if_neg (by rw [m35]; decide), takes_loop hk, bv_s, bd_s, wra_eq, if_pos (by omega), if_pos (by omega), m34]
        have s1' : M 34 (35 * k + 1) = nI r := s1
        have s2' : M 34 (35 * k + 2) = nI w := s2
        rw [s1', s2']
      · refine hR.pair (fun c a1 a2 a3 _ _ _ _ => by rw [wra_ne a3, g2 c a1 (by omega)]) (by rw [wra_ne (by omega), g2 32 (by omega) (by omega)]) ?_
        refine b3.cg (fun j j1 j2 => ?_) (fun j j1 => ?_) (fun j j1 => ?_)
        · rw [wra_ne (by omega)]; exact g3 j j1 j2
        · rw [wra_ne (by omega), show 9 + 2 * k = 8 + 2 * k + 1 by omega]; exact g4 j j1
        · rw [wra_eq, if_pos j1, g2 34 (by omega) (by omega)]
  · refine ⟨-1, M, M, ?_, ?_, hR⟩
    · unfold Pf_back
      rw [isImage_ok, if_neg h1, bd_s, if_pos rfl]
    · unfold Mo_back
      rw [in_1, if_neg h1, bd_s, if_pos rfl]
