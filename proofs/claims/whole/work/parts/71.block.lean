/-! PURE: text, a block comes -/
theorem drawL {L v x r w m n hg wd : Nat} {h : Int32} (hv : v ≤ 4) (hst : ∀ i C D, i < v → C 1 6 = nI v → C 3 2 = nI m → C 3 3 = nI n → VR C D m n h → Dst L v x r w m n hg wd i h C D) : ∀ d nC nD i C D, i + d = v → d < nC → d < nD → C 1 6 = nI v → C 3 2 = nI m → C 3 3 = nI n → VR C D m n h → ∃ C' D', Tr_putBlock_L31 nC (nI L) (nI x) (nI r) (nI w) (nI i) C = some C' ∧ Mo_blockComes_L90 nD (nI (L - 1)) (nI v) (nI x) (nI r) (nI w) (nI hg) (nI wd) (nI i) D = some (wr (wr D' 36 1 (D' 36 1 + nI hg)) 36 2 (D' 36 2 + nI wd)) ∧ VR C' D' m n h ∧ (∀ y, y ≠ 4 → C' y = C y) ∧ (∀ y, y ≠ 36 → D' y = D y) ∧ ∀ j, j < 3 → D' 36 j = D 36 j := by
  intro d
  induction d with
  | zero =>
    intro nC nD i C D e hC hD h6 h2 h3 g
    obtain ⟨nC, rfl⟩ : ∃ q, nC = q + 1 := ⟨nC - 1, by omega⟩
    obtain ⟨nD, rfl⟩ : ∃ q, nD = q + 1 := ⟨nD - 1, by omega⟩
    refine ⟨C, D, ?_, ?_, g, fun _ _ => rfl, fun _ _ => rfl, fun _ _ => rfl⟩
    · rw [Tr_putBlock_L31, h6, if_pos (nI_le (by omega) (by omega))]
    · rw [Mo_blockComes_L90, if_pos (nI_le (by omega) (by omega)), wr_o (k := 1) (b := 2) (by omega)]
  | succ d ih =>
    intro nC nD i C D e hC hD h6 h2 h3 g
    obtain ⟨nC, rfl⟩ : ∃ q, nC = q + 1 := ⟨nC - 1, by omega⟩
    obtain ⟨nD, rfl⟩ : ∃ q, nD = q + 1 := ⟨nD - 1, by omega⟩
    obtain ⟨C1, D1, a1, a2, a3, a4, a5, a6⟩ := hst i C D (by omega) h6 h2 h3 g
    obtain ⟨C', D', b1, b2, b3, b4, b5, b6⟩ := ih nC nD (i + 1) C1 D1 (by omega) (by omega) (by omega) (by rw [a4 1 (by omega)]; exact h6) (by rw [a4 3 (by omega)]; exact h2) (by rw [a4 3 (by omega)]; exact h3) a3
    exact ⟨C', D', by rw [a1]; exact b1, by rw [a2]; exact b2, b3, fun y hy => by rw [b4 y hy, a4 y hy], fun y hy => by rw [b5 y hy, a5 y hy], fun j hj => by rw [b6 j hj, a6 j hj]⟩
def blkC (v1 v2 : Int32) (M : Mem) : Option (Int32 × Mem) := if v1 = 3 then (Tr_readBlock_b85 v1 v2 ((M 3 2) + (M 1 6)) 1 M) else
  Tr_readBlock_b85 v1 v2 ((M 3 2) + (M 1 6)) 0 M
theorem blk_eq {C D : Mem} {L v x r w : Nat} (hL : L = 2 ∨ L = 3 ∨ L = 4 ∨ L = 5) (c6 : C 1 6 = nI v) (c2 : C 3 2 = nI r) (c3 : C 3 3 = nI w) (d1 : D 36 1 = nI r) (d2 : D 36 2 = nI w) : ∃ e1 e2 : Nat, e1 ≤ 1 ∧ e2 ≤ 1 ∧ (L = 2 → e1 = 0 ∧ e2 = 1) ∧ (L = 3 → e1 = 1 ∧ e2 = 0) ∧ (L = 4 ∨ L = 5 → e1 = 0 ∧ e2 = 0) ∧ blkC (nI L) (nI x) C = Tr_readBlock_b110 (nI L) (nI x) (nI (r + v + e1)) (nI (w + v)) (nI e2) C ∧ Mo_blockComes (nI (L - 1)) (nI v) (nI x) D = Mo_blockComes_b42 (nI (L - 1)) (nI v) (nI x) (nI r) (nI w) (nI (v + e1)) (nI (v + e2)) D := by
  rcases hL with rfl | rfl | rfl | rfl
  · refine ⟨0, 1, by omega, by omega, fun _ => ⟨rfl, rfl⟩, fun g => by omega, fun g => by omega, ?_, ?_⟩
    · unfold blkC Tr_readBlock_b85
      rw [if_neg (by decide), if_pos (by decide), c2, c6, c3, nIa, nIa, show nI (r + v) + 0 = nI (r + v + 0) from nIa (r + v) 0]
      rfl
    · unfold Mo_blockComes Mo_blockComes_b28
      rw [if_neg (by decide), if_pos (by decide), d1, d2, nI_1]
      rfl
  · refine ⟨1, 0, by omega, by omega, fun g => by omega, fun _ => ⟨rfl, rfl⟩, fun g => by omega, ?_, ?_⟩
    · unfold blkC Tr_readBlock_b85
      rw [if_pos (by decide), if_neg (by decide), c2, c6, c3, nIa, nIa, nI_1]
      rfl
    · unfold Mo_blockComes Mo_blockComes_b28
      rw [if_pos (by decide), if_neg (by decide), d1, d2, nI_1]
      rfl
  · refine ⟨0, 0, by omega, by omega, fun g => by omega, fun g => by omega, fun _ => ⟨rfl, rfl⟩, ?_, ?_⟩
    · unfold blkC Tr_readBlock_b85
      rw [if_neg (by decide), if_neg (by decide), c2, c6, c3, nIa, nIa, show nI (r + v) + 0 = nI (r + v + 0) from nIa (r + v) 0]
      rfl
    · unfold Mo_blockComes Mo_blockComes_b28
      rw [if_neg (by decide), if_neg (by decide), d1, d2]
      rfl
  · refine ⟨0, 0, by omega, by omega, fun g => by omega, fun g => by omega, fun _ => ⟨rfl, rfl⟩, ?_, ?_⟩
    · unfold blkC Tr_readBlock_b85
      rw [if_neg (by decide), if_neg (by decide), c2, c6, c3, nIa, nIa, show nI (r + v) + 0 = nI (r + v + 0) from nIa (r + v) 0]
      rfl
    · unfold Mo_blockComes Mo_blockComes_b28
      rw [if_neg (by decide), if_neg (by decide), d1, d2]
      rfl
theorem block {k : Nat} {b : Nat → Nat} {C D : Mem} {q st v L x : Nat} (hS : ST k b C D q) (hT : TF C D 2 st v) (hL : L = 2 ∨ L = 3 ∨ L = 4 ∨ L = 5) (hv4 : v ≤ 4) (hx : x ≤ 6) (hxh : L = 5 → nI x ≤ C 1 8) :
    (∃ C' D', blkC (nI L) (nI x) C = some (0, C') ∧ Mo_blockComes (nI (L - 1)) (nI v) (nI x) D = some D' ∧ FA C' D' ∧ GC C C' ∧ GD D D') ∨
    (∃ C' D', blkC (nI L) (nI x) C = some (1, C') ∧ Mo_blockComes (nI (L - 1)) (nI v) (nI x) D = some D' ∧ ST k b C' D' q ∧ GC C C' ∧ GD D D') := by
  obtain ⟨sC, sD, s3, s8, hqk, s10, s12, ⟨p, r, w, h, hp, hr, hw, a1, a2, a3, d0, d1, d2, x8, x4, h6, hV⟩, hpT⟩ := id hS
  obtain ⟨t4, t10, c5, d9, t6⟩ := id hT
  obtain ⟨c6, d11⟩ := t6 rfl
  obtain ⟨e1, e2, l1, l2, k2, k3, k4, eC, eD⟩ := blk_eq (C := C) (D := D) (L := L) (v := v) (x := x) hL c6 a2 a3 d1 d2
  rw [eC, eD]
  have bad : r + v + e1 ≤ 4 ∧ w + v + e2 ≤ 4 ∨ (∃ C' D', Tr_readBlock_b110 (nI L) (nI x) (nI (r + v + e1)) (nI (w + v)) (nI e2) C = some (0, C') ∧ Mo_blockComes_b42 (nI (L - 1)) (nI v) (nI x) (nI r) (nI w) (nI (v + e1)) (nI (v + e2)) D = some D' ∧ FA C' D' ∧ GC C C' ∧ GD D D') := by
    by_cases z : r + v + e1 ≤ 4 ∧ w + v + e2 ≤ 4
    · exact .inl z
    · refine .inr ⟨wr (wr C 1 10 (nI 5)) 1 11 (nI st), wr (wr D 32 12 (nI 5)) 32 13 (nI st), ?_, ?_, FA.set (by omega) (by omega), GC.st, GD.st⟩
      · have eb : Tr_readBlock_b125 C = some (0, wr (wr C 1 10 (nI 5)) 1 11 (nI st)) := by
          rw [Tr_readBlock_b125, stop_ok, bd_s, if_pos z01_0, c5]; rfl
        rw [Tr_readBlock_b110, eb, nIa]
        by_cases z1 : r + v + e1 ≤ 4
        · rw [if_neg (show ¬ (4 : Int32) < nI (r + v + e1) from nI_nlt (a := 4) z1 (by omega)), if_neg (show ¬ nI (w + v + e2) ≤ (4 : Int32) from nI_ge (a := 4) (by omega) (by omega))]
        · rw [if_pos (show (4 : Int32) < nI (r + v + e1) from nI_lt (a := 4) (by omega) (by omega))]
      · have eb : Mo_blockComes_b74 (nI (L - 1)) (nI v) (nI x) (nI r) (nI w) (nI (v + e1)) (nI (v + e2)) D = some (wr (wr D 32 12 (nI 5)) 32 13 (nI st)) := by
          rw [Mo_blockComes_b74, Mo_blockComes_b75, req0 (v := nI st) s12 d9, bv_s, Mo_blockComes_b79, wr_o (k := 13) (b := 12) (by omega), wr_s, if_neg (by decide)]; rfl
        rw [Mo_blockComes_b42, if_pos s12, eb, nIa, nIa]
        by_cases z1 : r + v + e1 ≤ 4
        · rw [if_neg (show ¬ (4 : Int32) < nI (r + (v + e1)) from nI_nlt (a := 4) (by omega) (by omega)), if_pos (show (4 : Int32) < nI (w + (v + e2)) from nI_lt (a := 4) (by omega) (by omega))]
        · rw [if_pos (show (4 : Int32) < nI (r + (v + e1)) from nI_lt (a := 4) (by omega) (by omega))]
  rcases bad with ⟨hm, hn⟩ | hb
  · refine .inr ?_
    have step : ∀ i C D, i < v → C 1 6 = nI v → C 3 2 = nI (r + v + e1) → C 3 3 = nI (w + v + e2) → VR C D (r + v + e1) (w + v + e2) h → Dst L v x r w (r + v + e1) (w + v + e2) (v + e1) (v + e2) i h C D := by
      intro i C D hi y6 y2 y3 g
      rcases hL with rfl | rfl | rfl | rfl
      · obtain ⟨f1, f2⟩ := k2 rfl
        exact dst2 hv4 hi y6 y2 y3 (by omega) (by omega) hm hn g
      · obtain ⟨f1, f2⟩ := k3 rfl
        exact dst3 hv4 hi y6 y2 y3 (by omega) (by omega) hm hn g
      · obtain ⟨f1, f2⟩ := k4 (.inl rfl)
        exact dst4 hv4 hi y6 y2 y3 (by omega) (by omega) hm hn g
      · obtain ⟨f1, f2⟩ := k4 (.inr rfl)
        exact dst5 hv4 hi y6 y2 y3 (by omega) (by omega) hm hn hx (by rw [← x8]; exact hxh rfl) g
    have hV' : VR C D r w h := hV
    obtain ⟨C', D', g1, g2, g3, g4, g5, g6⟩ := drawL (L := L) (v := v) (x := x) (r := r) (w := w) (m := r + v + e1) (n := w + v + e2) (hg := v + e1) (wd := v + e2) (h := h) hv4 step v FU FU 0 (wr (wr C 3 2 (nI (r + v + e1))) 3 3 (nI (w + v + e2))) D (by omega) (FU_lt (by omega)) (FU_lt (by omega)) (by rw [wr_ne (by omega), wr_ne (by omega)]; exact c6) (by rw [wr_o (by omega), wr_s]) wr_s (hV'.grow (by omega) (by omega) (by rw [wr_ne (by omega), wr_ne (by omega)]) (fun _ _ => rfl))
    have y1 : ∀ y, y ≠ 3 → y ≠ 4 → C' y = C y := fun y h3 h4 => by rw [g4 y h4, wr_ne h3, wr_ne h3]
    have gc : GC C C' := ⟨fun y _ h3 h4 => y1 y h3 h4, by rw [y1 1 (by omega) (by omega)], by rw [y1 1 (by omega) (by omega)]⟩
    have gd : GD D (wr (wr D' 36 1 (D' 36 1 + nI (v + e1))) 36 2 (D' 36 2 + nI (v + e2))) := ⟨fun y _ h36 => by rw [wr_ne h36, wr_ne h36, g5 y h36], fun j _ => by rw [wr_ne (by omega), wr_ne (by omega), g5 32 (by omega)]⟩
    refine ⟨C', wr (wr D' 36 1 (D' 36 1 + nI (v + e1))) 36 2 (D' 36 2 + nI (v + e2)), ?_, ?_, ⟨sC.G gc, sD.G gd, by rw [y1 1 (by omega) (by omega)]; exact s3, by rw [wr_ne (by omega), wr_ne (by omega), g5 32 (by omega)]; exact s8, hqk, by rw [y1 1 (by omega) (by omega)]; exact s10, by rw [wr_ne (by omega), wr_ne (by omega), g5 32 (by omega)]; exact s12, ⟨p, r + v + e1, w + v + e2, h, hp, hm, hn, ?_, ?_, ?_, ?_, ?_, ?_, ?_, ?_, h6, ?_⟩, hpT.mv (by rw [y1 1 (by omega) (by omega)]) (by rw [wr_ne (by omega), wr_ne (by omega), g5 32 (by omega)])⟩, gc, gd⟩
    · rw [Tr_readBlock_b110, if_neg (show ¬ (4 : Int32) < nI (r + v + e1) from nI_nlt (a := 4) hm (by omega)), nIa, if_pos (show nI (w + v + e2) ≤ (4 : Int32) from nI_le (b := 4) hn (by omega))]
      unfold Tr_putBlock Pa_growTo
      rw [if_pos (show isP 3 = true from rfl), if_neg (show ¬ nI (r + v + e1) > (4 : Int32) from nI_nlt (a := 4) hm (by omega)), if_neg (show ¬ nI (w + v + e2) > (4 : Int32) from nI_nlt (a := 4) hn (by omega)), bv_s, a2, a3]
      have g1' : Tr_putBlock_L31 FU (nI L) (nI x) (nI r) (nI w) 0 (wr (wr C 3 2 (nI (r + v + e1))) 3 3 (nI (w + v + e2))) = some C' := g1
      rw [g1', bv_s]
    · rw [Mo_blockComes_b42, if_pos s12, nIa, nIa, if_neg (show ¬ (4 : Int32) < nI (r + (v + e1)) from nI_nlt (a := 4) (by omega) (by omega)), if_neg (show ¬ (4 : Int32) < nI (w + (v + e2)) from nI_nlt (a := 4) (by omega) (by omega)), Mo_blockComes_b75, req1, bv_s, Mo_blockComes_b79, s12, if_pos (by decide)]
      exact g2
    · rw [g4 3 (by omega), wr_o (by omega), wr_o (by omega)]; exact a1
    · rw [g4 3 (by omega), wr_o (by omega), wr_s]
    · rw [g4 3 (by omega), wr_s]
    · rw [wr_o (by omega), wr_o (by omega), g6 0 (by omega)]; exact d0
    · rw [wr_o (by omega), wr_s, g6 1 (by omega), d1, nIa, show r + (v + e1) = r + v + e1 by omega]
    · rw [wr_s, g6 2 (by omega), d2, nIa, show w + (v + e2) = w + v + e2 by omega]
    · rw [y1 1 (by omega) (by omega)]; exact x8
    · rw [wr_ne (by omega), wr_ne (by omega), g5 32 (by omega)]; exact x4
    · exact g3.grow (Nat.le_refl _) (Nat.le_refl _) rfl (fun j hj => by rw [wr_o (by omega), wr_o (by omega)])
  · exact .inl hb
