/-! PURE: text, a block is drawn -/
def VR (C D : Mem) (r w : Nat) (h : Int32) : Prop := ∀ t i j, t < 2 → i < 4 → j < 4 → ∃ v, v ≤ 6 ∧ C 4 (16 * t + 4 * i + j) = nI v ∧ D 36 (3 + (16 * t + 4 * i + j)) = nI v ∧ (v ≤ 1 ∨ nI v ≤ h) ∧ (r ≤ i ∨ w ≤ j → v = 0)
theorem VR.put {C D : Mem} {r w t i j v : Nat} {h : Int32} (g : VR C D r w h) (hr : r ≤ 4) (hw : w ≤ 4) (ht : t < 2) (hi : i < r) (hj : j < w) (hv : v ≤ 6) (hh : v ≤ 1 ∨ nI v ≤ h) : VR (wr C 4 (16 * t + 4 * i + j) (nI v)) (wr D 36 (3 + (16 * t + 4 * i + j)) (nI v)) r w h := by
  intro t' i' j' a1 a2 a3
  by_cases q : 16 * t' + 4 * i' + j' = 16 * t + 4 * i + j
  · obtain ⟨_, b2, b3⟩ := pos_inj a2 a3 (by omega) (by omega) q
    rw [q]
    exact ⟨v, hv, wr_s, wr_s, hh, fun z => by omega⟩
  · obtain ⟨x, x1, x2, x3, x4, x5⟩ := g t' i' j' a1 a2 a3
    exact ⟨x, x1, by rw [wr_o q]; exact x2, by rw [wr_o (by omega)]; exact x3, x4, x5⟩
theorem VR.grow {C D C' D' : Mem} {r w r' w' : Nat} {h : Int32} (g : VR C D r w h) (h1 : r ≤ r') (h2 : w ≤ w') (h4 : C' 4 = C 4) (h36 : ∀ j, 3 ≤ j → D' 36 j = D 36 j) : VR C' D' r' w' h := by
  intro t i j a1 a2 a3
  obtain ⟨x, x1, x2, x3, x4, x5⟩ := g t i j a1 a2 a3
  exact ⟨x, x1, by rw [h4]; exact x2, by rw [h36 _ (by omega)]; exact x3, x4, fun z => x5 (by omega)⟩
theorem wr_cm {M : Mem} {c k1 k2 : Nat} {v1 v2 : Int32} (h : k1 ≠ k2) : wr (wr M c k1 v1) c k2 v2 = wr (wr M c k2 v2) c k1 v1 := by
  funext a b
  simp only [wr_g]
  grind
theorem pv {C : Mem} {m n t a c : Nat} {v : Int32} (h2 : C 3 2 = nI m) (h3 : C 3 3 = nI n) (hm : m ≤ 4) (hn : n ≤ 4) (ht : t < 2) (ha : a < m) (hc : c < n) : Pa_putValue 3 (nI t) (nI a) (nI c) v C = some (wr C 4 (16 * t + 4 * a + c) v) := putValue_in rfl h2 h3 hm hn ht ha hc
theorem pvo {C : Mem} {m n a c : Nat} {t v : Int32} (h2 : C 3 2 = nI m) (h3 : C 3 3 = nI n) (hn : n ≤ c) (hc : c < 100) : Pa_putValue 3 t (nI a) (nI c) v C = some C := putValue_out rfl h2 h3 (fun g => nI_nlt hn (by omega) g.2.2.2.2.2)
theorem drw {D : Mem} {t i j : Nat} {v : Int32} (ht : t < 2) (hi : i < 4) (hj : j < 4) : Mo_draws (nI t) (nI i) (nI j) v D = some (wr D 36 (3 + (16 * t + 4 * i + j)) v) := by
  unfold Mo_draws
  rw [spm, if_pos (ibn (by omega) (by omega)), ixn (by omega)]
theorem b194_s {k90 : Int32 → Int32 → Int32 → Int32 → Int32 → Int32 → Int32 → Int32 → Mem → Option Mem} {v1 v2 v3 v4 v5 v6 v7 v8 : Int32} {M : Mem} (h3 : ¬ v1 = 3) (h4 : ¬ v1 = 4) : Mo_blockComes_b194 k90 v1 v2 v3 v4 v5 v6 v7 v8 M = k90 v1 v2 v3 v4 v5 v6 v7 (v8 + 1) M := by
  unfold Mo_blockComes_b194 Mo_blockComes_b239
  rw [if_neg h3, if_neg h4]
  split <;> rfl
/-- what a turn of the loop does -/
def Dst (L v x r w m n hg wd i : Nat) (h : Int32) (C D : Mem) : Prop := ∃ C1 D1, (∀ z, Tr_putBlock_L31 (z + 1) (nI L) (nI x) (nI r) (nI w) (nI i) C = Tr_putBlock_L31 z (nI L) (nI x) (nI r) (nI w) (nI (i + 1)) C1) ∧ (∀ z, Mo_blockComes_L90 (z + 1) (nI (L - 1)) (nI v) (nI x) (nI r) (nI w) (nI hg) (nI wd) (nI i) D = Mo_blockComes_L90 z (nI (L - 1)) (nI v) (nI x) (nI r) (nI w) (nI hg) (nI wd) (nI (i + 1)) D1) ∧ VR C1 D1 m n h ∧ (∀ y, y ≠ 4 → C1 y = C y) ∧ (∀ y, y ≠ 36 → D1 y = D y) ∧ ∀ j, j < 3 → D1 36 j = D 36 j
theorem dst2 {v x r w m n hg wd i : Nat} {h : Int32} {C D : Mem} (hv : v ≤ 4) (hi : i < v) (h6 : C 1 6 = nI v) (h2 : C 3 2 = nI m) (h3 : C 3 3 = nI n) (hm : m = r + v) (hn : n = w + v + 1) (hm4 : m ≤ 4) (hn4 : n ≤ 4) (g : VR C D m n h) : Dst 2 v x r w m n hg wd i h C D := by
  refine ⟨wr (wr C 4 (16 * 0 + 4 * (r + i) + (w + i)) (nI 1)) 4 (16 * 1 + 4 * (r + i) + (w + i + 1)) (nI 1), wr (wr D 36 (3 + (16 * 0 + 4 * (r + i) + (w + i))) (nI 1)) 36 (3 + (16 * 1 + 4 * (r + i) + (w + i + 1))) (nI 1), fun z => ?_, fun z => ?_, ?_, fun y hy => by rw [wr_ne hy, wr_ne hy], fun y hy => by rw [wr_ne hy, wr_ne hy], fun j hj => by rw [wr_o (by omega), wr_o (by omega)]⟩
  · have p1 : Pa_putValue 3 0 (nI (r + i)) (nI (w + i)) 1 C = some (wr C 4 (16 * 0 + 4 * (r + i) + (w + i)) (nI 1)) := pv (t := 0) h2 h3 hm4 hn4 (by omega) (by omega) (by omega)
    have p2 : Pa_putValue 3 1 (nI (r + i)) (nI (w + i + 1)) 1 (wr C 4 (16 * 0 + 4 * (r + i) + (w + i)) (nI 1)) = some (wr (wr C 4 (16 * 0 + 4 * (r + i) + (w + i)) (nI 1)) 4 (16 * 1 + 4 * (r + i) + (w + i + 1)) (nI 1)) := pv (t := 1) (m := m) (n := n) (by rw [wr_ne (by omega)]; exact h2) (by rw [wr_ne (by omega)]; exact h3) hm4 hn4 (by omega) (by omega) (by omega)
    rw [Tr_putBlock_L31, h6, if_neg (nI_ge hi (by omega)), if_neg (by decide), if_neg (by decide), nIa, nIa, nI_1, p1, bv_s, p2, bv_s, Tr_putBlock_b167, nI_1]
  · have q1 : Mo_draws 0 (nI (r + i)) (nI (w + i)) 1 D = some (wr D 36 (3 + (16 * 0 + 4 * (r + i) + (w + i))) (nI 1)) := drw (t := 0) (by omega) (by omega) (by omega)
    have q2 : Mo_draws 1 (nI (r + i)) (nI (w + i + 1)) 1 (wr D 36 (3 + (16 * 0 + 4 * (r + i) + (w + i))) (nI 1)) = some (wr (wr D 36 (3 + (16 * 0 + 4 * (r + i) + (w + i))) (nI 1)) 36 (3 + (16 * 1 + 4 * (r + i) + (w + i + 1))) (nI 1)) := drw (t := 1) (by omega) (by omega) (by omega)
    rw [show 2 - 1 = 1 from rfl, Mo_blockComes_L90, if_neg (nI_ge hi (by omega)), if_neg (by decide), Mo_blockComes_b118, nIa, nIa, nI_1, q1, bv_s, if_pos (by decide), q2, bv_s, b194_s (by decide) (by decide), nI_1]
  · exact (g.put hm4 hn4 (t := 0) (i := r + i) (j := w + i) (v := 1) (by omega) (by omega) (by omega) (by omega) (.inl (by omega))).put hm4 hn4 (t := 1) (i := r + i) (j := w + i + 1) (v := 1) (by omega) (by omega) (by omega) (by omega) (.inl (by omega))
theorem dst3 {v x r w m n hg wd i : Nat} {h : Int32} {C D : Mem} (hv : v ≤ 4) (hi : i < v) (h6 : C 1 6 = nI v) (h2 : C 3 2 = nI m) (h3 : C 3 3 = nI n) (hm : m = r + v + 1) (hn : n = w + v) (hm4 : m ≤ 4) (hn4 : n ≤ 4) (g : VR C D m n h) : Dst 3 v x r w m n hg wd i h C D := by
  refine ⟨wr (wr C 4 (16 * 0 + 4 * (r + i) + (w + i)) (nI 1)) 4 (16 * 1 + 4 * (r + i + 1) + (w + i)) (nI 1), wr (wr D 36 (3 + (16 * 0 + 4 * (r + i) + (w + i))) (nI 1)) 36 (3 + (16 * 1 + 4 * (r + i + 1) + (w + i))) (nI 1), fun z => ?_, fun z => ?_, ?_, fun y hy => by rw [wr_ne hy, wr_ne hy], fun y hy => by rw [wr_ne hy, wr_ne hy], fun j hj => by rw [wr_o (by omega), wr_o (by omega)]⟩
  · have p1 : Pa_putValue 3 0 (nI (r + i)) (nI (w + i)) 1 C = some (wr C 4 (16 * 0 + 4 * (r + i) + (w + i)) (nI 1)) := pv (t := 0) h2 h3 hm4 hn4 (by omega) (by omega) (by omega)
    have p2 : Pa_putValue 3 1 (nI (r + i + 1)) (nI (w + i)) 1 (wr C 4 (16 * 0 + 4 * (r + i) + (w + i)) (nI 1)) = some (wr (wr C 4 (16 * 0 + 4 * (r + i) + (w + i)) (nI 1)) 4 (16 * 1 + 4 * (r + i + 1) + (w + i)) (nI 1)) := pv (t := 1) (m := m) (n := n) (by rw [wr_ne (by omega)]; exact h2) (by rw [wr_ne (by omega)]; exact h3) hm4 hn4 (by omega) (by omega) (by omega)
    rw [Tr_putBlock_L31, h6, if_neg (nI_ge hi (by omega)), if_neg (by decide), if_pos (by decide), nIa, nIa, nI_1, p1, bv_s, p2, bv_s, Tr_putBlock_b167, nI_1]
  · have q1 : Mo_draws 0 (nI (r + i)) (nI (w + i)) 1 D = some (wr D 36 (3 + (16 * 0 + 4 * (r + i) + (w + i))) (nI 1)) := drw (t := 0) (by omega) (by omega) (by omega)
    have q2 : Mo_draws 1 (nI (r + i + 1)) (nI (w + i)) 1 (wr D 36 (3 + (16 * 0 + 4 * (r + i) + (w + i))) (nI 1)) = some (wr (wr D 36 (3 + (16 * 0 + 4 * (r + i) + (w + i))) (nI 1)) 36 (3 + (16 * 1 + 4 * (r + i + 1) + (w + i))) (nI 1)) := drw (t := 1) (by omega) (by omega) (by omega)
    rw [show 3 - 1 = 2 from rfl, Mo_blockComes_L90, if_neg (nI_ge hi (by omega)), if_neg (by decide), Mo_blockComes_b118, nIa, nIa, nI_1, q1, bv_s, if_neg (by decide), if_pos (by decide), nI_1, q2, bv_s, b194_s (by decide) (by decide), nI_1]
  · exact (g.put hm4 hn4 (t := 0) (i := r + i) (j := w + i) (v := 1) (by omega) (by omega) (by omega) (by omega) (.inl (by omega))).put hm4 hn4 (t := 1) (i := r + i + 1) (j := w + i) (v := 1) (by omega) (by omega) (by omega) (by omega) (.inl (by omega))
theorem dst4 {v x r w m n hg wd i : Nat} {h : Int32} {C D : Mem} (hv : v ≤ 4) (hi : i < v) (h6 : C 1 6 = nI v) (h2 : C 3 2 = nI m) (h3 : C 3 3 = nI n) (hm : m = r + v) (hn : n = w + v) (hm4 : m ≤ 4) (hn4 : n ≤ 4) (g : VR C D m n h) : Dst 4 v x r w m n hg wd i h C D := by
  have p1 : Pa_putValue 3 0 (nI (r + i)) (nI (w + i)) 1 C = some (wr C 4 (16 * 0 + 4 * (r + i) + (w + i)) (nI 1)) := pv (t := 0) h2 h3 hm4 hn4 (by omega) (by omega) (by omega)
  have q1 : Mo_draws 0 (nI (r + i)) (nI (w + i)) 1 D = some (wr D 36 (3 + (16 * 0 + 4 * (r + i) + (w + i))) (nI 1)) := drw (t := 0) (by omega) (by omega) (by omega)
  have g1 := g.put hm4 hn4 (t := 0) (i := r + i) (j := w + i) (v := 1) (by omega) (by omega) (by omega) (by omega) (.inl (by omega))
  have c2 : wr C 4 (16 * 0 + 4 * (r + i) + (w + i)) (nI 1) 3 2 = nI m := by rw [wr_ne (by omega)]; exact h2
  have c3 : wr C 4 (16 * 0 + 4 * (r + i) + (w + i)) (nI 1) 3 3 = nI n := by rw [wr_ne (by omega)]; exact h3
  by_cases e : i + 1 < v
  · refine ⟨wr (wr C 4 (16 * 0 + 4 * (r + i) + (w + i)) (nI 1)) 4 (16 * 1 + 4 * (r + i) + (w + i + 1)) (nI 1), wr (wr D 36 (3 + (16 * 0 + 4 * (r + i) + (w + i))) (nI 1)) 36 (3 + (16 * 1 + 4 * (r + i) + (w + i + 1))) (nI 1), fun z => ?_, fun z => ?_, ?_, fun y hy => by rw [wr_ne hy, wr_ne hy], fun y hy => by rw [wr_ne hy, wr_ne hy], fun j hj => by rw [wr_o (by omega), wr_o (by omega)]⟩
    · have p2 : Pa_putValue 3 1 (nI (r + i)) (nI (w + i + 1)) 1 (wr C 4 (16 * 0 + 4 * (r + i) + (w + i)) (nI 1)) = some (wr (wr C 4 (16 * 0 + 4 * (r + i) + (w + i)) (nI 1)) 4 (16 * 1 + 4 * (r + i) + (w + i + 1)) (nI 1)) := pv (t := 1) c2 c3 hm4 hn4 (by omega) (by omega) (by omega)
      rw [Tr_putBlock_L31, h6, if_neg (nI_ge hi (by omega)), if_neg (by decide), if_neg (by decide), nIa, nIa, nI_1, p1, bv_s, p2, bv_s, Tr_putBlock_b167, nI_1]
    · have q2 : Mo_draws 1 (nI (r + i)) (nI (w + i + 1)) 1 (wr D 36 (3 + (16 * 0 + 4 * (r + i) + (w + i))) (nI 1)) = some (wr (wr D 36 (3 + (16 * 0 + 4 * (r + i) + (w + i))) (nI 1)) 36 (3 + (16 * 1 + 4 * (r + i) + (w + i + 1))) (nI 1)) := drw (t := 1) (by omega) (by omega) (by omega)
      rw [show 4 - 1 = 3 from rfl, Mo_blockComes_L90, if_neg (nI_ge hi (by omega)), if_neg (by decide), Mo_blockComes_b118, nIa, nIa, q1, bv_s, if_neg (by decide), if_neg (by decide), if_neg (by decide), Mo_blockComes_b194, nI_1, if_neg (nI_ge e (by omega)), if_pos (by decide), Mo_blockComes_b212, if_pos (by decide), Mo_blockComes_b223, nIa, nIa, nI_1, q2, bv_s, Mo_blockComes_b239, nI_1]
    · exact g1.put hm4 hn4 (t := 1) (i := r + i) (j := w + i + 1) (v := 1) (by omega) (by omega) (by omega) (by omega) (.inl (by omega))
  · refine ⟨wr C 4 (16 * 0 + 4 * (r + i) + (w + i)) (nI 1), wr D 36 (3 + (16 * 0 + 4 * (r + i) + (w + i))) (nI 1), fun z => ?_, fun z => ?_, g1, fun y hy => by rw [wr_ne hy], fun y hy => by rw [wr_ne hy], fun j hj => by rw [wr_o (by omega)]⟩
    · have p2 : Pa_putValue 3 1 (nI (r + i)) (nI (w + i + 1)) 1 (wr C 4 (16 * 0 + 4 * (r + i) + (w + i)) (nI 1)) = some (wr C 4 (16 * 0 + 4 * (r + i) + (w + i)) (nI 1)) := pvo c2 c3 (by omega) (by omega)
      rw [Tr_putBlock_L31, h6, if_neg (nI_ge hi (by omega)), if_neg (by decide), if_neg (by decide), nIa, nIa, nI_1, p1, bv_s, p2, bv_s, Tr_putBlock_b167, nI_1]
    · rw [show 4 - 1 = 3 from rfl, Mo_blockComes_L90, if_neg (nI_ge hi (by omega)), if_neg (by decide), Mo_blockComes_b118, nIa, nIa, q1, bv_s, if_neg (by decide), if_neg (by decide), if_neg (by decide), Mo_blockComes_b194, nI_1, if_pos (nI_le (by omega) (by omega)), Mo_blockComes_b239, nI_1]
theorem dst5 {v x r w m n hg wd i : Nat} {h : Int32} {C D : Mem} (hv : v ≤ 4) (hi : i < v) (h6 : C 1 6 = nI v) (h2 : C 3 2 = nI m) (h3 : C 3 3 = nI n) (hm : m = r + v) (hn : n = w + v) (hm4 : m ≤ 4) (hn4 : n ≤ 4) (hx : x ≤ 6) (hxh : nI x ≤ h) (g : VR C D m n h) : Dst 5 v x r w m n hg wd i h C D := by
  have p1 : Pa_putValue 3 0 (nI (r + i)) (nI (w + i)) (nI x) C = some (wr C 4 (16 * 0 + 4 * (r + i) + (w + i)) (nI x)) := pv (t := 0) h2 h3 hm4 hn4 (by omega) (by omega) (by omega)
  have q1 : Mo_draws 0 (nI (r + i)) (nI (w + i)) (nI x) D = some (wr D 36 (3 + (16 * 0 + 4 * (r + i) + (w + i))) (nI x)) := drw (t := 0) (by omega) (by omega) (by omega)
  have q2 : Mo_draws 1 (nI (r + i)) (nI (w + i)) 1 (wr D 36 (3 + (16 * 0 + 4 * (r + i) + (w + i))) (nI x)) = some (wr (wr D 36 (3 + (16 * 0 + 4 * (r + i) + (w + i))) (nI x)) 36 (3 + (16 * 1 + 4 * (r + i) + (w + i))) (nI 1)) := drw (t := 1) (by omega) (by omega) (by omega)
  have g1 := g.put hm4 hn4 (t := 0) (i := r + i) (j := w + i) (v := x) (by omega) (by omega) (by omega) hx (.inr hxh)
  have c2 : wr C 4 (16 * 0 + 4 * (r + i) + (w + i)) (nI x) 3 2 = nI m := by rw [wr_ne (by omega)]; exact h2
  have c3 : wr C 4 (16 * 0 + 4 * (r + i) + (w + i)) (nI x) 3 3 = nI n := by rw [wr_ne (by omega)]; exact h3
  by_cases e : i + 1 < v
  · have g2 := g1.put hm4 hn4 (t := 0) (i := r + i) (j := w + i + 1) (v := 1) (by omega) (by omega) (by omega) (by omega) (.inl (by omega))
    have g3 := g2.put hm4 hn4 (t := 1) (i := r + i) (j := w + i) (v := 1) (by omega) (by omega) (by omega) (by omega) (.inl (by omega))
    refine ⟨_, _, fun z => ?_, fun z => ?_, g3, fun y hy => by rw [wr_ne hy, wr_ne hy, wr_ne hy], fun y hy => by rw [wr_ne hy, wr_ne hy, wr_ne hy], fun j hj => by rw [wr_o (by omega), wr_o (by omega), wr_o (by omega)]⟩
    · have p2 : Pa_putValue 3 0 (nI (r + i)) (nI (w + i + 1)) 1 (wr C 4 (16 * 0 + 4 * (r + i) + (w + i)) (nI x)) = some (wr (wr C 4 (16 * 0 + 4 * (r + i) + (w + i)) (nI x)) 4 (16 * 0 + 4 * (r + i) + (w + i + 1)) (nI 1)) := pv (t := 0) c2 c3 hm4 hn4 (by omega) (by omega) (by omega)
      have p3 : Pa_putValue 3 1 (nI (r + i)) (nI (w + i)) 1 (wr (wr C 4 (16 * 0 + 4 * (r + i) + (w + i)) (nI x)) 4 (16 * 0 + 4 * (r + i) + (w + i + 1)) (nI 1)) = some (wr (wr (wr C 4 (16 * 0 + 4 * (r + i) + (w + i)) (nI x)) 4 (16 * 0 + 4 * (r + i) + (w + i + 1)) (nI 1)) 4 (16 * 1 + 4 * (r + i) + (w + i)) (nI 1)) := pv (t := 1) (m := m) (n := n) (by rw [wr_ne (by omega)]; exact c2) (by rw [wr_ne (by omega)]; exact c3) hm4 hn4 (by omega) (by omega) (by omega)
      rw [Tr_putBlock_L31, h6, if_neg (nI_ge hi (by omega)), if_pos (by decide), nIa, nIa, nI_1, p1, bv_s, p2, bv_s, p3, bv_s, Tr_putBlock_b167, nI_1]
    · have q3 : Mo_draws 0 (nI (r + i)) (nI (w + i + 1)) 1 (wr (wr D 36 (3 + (16 * 0 + 4 * (r + i) + (w + i))) (nI x)) 36 (3 + (16 * 1 + 4 * (r + i) + (w + i))) (nI 1)) = some (wr (wr (wr D 36 (3 + (16 * 0 + 4 * (r + i) + (w + i))) (nI x)) 36 (3 + (16 * 1 + 4 * (r + i) + (w + i))) (nI 1)) 36 (3 + (16 * 0 + 4 * (r + i) + (w + i + 1))) (nI 1)) := drw (t := 0) (by omega) (by omega) (by omega)
      rw [show 5 - 1 = 4 from rfl, Mo_blockComes_L90, if_neg (nI_ge hi (by omega)), if_pos (by decide), Mo_blockComes_b118, nIa, nIa, q1, bv_s, if_neg (by decide), if_neg (by decide), if_pos (by decide), q2, bv_s, Mo_blockComes_b194, nI_1, if_neg (nI_ge e (by omega)), if_neg (by decide), if_pos (by decide), Mo_blockComes_b212, if_neg (by decide), Mo_blockComes_b223, nIa, nIa, nI_1, q3, bv_s, Mo_blockComes_b239, nI_1, wr_cm (k1 := 3 + (16 * 1 + 4 * (r + i) + (w + i))) (by omega)]
  · have g3 := g1.put hm4 hn4 (t := 1) (i := r + i) (j := w + i) (v := 1) (by omega) (by omega) (by omega) (by omega) (.inl (by omega))
    refine ⟨_, _, fun z => ?_, fun z => ?_, g3, fun y hy => by rw [wr_ne hy, wr_ne hy], fun y hy => by rw [wr_ne hy, wr_ne hy], fun j hj => by rw [wr_o (by omega), wr_o (by omega)]⟩
    · have p2 : Pa_putValue 3 0 (nI (r + i)) (nI (w + i + 1)) 1 (wr C 4 (16 * 0 + 4 * (r + i) + (w + i)) (nI x)) = some (wr C 4 (16 * 0 + 4 * (r + i) + (w + i)) (nI x)) := pvo c2 c3 (by omega) (by omega)
      have p3 : Pa_putValue 3 1 (nI (r + i)) (nI (w + i)) 1 (wr C 4 (16 * 0 + 4 * (r + i) + (w + i)) (nI x)) = some (wr (wr C 4 (16 * 0 + 4 * (r + i) + (w + i)) (nI x)) 4 (16 * 1 + 4 * (r + i) + (w + i)) (nI 1)) := pv (t := 1) c2 c3 hm4 hn4 (by omega) (by omega) (by omega)
      rw [Tr_putBlock_L31, h6, if_neg (nI_ge hi (by omega)), if_pos (by decide), nIa, nIa, nI_1, p1, bv_s, p2, bv_s, p3, bv_s, Tr_putBlock_b167, nI_1]
    · rw [show 5 - 1 = 4 from rfl, Mo_blockComes_L90, if_neg (nI_ge hi (by omega)), if_pos (by decide), Mo_blockComes_b118, nIa, nIa, q1, bv_s, if_neg (by decide), if_neg (by decide), if_pos (by decide), q2, bv_s, Mo_blockComes_b194, nI_1, if_pos (nI_le (by omega) (by omega)), Mo_blockComes_b239, nI_1]
