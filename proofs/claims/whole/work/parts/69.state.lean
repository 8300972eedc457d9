/-! PURE: text, both sides -/
def DRl (C D : Mem) : Prop := ∃ (p r w : Nat) (h : Int32), pr p ∧ r ≤ 4 ∧ w ≤ 4 ∧ C 3 1 = nI p ∧ C 3 2 = nI r ∧ C 3 3 = nI w ∧ D 36 0 = nI p ∧ D 36 1 = nI r ∧ D 36 2 = nI w ∧ C 1 8 = h ∧ D 32 4 = h ∧ h ≤ 6 ∧
  ∀ t i j, t < 2 → i < 4 → j < 4 → ∃ v, v ≤ 6 ∧ C 4 (16 * t + 4 * i + j) = nI v ∧ D 36 (3 + (16 * t + 4 * i + j)) = nI v ∧ (v ≤ 1 ∨ nI v ≤ h) ∧ (r ≤ i ∨ w ≤ j → v = 0)
def pT (C D : Mem) : Prop := (C 1 9 = 0 ∧ D 32 5 = 0) ∨ (C 1 9 = 1 ∧ D 32 5 = 1)
def ST (k : Nat) (b : Nat → Nat) (C D : Mem) (q : Nat) : Prop := SCt k b C ∧ SDt k b D ∧ C 1 3 = nI q ∧ D 32 8 = nI q ∧ q ≤ k ∧ C 1 10 = 0 ∧ D 32 12 = 0 ∧ DRl C D ∧ pT C D
def TF (C D : Mem) (kd st v : Nat) : Prop := C 1 4 = nI kd ∧ D 32 10 = nI kd ∧ C 1 5 = nI st ∧ D 32 9 = nI st ∧ (kd = 2 → C 1 6 = nI v ∧ D 32 11 = nI v)
def FA (C D : Mem) : Prop := ∃ f st : Nat, 0 < f ∧ f ≤ 6 ∧ C 1 10 = nI f ∧ D 32 12 = nI f ∧ C 1 11 = nI st ∧ D 32 13 = nI st
def GC (C C' : Mem) : Prop := (∀ y, y ≠ 1 → y ≠ 3 → y ≠ 4 → C' y = C y) ∧ C' 1 2 = C 1 2 ∧ C' 1 7 = C 1 7
def GD (D D' : Mem) : Prop := (∀ y, y ≠ 32 → y ≠ 36 → D' y = D y) ∧ ∀ j, j = 7 ∨ 14 ≤ j → D' 32 j = D 32 j
theorem GC.rf (C : Mem) : GC C C := ⟨fun _ _ _ _ => rfl, rfl, rfl⟩
theorem GD.rf (D : Mem) : GD D D := ⟨fun _ _ _ => rfl, fun _ _ => rfl⟩
theorem GC.tr {A B C : Mem} (h : GC A B) (g : GC B C) : GC A C := ⟨fun y a1 a2 a3 => by rw [g.1 y a1 a2 a3, h.1 y a1 a2 a3], by rw [g.2.1, h.2.1], by rw [g.2.2, h.2.2]⟩
theorem GD.tr {A B C : Mem} (h : GD A B) (g : GD B C) : GD A C := ⟨fun y a1 a2 => by rw [g.1 y a1 a2, h.1 y a1 a2], fun j hj => by rw [g.2 j hj, h.2 j hj]⟩
theorem GC.w1 {C : Mem} {j : Nat} {v : Int32} (h2 : 2 ≠ j) (h7 : 7 ≠ j) : GC C (wr C 1 j v) := ⟨fun y a1 _ _ => wr_ne a1, wr_o h2, wr_o h7⟩
theorem GC.wc {C : Mem} {c j : Nat} {v : Int32} (h : c = 3 ∨ c = 4) : GC C (wr C c j v) := ⟨fun y _ a2 a3 => wr_ne (by omega), by rw [wr_ne (by omega)], by rw [wr_ne (by omega)]⟩
theorem GD.w32 {D : Mem} {j : Nat} {v : Int32} (h7 : 7 ≠ j) (h : j < 14) : GD D (wr D 32 j v) := ⟨fun y a1 _ => wr_ne a1, fun i hi => wr_o (by omega)⟩
theorem GD.w36 {D : Mem} {j : Nat} {v : Int32} : GD D (wr D 36 j v) := ⟨fun y _ a2 => wr_ne a2, fun i hi => by rw [wr_ne (by omega)]⟩
theorem fC.G {C C' : Mem} (h : fC C C') : GC C C' := ⟨fun y a1 _ _ => h.1 y a1, h.2 2 (by omega) (by omega) (by omega) (by omega) (by omega) (by omega), h.2 7 (by omega) (by omega) (by omega) (by omega) (by omega) (by omega)⟩
theorem fD.G {D D' : Mem} (h : fD D D') : GD D D' := ⟨fun y a1 _ => h.1 y a1, fun j hj => h.2 j (by omega)⟩
theorem SCt.G {k : Nat} {b : Nat → Nat} {C C' : Mem} (h : SCt k b C) (g : GC C C') : SCt k b C' := h.mv g.2.1 (g.1 2 (by omega) (by omega) (by omega))
theorem SDt.G {k : Nat} {b : Nat → Nat} {D D' : Mem} (h : SDt k b D) (g : GD D D') : SDt k b D' := h.mv (g.2 7 (.inl rfl)) (g.1 37 (by omega) (by omega))
theorem DRl.mv {C D C' D' : Mem} (h : DRl C D) (h3 : C' 3 = C 3) (h4 : C' 4 = C 4) (h36 : D' 36 = D 36) (h8 : C' 1 8 = C 1 8) (hx : D' 32 4 = D 32 4) : DRl C' D' := by
  unfold DRl
  rw [h3, h4, h36, h8, hx]
  exact h
theorem pT.mv {C D C' D' : Mem} (h : pT C D) (h9 : C' 1 9 = C 1 9) (h5 : D' 32 5 = D 32 5) : pT C' D' := by
  unfold pT
  rw [h9, h5]
  exact h
/-- a token on both sides -/
theorem tok {k : Nat} {b : Nat → Nat} {C D : Mem} {p : Nat} (h : ST k b C D p) : (∃ kd st q v C' D', Tk k b p kd st q v ∧ Tr_readToken C = some (1, C') ∧ Mo_reads D = some D' ∧ ST k b C' D' q ∧ TF C' D' kd st v ∧ GC C C' ∧ GD D D' ∧ C' 1 8 = C 1 8) ∨ (∃ C' D', Tr_readToken C = some (0, C') ∧ Mo_reads D = some D' ∧ FA C' D' ∧ GC C C' ∧ GD D D') := by
  obtain ⟨hC, hD, h3, h8, hpk, h10, h12, hDR, hpT⟩ := h
  rcases Tk_ex k b p with ⟨kd, st, q, v, ht⟩ | ⟨st, ht⟩
  · obtain ⟨C', e1, c3, c4, c5, c6, c10, fc⟩ := rtC_ok hC h3 hpk ht
    obtain ⟨D', e2, d8, d10, d9, d11, d12, fd⟩ := rtD_ok hD h8 h12 hpk ht
    have bn := ht.bnd hpk
    exact .inl ⟨kd, st, q, v, C', D', ht, e1, e2, ⟨hC.G fc.G, hD.G fd.G, c3, d8, bn.2.2.1, by rw [c10]; exact h10, d12, hDR.mv (fc.1 3 (by omega)) (fc.1 4 (by omega)) (fd.1 36 (by omega)) (fc.2 8 (by omega) (by omega) (by omega) (by omega) (by omega) (by omega)) (fd.2 4 (by omega)), hpT.mv (fc.2 9 (by omega) (by omega) (by omega) (by omega) (by omega) (by omega)) (fd.2 5 (by omega))⟩, ⟨c4, d10, c5, d9, fun g => ⟨c6 g, d11 g⟩⟩, fc.G, fd.G, fc.2 8 (by omega) (by omega) (by omega) (by omega) (by omega) (by omega)⟩
  · obtain ⟨C', e1, c10, c11, fc⟩ := rtC_no hC h3 hpk ht
    obtain ⟨D', e2, d12, d13, fd⟩ := rtD_no hD h8 h12 hpk ht
    exact .inr ⟨C', D', e1, e2, ⟨1, st, by omega, by omega, c10, d12, c11, d13⟩, fc.G, fd.G⟩
theorem FA.n0 {C D : Mem} (h : FA C D) : ¬ D 32 12 = 0 ∧ ¬ D 32 12 ≤ 0 ∧ ¬ C 1 10 = 0 := by
  obtain ⟨f, st, f1, f2, c10, d12, _⟩ := h
  rw [c10, d12]
  exact ⟨nI_ne0 f1 (by omega), nI_nle f1 (by omega), nI_ne0 f1 (by omega)⟩
theorem reads_f {D : Mem} (h : ¬ D 32 12 ≤ 0) : Mo_reads D = some D := by
  unfold Mo_reads
  rw [if_neg h]
theorem rdn_f {D : Mem} {a c : Int32} (h : ¬ D 32 12 = 0) : Mo_readNumber a c D = some (0, D) := by
  unfold Mo_readNumber Mo_readNumber_b25 Mo_readNumber_b49
  rw [if_neg h, if_neg h, if_neg h]
theorem FA.mv {C D C' D' : Mem} (h : FA C D) (h1 : C' 1 10 = C 1 10) (h2 : C' 1 11 = C 1 11) (h3 : D' 32 12 = D 32 12) (h4 : D' 32 13 = D 32 13) : FA C' D' := by
  unfold FA
  rw [h1, h2, h3, h4]
  exact h
/-- a fault that both sides set at the token's beginning -/
theorem FA.set {C D : Mem} {f st : Nat} (h0 : 0 < f) (h6 : f ≤ 6) : FA (wr (wr C 1 10 (nI f)) 1 11 (nI st)) (wr (wr D 32 12 (nI f)) 32 13 (nI st)) := ⟨f, st, h0, h6, by rw [wr_o (by omega), wr_s], by rw [wr_o (by omega), wr_s], wr_s, wr_s⟩
theorem GC.st {C : Mem} {f v : Int32} : GC C (wr (wr C 1 10 f) 1 11 v) := (GC.w1 (by omega) (by omega)).tr (GC.w1 (by omega) (by omega))
theorem GD.st {D : Mem} {f v : Int32} : GD D (wr (wr D 32 12 f) 32 13 v) := (GD.w32 (by omega) (by omega)).tr (GD.w32 (by omega) (by omega))
/-- a number on both sides: the reference's token is read already -/
theorem num {k : Nat} {b : Nat → Nat} {C D : Mem} {p lo hi : Nat} (h : ST k b C D p) (hl : lo < 100) (hh : hi < 100) :
    (∃ C' D', Tr_readNumber (nI lo) (nI hi) C = some (0, C') ∧ Mo_reads D = some D' ∧ FA C' D' ∧ GC C C' ∧ GD D D') ∨
    (∃ C' D1 D', Tr_readNumber (nI lo) (nI hi) C = some (0, C') ∧ Mo_reads D = some D1 ∧ D1 32 12 = 0 ∧ Mo_readNumber (nI lo) (nI hi) D1 = some (0, D') ∧ FA C' D' ∧ D' 32 4 = D1 32 4 ∧ GC C C' ∧ GD D D1 ∧ GD D1 D') ∨
    (∃ C' D1 st q v, Tr_readNumber (nI lo) (nI hi) C = some (1, C') ∧ Mo_reads D = some D1 ∧ Mo_readNumber (nI lo) (nI hi) D1 = some (nI v, D1) ∧ lo ≤ v ∧ v ≤ hi ∧ ST k b C' D1 q ∧ p < q ∧ TF C' D1 2 st v ∧ GC C C' ∧ GD D D1 ∧ C' 1 8 = C 1 8) := by
  have hpk := h.2.2.2.2.1
  rcases tok h with ⟨kd, st, q, v, C', D', ht, e1, e2, hS, hT, gc, gd, c8⟩ | ⟨C', D', e1, e2, hF, gc, gd⟩
  · have bn := ht.bnd hpk
    have d12 : D' 32 12 = 0 := hS.2.2.2.2.2.2.1
    obtain ⟨c4, d10, c5, d9, c6⟩ := id hT
    unfold Tr_readNumber
    rw [e1, bd_s, if_neg (by decide), c4]
    by_cases hk : kd = 2
    · subst hk
      obtain ⟨c6, d11⟩ := c6 rfl
      have hv := bn.2.2.2.2.2.2.1 rfl
      rw [if_pos (show nI 2 = 2 from rfl), c6]
      have r0 : ∀ x, Mo_readNumber (nI lo) (nI hi) D' = x ↔ Mo_readNumber_b25 (nI lo) (nI hi) D' = x := fun x => by
        unfold Mo_readNumber Mo_readNumber_b21
        rw [if_pos d12, d10, if_pos (show nI 2 = 2 from rfl), req1, bv_s]
      by_cases hb : lo ≤ v ∧ v ≤ hi
      · refine .inr (.inr ⟨C', D', st, q, v, ?_, e2, ?_, hb.1, hb.2, hS, ?_, hT, gc, gd, c8⟩)
        · rw [if_neg (nI_nlt hb.1 (by omega)), if_pos (nI_le hb.2 (by omega))]
        · rw [r0]
          unfold Mo_readNumber_b25 Mo_readNumber_b49
          rw [if_pos d12, in_ok, d11, if_pos ⟨nI_le hb.1 (by omega), nI_le hb.2 (by omega)⟩, bd_s, req1, bv_s, if_pos d12, d11]
        · have := bn.2.2.2.2.1 (by omega); omega
      · refine .inr (.inl ⟨wr (wr C' 1 10 (nI 3)) 1 11 (nI st), D', wr (wr D' 32 12 (nI 3)) 32 13 (nI st), ?_, e2, d12, ?_, FA.set (by omega) (by omega), by rw [wr_o (by omega), wr_o (by omega)], gc.tr GC.st, gd, GD.st⟩)
        · have eb : Tr_readNumber_b43 C' = some (0, wr (wr C' 1 10 (nI 3)) 1 11 (nI st)) := by
            rw [Tr_readNumber_b43, stop_ok, bd_s, if_pos rfl, c5]; rfl
          rw [eb]
          by_cases z : v < lo
          · rw [if_pos (nI_lt z (by omega))]
          · rw [if_neg (nI_nlt (by omega) (by omega)), if_neg (nI_ge (by omega) (by omega))]
        · rw [r0]
          unfold Mo_readNumber_b25 Mo_readNumber_b49
          rw [if_pos d12, in_ok, d11, if_neg (fun g => hb ⟨(nI_leI (by omega) (by omega)).mp g.1, (nI_leI (by omega) (by omega)).mp g.2⟩), bd_s, req0 (v := nI st) d12 d9, bv_s, wr_o (k := 13) (b := 12) (by omega), wr_s, if_neg (by decide)]
          rfl
    · refine .inr (.inl ⟨wr (wr C' 1 10 (nI 2)) 1 11 (nI st), D', wr (wr D' 32 12 (nI 2)) 32 13 (nI st), ?_, e2, d12, ?_, FA.set (by omega) (by omega), by rw [wr_o (by omega), wr_o (by omega)], gc.tr GC.st, gd, GD.st⟩)
      · rw [if_neg (show ¬ nI kd = 2 from fun g => hk ((nI_eq (b := 2) (by omega) (by omega)).mp g)), stop_ok, bd_s, if_pos z01_0, c5]
        rfl
      · unfold Mo_readNumber Mo_readNumber_b21
        rw [if_pos d12, d10, if_neg (show ¬ nI kd = 2 from fun g => hk ((nI_eq (b := 2) (by omega) (by omega)).mp g)), req0 (v := nI st) d12 d9, bv_s]
        unfold Mo_readNumber_b25 Mo_readNumber_b49
        rw [wr_o (k := 13) (b := 12) (by omega), wr_s, if_neg (by decide), if_neg (by decide)]
        rfl
  · refine .inl ⟨C', D', ?_, e2, hF, gc, gd⟩
    unfold Tr_readNumber
    rw [e1, bd_s, if_pos rfl]
