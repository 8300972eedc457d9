/-! PURE: text, a token: the reference's -/
def fD (D D' : Mem) : Prop := (∀ y, y ≠ 32 → D' y = D y) ∧ ∀ j, j < 8 ∨ 14 ≤ j → D' 32 j = D 32 j
theorem inA_y {k : Nat} {b : Nat → Nat} (hb : ∀ j, j < k → b j < 128) {p : Nat} (h : p < k ∧ 97 ≤ b p ∧ b p ≤ 122) (M : Mem) : Mo_in (by1 k b p).toInt64 97 122 M = some (1, M) := by rw [inA hb, if_pos h]
theorem inA_n {k : Nat} {b : Nat → Nat} (hb : ∀ j, j < k → b j < 128) {p : Nat} (h : ¬ (97 ≤ b p ∧ b p ≤ 122)) (M : Mem) : Mo_in (by1 k b p).toInt64 97 122 M = some (0, M) := by rw [inA hb, if_neg (fun g => h g.2)]
theorem in9_y {k : Nat} {b : Nat → Nat} (hb : ∀ j, j < k → b j < 128) {p : Nat} (h : p < k ∧ 48 ≤ b p ∧ b p ≤ 57) (M : Mem) : Mo_in (by1 k b p).toInt64 48 57 M = some (1, M) := by rw [in9 hb, if_pos h]
theorem in9_n {k : Nat} {b : Nat → Nat} (hb : ∀ j, j < k → b j < 128) {p : Nat} (h : ¬ (48 ≤ b p ∧ b p ≤ 57)) (M : Mem) : Mo_in (by1 k b p).toInt64 48 57 M = some (0, M) := by rw [in9 hb, if_neg (fun g => h g.2)]
def mrB (D2 : Mem) : Option Mem :=
  bd (Mo_byteAt (D2 32 8) D2) fun r6 M4 =>
  if 0 ≤ r6 then (bd (Mo_in ((r6).toInt64) 97 122 M4) fun r9 M7 =>
  if r9 = 0 then (bd (Mo_in ((r6).toInt64) 48 57 M7) fun r12 M10 =>
  if r12 = 0 then (if r6 = 59 then (Mo_reads_b260 1 (wr M10 32 10 3)) else
  Mo_reads_b260 0 (wr M10 32 10 3)) else
  Mo_reads_L140 FU (wr (wr M10 32 10 2) 32 11 0)) else
  Mo_reads_L82 FU (wr M7 32 10 1)) else
  some (wr M4 32 10 0)
theorem mr_pre {k : Nat} {b : Nat → Nat} {D : Mem} {p st : Nat} (h : SDt k b D) (hp : D 32 8 = nI p) (hf : D 32 12 = 0) (hpk : p ≤ k) (hr : Rn k b 32 32 p st) : ∃ D2, Mo_reads D = mrB D2 ∧ SDt k b D2 ∧ D2 32 8 = nI st ∧ D2 32 9 = nI st ∧ (∀ y, y ≠ 32 → D2 y = D y) ∧ ∀ j, j ≠ 8 → j ≠ 9 → D2 32 j = D 32 j := by
  have hb : ∀ j, j < k → b j < 128 := fun j hj => (h.2.2 j hj).1
  have hsk := hr.le hpk
  have hps := hr.1
  have hkk := h.1
  refine ⟨wr (wr D 32 8 (nI st)) 32 9 (nI st), ?_, (h.wr (by omega)).wr (by omega), by rw [wr_o (by omega), wr_s], wr_s, fun y hy => by rw [wr_ne hy, wr_ne hy], fun j h3 h5 => by rw [wr_o h5, wr_o h3]⟩
  obtain ⟨m, hm⟩ : ∃ m, FU = m + 1 + (st - p) := ⟨FU - 1 - (st - p), by have : (200 : Nat) < FU := FU_lt (by omega); omega⟩
  have e0 := L8_bl h (st - p) (m + 1) p (fun j a1 a2 => by
    have g := hr.2.1 j a1 (by omega)
    exact ⟨g.1, by omega⟩) (by omega)
  rw [wr_id hp, ← hm, show p + (st - p) = st by omega] at e0
  unfold Mo_reads
  rw [hf, if_pos (by decide), e0, Mo_reads_L8, wr_s, byteAt_ok (h.wr (by omega)) (by omega), bd_s, if_neg (show ¬ by1 k b st = 32 from fun g => by
    have g' := (by1_eq (c := 32) hb (by omega)).mp g
    exact hr.2.2 ⟨g'.1, by omega, by omega⟩), wr_s]
  rfl
theorem rtD_ok {k : Nat} {b : Nat → Nat} {D : Mem} {p kd st q v : Nat} (h : SDt k b D) (hp : D 32 8 = nI p) (hf : D 32 12 = 0) (hpk : p ≤ k) (ht : Tk k b p kd st q v) : ∃ D', Mo_reads D = some D' ∧ D' 32 8 = nI q ∧ D' 32 10 = nI kd ∧ D' 32 9 = nI st ∧ (kd = 2 → D' 32 11 = nI v) ∧ D' 32 12 = 0 ∧ fD D D' := by
  obtain ⟨hr, hc⟩ := ht
  have hb : ∀ j, j < k → b j < 128 := fun j hj => (h.2.2 j hj).1
  have hsk := hr.le hpk
  have hkk := h.1
  obtain ⟨D2, e, d2, f8, f9, fy, fj⟩ := mr_pre h hp hf hpk hr
  have f12 : D2 32 12 = 0 := by rw [fj 12 (by omega) (by omega)]; exact hf
  rw [e]
  unfold mrB
  rw [f8, byteAt_ok d2 (by omega), bd_s]
  rcases hc with ⟨rfl, z1, rfl⟩ | ⟨rfl, z1, z2, z3⟩ | ⟨rfl, z1, z2, z3, z4, z5⟩ | ⟨rfl, z1, z2, rfl⟩
  · refine ⟨wr D2 32 10 0, by rw [if_neg (fun g => by have := (by1_0 hb).mp g; omega)], by rw [wr_o (by omega)]; exact f8, wr_s, by rw [wr_o (by omega)]; exact f9, fun g => absurd g (by omega), by rw [wr_o (by omega)]; exact f12, fun y hy => by rw [wr_ne hy]; exact fy y hy, fun j hj => by rw [wr_o (by omega)]; exact fj j (by omega) (by omega)⟩
  · have g2 := z3.le (by omega)
    have e1 := L82_ok (D := wr D2 32 10 1) (d2.wr (by omega)) (q - st) FU st q (by have := z3.1; omega) (FU_lt (by omega)) (by omega) z3
    rw [wr_id (show wr D2 32 10 1 32 8 = nI st by rw [wr_o (by omega)]; exact f8)] at e1
    refine ⟨wr (wr D2 32 10 1) 32 8 (nI q), ?_, wr_s, by rw [wr_o (by omega), wr_s]; rfl, by rw [wr_o (by omega), wr_o (by omega)]; exact f9, fun g => absurd g (by omega), by rw [wr_o (by omega), wr_o (by omega)]; exact f12, fun y hy => by rw [wr_ne hy, wr_ne hy]; exact fy y hy, fun j hj => by rw [wr_o (by omega), wr_o (by omega)]; exact fj j (by omega) (by omega)⟩
    rw [if_pos ((by1_0 hb).mpr z1), inA_y hb ⟨z1, z2⟩, bd_s, if_neg (by decide), e1]
  · have g2 := z3.le (by omega)
    have e1 := L140_ok (D := wr D2 32 10 2) (st := st) (d2.wr (by omega)) (by rw [wr_o (by omega)]; exact f9) (by rw [wr_o (by omega)]; exact f12) (q - st) FU st q (by have := z3.1; omega) (FU_lt (by omega)) (by omega) (Nat.le_refl _) z3
    rw [show st - st = 0 by omega, show nv b st 0 = 0 from rfl, nI_0, wr_id (show wr (wr D2 32 10 2) 32 11 0 32 8 = nI st by rw [wr_o (by omega), wr_o (by omega)]; exact f8), nE, if_pos z4] at e1
    refine ⟨wr (wr (wr D2 32 10 2) 32 11 (nI (nv b st (q - st)))) 32 8 (nI q), ?_, wr_s, by rw [wr_o (by omega), wr_o (by omega), wr_s]; rfl, by rw [wr_o (by omega), wr_o (by omega), wr_o (by omega)]; exact f9, fun _ => by rw [wr_o (by omega), wr_s, z5], by rw [wr_o (by omega), wr_o (by omega), wr_o (by omega)]; exact f12, fun y hy => by rw [wr_ne hy, wr_ne hy, wr_ne hy]; exact fy y hy, fun j hj => by rw [wr_o (by omega), wr_o (by omega), wr_o (by omega)]; exact fj j (by omega) (by omega)⟩
    rw [if_pos ((by1_0 hb).mpr z1), inA_n hb (by omega), bd_s, if_pos rfl, in9_y hb ⟨z1, z2⟩, bd_s, if_neg (by decide), e1]
  · have e3 : wr D2 32 10 3 32 8 = nI st := by rw [wr_o (by omega)]; exact f8
    refine ⟨wr (wr D2 32 10 3) 32 8 (nI (st + 1)), ?_, wr_s, by rw [wr_o (by omega), wr_s]; rfl, by rw [wr_o (by omega), wr_o (by omega)]; exact f9, fun g => absurd g (by omega), by rw [wr_o (by omega), wr_o (by omega)]; exact f12, fun y hy => by rw [wr_ne hy, wr_ne hy]; exact fy y hy, fun j hj => by rw [wr_o (by omega), wr_o (by omega)]; exact fj j (by omega) (by omega)⟩
    rw [if_pos ((by1_0 hb).mpr z1), inA_n hb (by omega), bd_s, if_pos rfl, in9_n hb (by omega), bd_s, if_pos rfl, if_pos (show by1 k b st = 59 from (by1_eq (c := 59) hb (by omega)).mpr ⟨z1, z2⟩), Mo_reads_b260, req1, bv_s, e3, nI_1]
theorem rtD_no {k : Nat} {b : Nat → Nat} {D : Mem} {p st : Nat} (h : SDt k b D) (hp : D 32 8 = nI p) (hf : D 32 12 = 0) (hpk : p ≤ k) (ht : Tf k b p st) : ∃ D', Mo_reads D = some D' ∧ D' 32 12 = 1 ∧ D' 32 13 = nI st ∧ fD D D' := by
  obtain ⟨hr, z1, hc⟩ := ht
  have hb : ∀ j, j < k → b j < 128 := fun j hj => (h.2.2 j hj).1
  have hsk := hr.le hpk
  have hkk := h.1
  obtain ⟨D2, e, d2, f8, f9, fy, fj⟩ := mr_pre h hp hf hpk hr
  have f12 : D2 32 12 = 0 := by rw [fj 12 (by omega) (by omega)]; exact hf
  rw [e]
  unfold mrB
  rw [f8, byteAt_ok d2 (by omega), bd_s, if_pos ((by1_0 hb).mpr z1)]
  rcases hc with ⟨z2, q, z3, z4⟩ | ⟨y1, y2, y3⟩
  · have g2 := z3.le (by omega)
    have e1 := L140_ok (D := wr D2 32 10 2) (st := st) (d2.wr (by omega)) (by rw [wr_o (by omega)]; exact f9) (by rw [wr_o (by omega)]; exact f12) (q - st) FU st q (by have := z3.1; omega) (FU_lt (by omega)) (by omega) (Nat.le_refl _) z3
    rw [show st - st = 0 by omega, show nv b st 0 = 0 from rfl, nI_0, wr_id (show wr (wr D2 32 10 2) 32 11 0 32 8 = nI st by rw [wr_o (by omega), wr_o (by omega)]; exact f8), nE, if_neg (by omega)] at e1
    refine ⟨wr (wr (wr (wr (wr D2 32 10 2) 32 11 (nI (nv b st (q - st)))) 32 8 (nI q)) 32 12 1) 32 13 (nI st), ?_, by rw [wr_o (by omega), wr_s], wr_s, fun y hy => by rw [wr_ne hy, wr_ne hy, wr_ne hy, wr_ne hy, wr_ne hy]; exact fy y hy, fun j hj => by rw [wr_o (by omega), wr_o (by omega), wr_o (by omega), wr_o (by omega), wr_o (by omega)]; exact fj j (by omega) (by omega)⟩
    rw [inA_n hb (by omega), bd_s, if_pos rfl, in9_y hb ⟨z1, z2⟩, bd_s, if_neg (by decide), e1]
  · have e3 : wr D2 32 10 3 32 8 = nI st := by rw [wr_o (by omega)]; exact f8
    refine ⟨wr (wr (wr (wr D2 32 10 3) 32 12 1) 32 13 (nI st)) 32 8 (nI (st + 1)), ?_, by rw [wr_o (by omega), wr_o (by omega), wr_s], by rw [wr_o (by omega), wr_s], fun y hy => by rw [wr_ne hy, wr_ne hy, wr_ne hy, wr_ne hy]; exact fy y hy, fun j hj => by rw [wr_o (by omega), wr_o (by omega), wr_o (by omega), wr_o (by omega)]; exact fj j (by omega) (by omega)⟩
    rw [inA_n hb y1, bd_s, if_pos rfl, in9_n hb y2, bd_s, if_pos rfl, if_neg (show ¬ by1 k b st = 59 from fun g => y3 ((by1_eq (c := 59) hb (by omega)).mp g).2), Mo_reads_b260, req0 (v := nI st) (by rw [wr_o (by omega)]; exact f12) (by rw [wr_o (by omega)]; exact f9), bv_s, wr_o (k := 13) (b := 8) (by omega), wr_o (k := 12) (b := 8) (by omega), e3, nI_1]
