/-! PURE: text, the names -/
def NM (b : Nat → Nat) (st q s : Nat) : Prop := q - st = slen s ∧ ∀ i, i < slen s → nI (b (st + i)) = sch s i
theorem nameL {k : Nat} {b : Nat → Nat} {C : Mem} {st s : Nat} (h : SCt k b C) (hs : C 1 5 = nI st) (hk : st + slen s ≤ k) : ∀ d n i, i + d = slen s → d < n → ∃ x, Tr_nameIs_L20 n s (nI i) C = some (x, C) ∧ ((x = 1 ∧ ∀ j, i ≤ j → j < slen s → nI (b (st + j)) = sch s j) ∨ (x = 0 ∧ ∃ j, j < slen s ∧ ¬ nI (b (st + j)) = sch s j)) := by
  have hkk := h.1
  intro d
  induction d with
  | zero =>
    intro n i e hn
    obtain ⟨n, rfl⟩ : ∃ m, n = m + 1 := ⟨n - 1, by omega⟩
    refine ⟨1, ?_, .inl ⟨rfl, fun j j1 j2 => by omega⟩⟩
    rw [Tr_nameIs_L20, if_pos (nI_le (by omega) (by omega))]
  | succ d ih =>
    intro n i e hn
    obtain ⟨n, rfl⟩ : ∃ m, n = m + 1 := ⟨n - 1, by omega⟩
    rw [Tr_nameIs_L20, if_neg (nI_ge (by omega) (by omega)), hs, nIa, if_pos (ibn (by omega) (by omega)), if_pos (ibn (by omega) (by omega)), ixn (by omega), ixn (by omega), (h.2.2 (st + i) (by omega)).2]
    by_cases q : nI (b (st + i)) = sch s i
    · obtain ⟨x, e1, e2⟩ := ih n (i + 1) (by omega) (by omega)
      refine ⟨x, by rw [if_pos q, nI_1]; exact e1, ?_⟩
      rcases e2 with ⟨g1, g2⟩ | g
      · refine .inl ⟨g1, fun j j1 j2 => ?_⟩
        by_cases z : j = i
        · subst z; exact q
        · exact g2 j (by omega) j2
      · exact .inr g
    · exact ⟨0, by rw [if_neg q], .inr ⟨rfl, i, by omega, q⟩⟩
theorem nameIs_ok {k : Nat} {b : Nat → Nat} {C : Mem} {st q s : Nat} (h : SCt k b C) (hq : C 1 3 = nI q) (hs : C 1 5 = nI st) (hqk : q ≤ k) (hst : st ≤ q) (hT : isT s = true) (hl : slen s ≤ 5) : ∃ x, Tr_nameIs s C = some (x, C) ∧ ((x = 1 ∧ NM b st q s) ∨ (x = 0 ∧ ¬ NM b st q s)) := by
  have hkk := h.1
  unfold Tr_nameIs
  rw [if_pos hT, hq, hs, nIs hst]
  by_cases e : q - st = slen s
  · obtain ⟨x, e1, e2⟩ := nameL (s := s) h hs (by omega) (slen s) FU 0 (by omega) (FU_lt (by omega))
    refine ⟨x, by rw [if_pos (by rw [e])]; exact e1, ?_⟩
    rcases e2 with ⟨g1, g2⟩ | ⟨g1, j, g2, g3⟩
    · exact .inl ⟨g1, e, fun i hi => g2 i (by omega) hi⟩
    · exact .inr ⟨g1, fun g => g3 (g.2 j g2)⟩
  · exact ⟨0, by rw [if_neg (fun g => e ((nI_eq (by omega) (by omega)).mp g))], .inr ⟨rfl, fun g => e g.1⟩⟩
theorem nameIs_y {k : Nat} {b : Nat → Nat} {C : Mem} {st q s : Nat} (h : SCt k b C) (hq : C 1 3 = nI q) (hs : C 1 5 = nI st) (hqk : q ≤ k) (hst : st ≤ q) (hT : isT s = true) (hl : slen s ≤ 5) (hn : NM b st q s) : Tr_nameIs s C = some (1, C) := by
  obtain ⟨x, e1, e2⟩ := nameIs_ok h hq hs hqk hst hT hl
  rcases e2 with ⟨g1, g2⟩ | ⟨g1, g2⟩
  · rw [e1, g1]
  · exact absurd hn g2
theorem nameIs_n {k : Nat} {b : Nat → Nat} {C : Mem} {st q s : Nat} (h : SCt k b C) (hq : C 1 3 = nI q) (hs : C 1 5 = nI st) (hqk : q ≤ k) (hst : st ≤ q) (hT : isT s = true) (hl : slen s ≤ 5) (hn : ¬ NM b st q s) : Tr_nameIs s C = some (0, C) := by
  obtain ⟨x, e1, e2⟩ := nameIs_ok h hq hs hqk hst hT hl
  rcases e2 with ⟨g1, g2⟩ | ⟨g1, g2⟩
  · exact absurd g2 hn
  · rw [e1, g1]
theorem NM5 {b : Nat → Nat} {st q s : Nat} (h : slen s = 5) : NM b st q s ↔ (q - st = 5 ∧ nI (b st) = sch s 0 ∧ nI (b (st + 1)) = sch s 1 ∧ nI (b (st + 2)) = sch s 2 ∧ nI (b (st + 3)) = sch s 3 ∧ nI (b (st + 4)) = sch s 4) := by
  unfold NM
  rw [h]
  refine ⟨fun g => ⟨g.1, g.2 0 (by omega), g.2 1 (by omega), g.2 2 (by omega), g.2 3 (by omega), g.2 4 (by omega)⟩, fun g => ⟨g.1, fun i hi => ?_⟩⟩
  have e : i = 0 ∨ i = 1 ∨ i = 2 ∨ i = 3 ∨ i = 4 := by omega
  rcases e with rfl | rfl | rfl | rfl | rfl
  · exact g.2.1
  · exact g.2.2.1
  · exact g.2.2.2.1
  · exact g.2.2.2.2.1
  · exact g.2.2.2.2.2
theorem NM3 {b : Nat → Nat} {st q s : Nat} (h : slen s = 3) : NM b st q s ↔ (q - st = 3 ∧ nI (b st) = sch s 0 ∧ nI (b (st + 1)) = sch s 1 ∧ (3 = 2 ∨ nI (b (st + 2)) = sch s 2)) := by
  unfold NM
  rw [h]
  refine ⟨fun g => ⟨g.1, g.2 0 (by omega), g.2 1 (by omega), .inr (g.2 2 (by omega))⟩, fun g => ⟨g.1, fun i hi => ?_⟩⟩
  have e : i = 0 ∨ i = 1 ∨ i = 2 := by omega
  rcases e with rfl | rfl | rfl
  · exact g.2.1
  · exact g.2.2.1
  · rcases g.2.2.2 with z | z
    · omega
    · exact z
theorem NM2 {b : Nat → Nat} {st q s : Nat} {c : Int32} (h : slen s = 2) : NM b st q s ↔ (q - st = 2 ∧ nI (b st) = sch s 0 ∧ nI (b (st + 1)) = sch s 1 ∧ (2 = 2 ∨ nI (b (st + 2)) = c)) := by
  unfold NM
  rw [h]
  refine ⟨fun g => ⟨g.1, g.2 0 (by omega), g.2 1 (by omega), .inl rfl⟩, fun g => ⟨g.1, fun i hi => ?_⟩⟩
  have e : i = 0 ∨ i = 1 := by omega
  rcases e with rfl | rfl
  · exact g.2.1
  · exact g.2.2.1
theorem byteIn {k : Nat} {b : Nat → Nat} {D : Mem} {p : Nat} (h : SDt k b D) (hp : p < k) : Mo_byteAt (nI p) D = some (nI (b p), D) := by
  have hkk := h.1
  rw [byteAt_ok h (by omega), by1, if_pos hp]
theorem is_ok {k : Nat} {b : Nat → Nat} {D : Mem} {st q : Nat} (h : SDt k b D) (hq : D 32 8 = nI q) (hs : D 32 9 = nI st) (hqk : q ≤ k) (hst : st ≤ q) (n : Nat) (hn : 2 ≤ n) (hn5 : n ≤ 5) (a c e : Int32) : Mo_is (nI n) a c e D = some (if q - st = n ∧ nI (b st) = a ∧ nI (b (st + 1)) = c ∧ (n = 2 ∨ nI (b (st + 2)) = e) then 1 else 0, D) := by
  have hkk := h.1
  unfold Mo_is
  rw [hq, hs, nIs hst]
  by_cases z1 : q - st = n
  · rw [if_pos (by rw [z1]), byteIn h (by omega), bd_s]
    by_cases z2 : nI (b st) = a
    · rw [if_pos z2, hs, show nI st + 1 = nI (st + 1) from nIa st 1, byteIn h (by omega), bd_s]
      by_cases z3 : nI (b (st + 1)) = c
      · rw [if_pos z3]
        by_cases z4 : n = 2
        · rw [if_pos (show nI n = (2 : Int32) by rw [z4]; rfl), if_pos ⟨z1, z2, z3, .inl z4⟩]
        · rw [if_neg (show ¬ nI n = (2 : Int32) from fun g => z4 ((nI_eq (b := 2) (by omega) (by omega)).mp g)), hs, show nI st + 2 = nI (st + 2) from nIa st 2, byteIn h (by omega), bd_s]
          by_cases z5 : nI (b (st + 2)) = e
          · rw [if_pos z5, if_pos ⟨z1, z2, z3, .inr z5⟩]
          · rw [if_neg z5, if_neg (fun g => by rcases g.2.2.2 with y | y; exact z4 y; exact z5 y)]
      · rw [if_neg z3, if_neg (fun g => z3 g.2.2.1)]
    · rw [if_neg z2, if_neg (fun g => z2 g.2.1)]
  · rw [if_neg (fun g => z1 ((nI_eq (by omega) (by omega)).mp g)), if_neg (fun g => z1 g.1)]
theorem lineNow_p {k : Nat} {b : Nat → Nat} {D : Mem} {st q : Nat} (h : SDt k b D) (hq : D 32 8 = nI q) (hs : D 32 9 = nI st) (hqk : q ≤ k) (hst : st ≤ q) : (NM b st q 100 → Mo_lineNow D = some (0, D)) ∧ (¬ NM b st q 100 → Mo_lineNow D = Mo_lineNow_b46 D) := by
  have hkk := h.1
  have e5 := is_ok h hq hs hqk hst 5 (by omega) (by omega) 112 114 105
  have e5' : Mo_is 5 112 114 105 D = some (if q - st = 5 ∧ nI (b st) = 112 ∧ nI (b (st + 1)) = 114 ∧ (5 = 2 ∨ nI (b (st + 2)) = 105) then 1 else 0, D) := e5
  have hN := NM5 (b := b) (st := st) (q := q) (s := 100) rfl
  unfold Mo_lineNow
  rw [e5', bd_s]
  refine ⟨fun hn => ?_, fun hn => ?_⟩
  · obtain ⟨g0, g1, g2, g3, g4, g5⟩ := hN.mp hn
    rw [if_pos (show q - st = 5 ∧ nI (b st) = 112 ∧ nI (b (st + 1)) = 114 ∧ (5 = 2 ∨ nI (b (st + 2)) = 105) from ⟨g0, g1, g2, .inr g3⟩), if_neg (by decide), hs, show nI st + 3 = nI (st + 3) from nIa st 3, byteIn h (by omega), bd_s, if_pos (show nI (b (st + 3)) = 109 from g4), hs, show nI st + 4 = nI (st + 4) from nIa st 4, byteIn h (by omega), bd_s, if_pos (show nI (b (st + 4)) = 101 from g5)]
  · by_cases z : q - st = 5 ∧ nI (b st) = 112 ∧ nI (b (st + 1)) = 114 ∧ (5 = 2 ∨ nI (b (st + 2)) = 105)
    · have z3 : nI (b (st + 2)) = 105 := by
        rcases z.2.2.2 with y | y
        · omega
        · exact y
      rw [if_pos z, if_neg (by decide), hs, show nI st + 3 = nI (st + 3) from nIa st 3, byteIn h (by omega), bd_s]
      by_cases z4 : nI (b (st + 3)) = 109
      · rw [if_pos z4, hs, show nI st + 4 = nI (st + 4) from nIa st 4, byteIn h (by omega), bd_s, if_neg (show ¬ nI (b (st + 4)) = 101 from fun z5 => hn (hN.mpr ⟨z.1, z.2.1, z.2.2.1, z3, z4, z5⟩))]
      · rw [if_neg z4]
    · rw [if_neg z, if_pos rfl]
theorem names_ok {k : Nat} {b : Nat → Nat} {C D : Mem} {st q : Nat} (h : SCt k b C) (hq : C 1 3 = nI q) (hs : C 1 5 = nI st) (h' : SDt k b D) (hq' : D 32 8 = nI q) (hs' : D 32 9 = nI st) (hqk : q ≤ k) (hst : st ≤ q) : ∃ L : Nat, L ≤ 5 ∧ Tr_lineOfName C = some (nI L, C) ∧ Mo_lineNow D = some (if L = 0 then -4 else nI (L - 1), D) := by
  have y := fun s => nameIs_y (s := s) h hq hs hqk hst
  have n := fun s => nameIs_n (s := s) h hq hs hqk hst
  obtain ⟨p1, p2⟩ := lineNow_p h' hq' hs' hqk hst
  by_cases n0 : NM b st q 100
  · refine ⟨1, by omega, ?_, by rw [p1 n0]; rfl⟩
    unfold Tr_lineOfName
    rw [y 100 rfl (by decide) n0, bd_s, if_neg (by decide)]
    rfl
  have i1 : Mo_is 3 99 111 108 D = some (if q - st = 3 ∧ nI (b st) = 99 ∧ nI (b (st + 1)) = 111 ∧ (3 = 2 ∨ nI (b (st + 2)) = 108) then 1 else 0, D) := is_ok h' hq' hs' hqk hst 3 (by omega) (by omega) 99 111 108
  have i2 : Mo_is 3 114 111 119 D = some (if q - st = 3 ∧ nI (b st) = 114 ∧ nI (b (st + 1)) = 111 ∧ (3 = 2 ∨ nI (b (st + 2)) = 119) then 1 else 0, D) := is_ok h' hq' hs' hqk hst 3 (by omega) (by omega) 114 111 119
  have i3 : Mo_is 3 105 110 102 D = some (if q - st = 3 ∧ nI (b st) = 105 ∧ nI (b (st + 1)) = 110 ∧ (3 = 2 ∨ nI (b (st + 2)) = 102) then 1 else 0, D) := is_ok h' hq' hs' hqk hst 3 (by omega) (by omega) 105 110 102
  have i4 : Mo_is 2 97 116 0 D = some (if q - st = 2 ∧ nI (b st) = 97 ∧ nI (b (st + 1)) = 116 ∧ (2 = 2 ∨ nI (b (st + 2)) = 0) then 1 else 0, D) := is_ok h' hq' hs' hqk hst 2 (by omega) (by omega) 97 116 0
  have m1 : NM b st q 101 ↔ (q - st = 3 ∧ nI (b st) = 99 ∧ nI (b (st + 1)) = 111 ∧ (3 = 2 ∨ nI (b (st + 2)) = 108)) := NM3 rfl
  have m2 : NM b st q 102 ↔ (q - st = 3 ∧ nI (b st) = 114 ∧ nI (b (st + 1)) = 111 ∧ (3 = 2 ∨ nI (b (st + 2)) = 119)) := NM3 rfl
  have m3 : NM b st q 103 ↔ (q - st = 3 ∧ nI (b st) = 105 ∧ nI (b (st + 1)) = 110 ∧ (3 = 2 ∨ nI (b (st + 2)) = 102)) := NM3 rfl
  have m4 : NM b st q 104 ↔ (q - st = 2 ∧ nI (b st) = 97 ∧ nI (b (st + 1)) = 116 ∧ (2 = 2 ∨ nI (b (st + 2)) = 0)) := NM2 rfl
  rw [p2 n0]
  unfold Tr_lineOfName Mo_lineNow_b46
  rw [n 100 rfl (by decide) n0, bd_s, if_pos rfl, i1, bd_s]
  by_cases n1 : NM b st q 101
  · refine ⟨2, by omega, ?_, ?_⟩
    · rw [y 101 rfl (by decide) n1, bd_s, if_neg (by decide)]; rfl
    · rw [if_pos (m1.mp n1), if_neg (by decide)]; rfl
  rw [n 101 rfl (by decide) n1, bd_s, if_pos rfl, if_neg (fun g => n1 (m1.mpr g)), if_pos rfl, i2, bd_s]
  by_cases n2 : NM b st q 102
  · refine ⟨3, by omega, ?_, ?_⟩
    · rw [y 102 rfl (by decide) n2, bd_s, if_neg (by decide)]; rfl
    · rw [if_pos (m2.mp n2), if_neg (by decide)]; rfl
  rw [n 102 rfl (by decide) n2, bd_s, if_pos rfl, if_neg (fun g => n2 (m2.mpr g)), if_pos rfl, i3, bd_s]
  by_cases n3 : NM b st q 103
  · refine ⟨4, by omega, ?_, ?_⟩
    · rw [y 103 rfl (by decide) n3, bd_s, if_neg (by decide)]; rfl
    · rw [if_pos (m3.mp n3), if_neg (by decide)]; rfl
  rw [n 103 rfl (by decide) n3, bd_s, if_pos rfl, if_neg (fun g => n3 (m3.mpr g)), if_pos rfl, i4, bd_s]
  by_cases n4 : NM b st q 104
  · refine ⟨5, by omega, ?_, ?_⟩
    · rw [y 104 rfl (by decide) n4, bd_s, if_neg (by decide)]; rfl
    · rw [if_pos (m4.mp n4), if_neg (by decide)]; rfl
  refine ⟨0, by omega, ?_, ?_⟩
  · rw [n 104 rfl (by decide) n4, bd_s, if_pos rfl]; rfl
  · rw [if_neg (fun g => n4 (m4.mpr g)), if_pos rfl]; rfl
