/-! PURE: text, a line -/
def refT (v1 : Int32) (M2 : Mem) : Option Mem :=
  if (M2 32 12) ≤ 0 then (bv (Mo_readLineOf v1 M2) fun M4 =>
  if (M4 32 12) = 0 then (if (M4 32 10) = 3 then (Mo_readLine_b113 1 M4) else
  Mo_readLine_b113 0 M4) else
  Mo_readLine_b117 M4) else
  some M2
def LN (k : Nat) (b : Nat → Nat) (q : Nat) (tr : Option (Int32 × Mem)) (rf : Option Mem) (C D : Mem) : Prop :=
  (∃ C' D', tr = some (0, C') ∧ rf = some D' ∧ FA C' D' ∧ GC C C' ∧ GD D D') ∨
  (∃ C' D' q', tr = some (1, C') ∧ rf = Mo_reads D' ∧ ST k b C' D' q' ∧ q < q' ∧ GC C C' ∧ GD D D')
theorem b117_f {D : Mem} (h : ¬ D 32 12 ≤ 0) : Mo_readLine_b117 D = some D := by
  rw [Mo_readLine_b117, reads_f h, bv_s]
theorem tail {k : Nat} {b : Nat → Nat} {C D D0 : Mem} {p : Nat} {tr : Option (Int32 × Mem)} {v1 : Int32} (h : MDx k b p tr C D D0 (Mo_readLineOf v1)) : LN k b p (bd tr fun r M => Tr_readLine_b48 r M) (bv (Mo_reads D0) (refT v1)) C D := by
  unfold LN
  rcases h with ⟨C', D', e1, e2, hF, gc, gd⟩ | ⟨C', D1, D', e1, e2, d12, e3, hF, gc, gd⟩ | ⟨C', D1, D', q, e1, e2, d12, e3, hS, hpq, gc, gd⟩
  · have n0 := hF.n0
    exact .inl ⟨C', D', by rw [e1, bd_s, Tr_readLine_b48, if_pos rfl], by rw [e2, bv_s, refT, if_neg n0.2.1], hF, gc, gd⟩
  · have n0 := hF.n0
    exact .inl ⟨C', D', by rw [e1, bd_s, Tr_readLine_b48, if_pos rfl], by rw [e2, bv_s, refT, d12, if_pos (by decide), e3, bv_s, if_neg n0.1, b117_f n0.2.1], hF, gc, gd⟩
  · rw [e1, bd_s, Tr_readLine_b48, if_neg (by decide), e2, bv_s, refT, d12, if_pos (by decide), e3]
    rcases tok hS with ⟨kd, st, q2, v, C2, D2, ht, f1, f2, hS2, hT, gc2, gd2, c8⟩ | ⟨C2, D2, f1, f2, hF, gc2, gd2⟩
    · have bn := ht.bnd hS.2.2.2.2.1
      have t12 : D2 32 12 = 0 := hS2.2.2.2.2.2.2.1
      obtain ⟨c4, d10, c5, d9, _⟩ := id hT
      rw [f1, bd_s, if_neg (by decide), c4, f2, bv_s, if_pos t12, d10]
      by_cases z : kd = 3
      · subst z
        refine .inr ⟨C2, D2, q2, by rw [if_pos (show nI 3 = 3 from rfl)], ?_, hS2, ?_, gc.tr gc2, gd.tr gd2⟩
        · rw [if_pos (show nI 3 = 3 from rfl), Mo_readLine_b113, req1, bv_s, Mo_readLine_b117, bv_some]
        · have := bn.2.2.2.2.1 (by omega); omega
      · have z' : ¬ nI kd = 3 := fun g => z ((nI_eq (b := 3) (by omega) (by omega)).mp g)
        have hF : FA (wr (wr C2 1 10 (nI 2)) 1 11 (nI st)) (wr (wr D2 32 12 (nI 2)) 32 13 (nI st)) := FA.set (by omega) (by omega)
        refine .inl ⟨wr (wr C2 1 10 (nI 2)) 1 11 (nI st), wr (wr D2 32 12 (nI 2)) 32 13 (nI st), ?_, ?_, hF, (gc.tr gc2).tr GC.st, (gd.tr gd2).tr GD.st⟩
        · rw [if_neg z', stop_ok, bd_s, if_pos rfl, c5]; rfl
        · have n0 := hF.n0.2.1
          rw [if_neg z', Mo_readLine_b113, req0 (v := nI st) t12 d9, bv_s]
          exact b117_f n0
    · have n0 := hF.n0
      exact .inl ⟨C2, D2, by rw [f1, bd_s, if_pos rfl], by rw [f2, bv_s, if_neg n0.1, b117_f n0.2.1], hF, gc.tr gc2, gd.tr gd2⟩
theorem line0 {k : Nat} {b : Nat → Nat} {C D : Mem} {q st : Nat} (hS : ST k b C D q) (c5 : C 1 5 = nI st) (d9 : D 32 9 = nI st) : LN k b q (Tr_readLine_b16 0 C) (Mo_readLine_b17 (-4) D) C D := by
  obtain ⟨sC, sD, s3, s8, hqk, s10, s12, hDR, hpT⟩ := id hS
  have hF : FA (wr (wr C 1 10 (nI 2)) 1 11 (nI st)) (wr (wr D 32 12 (nI 2)) 32 13 (nI st)) := FA.set (by omega) (by omega)
  have d5 : wr (wr D 32 12 (nI 2)) 32 13 (nI st) 32 5 = D 32 5 := by rw [wr_o (by omega), wr_o (by omega)]
  have b72 : ∀ s, z01 s = true → Mo_readLine_b72 (-4) s (wr (wr D 32 12 (nI 2)) 32 13 (nI st)) = some (wr (wr (wr D 32 12 (nI 2)) 32 13 (nI st)) 32 5 s) := fun s hs => by
    have m1 : ¬ wr (wr (wr D 32 12 (nI 2)) 32 13 (nI st)) 32 5 s 32 12 ≤ 0 := by rw [wr_o (by omega)]; exact hF.n0.2.1
    rw [Mo_readLine_b72, if_pos hs, reads_f m1, bv_s, if_neg m1]
  have rq : Mo_requires 0 2 D = some (wr (wr D 32 12 (nI 2)) 32 13 (nI st)) := req0 s12 d9
  have e0 : Mo_readLine_b17 (-4) D = if D 32 5 = 0 then Mo_readLine_b72 (-4) 0 (wr (wr D 32 12 (nI 2)) 32 13 (nI st)) else Mo_readLine_b72 (-4) 1 (wr (wr D 32 12 (nI 2)) 32 13 (nI st)) := by
    rw [Mo_readLine_b17, if_pos rfl, Mo_readLine_b30, rq, bv_s, if_neg (by decide), Mo_readLine_b46, Mo_readLine_b51, req1, bv_s, d5, if_neg (show ¬ (-4 : Int32) = 0 by decide), Mo_readLine_b67]
  have e1 : Tr_readLine_b16 0 C = some (0, wr (wr C 1 10 (nI 2)) 1 11 (nI st)) := by
    rw [Tr_readLine_b16, if_pos rfl, stop_ok, bd_s, if_pos z01_0, c5]; rfl
  unfold LN
  rw [e0, e1]
  refine .inl ⟨_, wr (wr (wr D 32 12 (nI 2)) 32 13 (nI st)) 32 5 (D 32 5), rfl, ?_, hF.mv rfl rfl (wr_o (by omega)) (wr_o (by omega)), GC.st, GD.st.tr (GD.w32 (by omega) (by omega))⟩
  rcases hpT with ⟨_, z⟩ | ⟨_, z⟩
  · rw [z, if_pos rfl, b72 0 z01_0]
  · rw [z, if_neg (by decide), b72 1 z01_1]
theorem line1 {k : Nat} {b : Nat → Nat} {C D : Mem} {q st : Nat} (hS : ST k b C D q) (c5 : C 1 5 = nI st) (d9 : D 32 9 = nI st) : LN k b q (Tr_readLine_b16 1 C) (Mo_readLine_b17 0 D) C D := by
  obtain ⟨sC, sD, s3, s8, hqk, s10, s12, hDR, hpT⟩ := id hS
  rcases hpT with ⟨z1, z2⟩ | ⟨z1, z2⟩
  · have e1 : Tr_readLine_b16 1 C = bd (Tr_readPrime C) fun r M => Tr_readLine_b48 r M := by
      rw [Tr_readLine_b16, if_neg (by decide), if_pos rfl]
    have e2 : Mo_readLine_b17 0 D = bv (Mo_reads (wr D 32 5 1)) (refT 0) := by
      rw [Mo_readLine_b17, if_neg (by decide), Mo_readLine_b30, req1, bv_s, if_pos rfl, if_pos z2, Mo_readLine_b46, Mo_readLine_b51, req1, bv_s, if_pos z2, if_pos rfl, Mo_readLine_b67, Mo_readLine_b72, if_pos z01_1]
      rfl
    rw [e1, e2]
    exact tail (mid_prime hS z1)
  · have hF : FA (wr (wr C 1 10 (nI 4)) 1 11 (nI st)) (wr (wr D 32 12 (nI 4)) 32 13 (nI st)) := FA.set (by omega) (by omega)
    have m1 : ¬ wr (wr (wr D 32 12 (nI 4)) 32 13 (nI st)) 32 5 1 32 12 ≤ 0 := by rw [wr_o (by omega)]; exact hF.n0.2.1
    have rq : Mo_requires 0 4 D = some (wr (wr D 32 12 (nI 4)) 32 13 (nI st)) := req0 s12 d9
    refine .inl ⟨wr (wr C 1 10 (nI 4)) 1 11 (nI st), wr (wr (wr D 32 12 (nI 4)) 32 13 (nI st)) 32 5 1, ?_, ?_, hF.mv rfl rfl (wr_o (by omega)) (wr_o (by omega)), GC.st, GD.st.tr (GD.w32 (by omega) (by omega))⟩
    · rw [Tr_readLine_b16, if_neg (by decide), if_pos rfl, Tr_readPrime, z1, if_neg (by decide), stop_ok, bd_s, if_pos z01_0, bd_s, Tr_readLine_b48, if_pos rfl, c5]; rfl
    · rw [Mo_readLine_b17, if_neg (by decide), Mo_readLine_b30, req1, bv_s, if_pos rfl, z2, if_neg (by decide), Mo_readLine_b51, rq, bv_s, wr_o (k := 13) (b := 5) (by omega), wr_o (k := 12) (b := 5) (by omega), z2, if_neg (by decide), Mo_readLine_b67, Mo_readLine_b72, if_pos z01_1, reads_f m1, bv_s, if_neg m1]
theorem line2 {k : Nat} {b : Nat → Nat} {C D : Mem} {q L : Nat} (hS : ST k b C D q) (hL : 2 ≤ L) (hL5 : L ≤ 5) : LN k b q (Tr_readLine_b16 (nI L) C) (Mo_readLine_b17 (nI (L - 1)) D) C D := by
  obtain ⟨sC, sD, s3, s8, hqk, s10, s12, hDR, hpT⟩ := id hS
  have n0 : ¬ nI L = 0 := fun g => by have := (nI_eq (b := 0) (by omega) (by omega)).mp g; omega
  have n1 : ¬ nI L = 1 := fun g => by have := (nI_eq (b := 1) (by omega) (by omega)).mp g; omega
  have m0 : ¬ nI (L - 1) = 0 := fun g => by have := (nI_eq (b := 0) (by omega) (by omega)).mp g; omega
  have m4 : ¬ nI (L - 1) = -4 := fun g => by
    have := congrArg Int32.toInt g
    rw [nI_toInt (by omega)] at this
    have e : (-4 : Int32).toInt = -4 := by decide
    omega
  have e1 : Tr_readLine_b16 (nI L) C = bd (Tr_readBlock (nI L) C) fun r M => Tr_readLine_b48 r M := by
    rw [Tr_readLine_b16, if_neg n0, if_neg n1]
  have b72 : ∀ s, z01 s = true → D 32 5 = s → Mo_readLine_b72 (nI (L - 1)) s D = bv (Mo_reads D) (refT (nI (L - 1))) := fun s hs h5 => by
    rw [Mo_readLine_b72, if_pos hs, wr_id h5]
    rfl
  have e2 : Mo_readLine_b17 (nI (L - 1)) D = bv (Mo_reads D) (refT (nI (L - 1))) := by
    rw [Mo_readLine_b17, if_neg m4, Mo_readLine_b30, req1, bv_s, if_neg m0, Mo_readLine_b46, Mo_readLine_b51, req1, bv_s, if_neg m0, Mo_readLine_b67]
    rcases hpT with ⟨_, z⟩ | ⟨_, z⟩
    · rw [if_pos z, b72 0 z01_0 z]
    · rw [if_neg (by rw [z]; decide), b72 1 z01_1 z]
  rw [e1, e2]
  refine tail ?_
  by_cases z : L = 5
  · subst z
    exact mid_at hS
  · exact mid_block hS (by omega)
theorem line {k : Nat} {b : Nat → Nat} {C D : Mem} {q kd st v : Nat} (hS : ST k b C D q) (hT : TF C D kd st v) (hkd : kd ≤ 3) (hst : st ≤ q) : LN k b q (Tr_readLine C) (Mo_readLine D) C D := by
  obtain ⟨sC, sD, s3, s8, hqk, s10, s12, hDR, hpT⟩ := id hS
  obtain ⟨c4, d10, c5, d9, _⟩ := id hT
  unfold Tr_readLine Mo_readLine
  rw [c4, d10]
  by_cases z : kd = 1
  · obtain ⟨L, hL, e1, e2⟩ := names_ok sC s3 c5 sD s8 d9 hqk hst
    rw [if_pos (by rw [z]; rfl), if_pos (by rw [z]; rfl), e1, bd_s, e2, bd_s]
    have eL : L = 0 ∨ L = 1 ∨ (2 ≤ L ∧ L ≤ 5) := by omega
    rcases eL with rfl | rfl | ⟨l2, l5⟩
    · exact line0 hS c5 d9
    · exact line1 hS c5 d9
    · rw [if_neg (by omega)]
      exact line2 hS l2 l5
  · have z' : ¬ nI kd = 1 := fun g => z ((nI_eq (b := 1) (by omega) (by omega)).mp g)
    rw [if_neg z', if_neg z']
    exact line0 hS c5 d9
