/-! PURE: text, what a line has behind its name -/
theorem blk_f {D : Mem} {v1 v2 v3 : Int32} (h : ¬ D 32 12 = 0) (h' : ¬ D 32 12 ≤ 0) : Mo_blockComes v1 v2 v3 D = some D := by
  have e : ∀ a c s0 s1, Mo_blockComes_b42 v1 v2 v3 a c s0 s1 D = some D := fun a c s0 s1 => by
    rw [Mo_blockComes_b42, if_neg h, Mo_blockComes_b79, if_neg h']
  unfold Mo_blockComes Mo_blockComes_b28
  simp only [e]
  simp
theorem b95_f {D : Mem} {v1 v2 s : Int32} (h : ¬ D 32 12 = 0) (h' : ¬ D 32 12 ≤ 0) : Mo_readLineOf_b95 v1 v2 s D = some D := by
  rw [Mo_readLineOf_b95, rdn_f h, bd_s, blk_f h h', bv_s, reads_f h', bv_s]
def MDx (k : Nat) (b : Nat → Nat) (p : Nat) (tr : Option (Int32 × Mem)) (C D D0 : Mem) (rl : Mem → Option Mem) : Prop :=
    (∃ C' D', tr = some (0, C') ∧ Mo_reads D0 = some D' ∧ FA C' D' ∧ GC C C' ∧ GD D D') ∨
    (∃ C' D1 D', tr = some (0, C') ∧ Mo_reads D0 = some D1 ∧ D1 32 12 = 0 ∧ rl D1 = some D' ∧ FA C' D' ∧ GC C C' ∧ GD D D') ∨
    (∃ C' D1 D' q, tr = some (1, C') ∧ Mo_reads D0 = some D1 ∧ D1 32 12 = 0 ∧ rl D1 = Mo_reads D' ∧ ST k b C' D' q ∧ p < q ∧ GC C C' ∧ GD D D')
theorem mid_prime {k : Nat} {b : Nat → Nat} {C D : Mem} {p : Nat} (h : ST k b C D p) (h9 : C 1 9 = 0) : MDx k b p (Tr_readPrime C) C D (wr D 32 5 1) (Mo_readLineOf 0) := by
  obtain ⟨sC, sD, s3, s8, hpk, s10, s12, hDR, hpT⟩ := id h
  have g0 : GC C (wr C 1 9 1) := GC.w1 (by omega) (by omega)
  have k0 : GD D (wr D 32 5 1) := GD.w32 (by omega) (by omega)
  have h0 : ST k b (wr C 1 9 1) (wr D 32 5 1) p := ⟨sC.G g0, sD.G k0, by rw [wr_o (by omega)]; exact s3, by rw [wr_o (by omega)]; exact s8, hpk, by rw [wr_o (by omega)]; exact s10, by rw [wr_o (by omega)]; exact s12, hDR.mv (wr_ne (by omega)) (wr_ne (by omega)) (wr_ne (by omega)) (wr_o (by omega)) (wr_o (by omega)), .inr ⟨wr_s, wr_s⟩⟩
  unfold MDx Tr_readPrime
  rw [if_pos h9]
  rcases num (lo := 2) (hi := 7) h0 (by omega) (by omega) with ⟨C', D', e1, e2, hF, gc, gd⟩ | ⟨C', D1, D', e1, e2, d12, e3, hF, x4, gc, gd, gd'⟩ | ⟨C', D1, st, q, v, e1, e2, e3, v2, v7, hS, hpq, hT, gc, gd, c8⟩
  · have e1' : Tr_readNumber 2 7 (wr C 1 9 1) = some (0, C') := e1
    exact .inl ⟨C', D', by rw [e1', bd_s, if_pos rfl], e2, hF, g0.tr gc, k0.tr gd⟩
  · have e1' : Tr_readNumber 2 7 (wr C 1 9 1) = some (0, C') := e1
    have e3' : Mo_readNumber 2 7 D1 = some (0, D') := e3
    have n0 := hF.n0
    refine .inr (.inl ⟨C', D1, wr D' 36 0 0, by rw [e1', bd_s, if_pos rfl], e2, d12, ?_, hF.mv rfl rfl (by rw [wr_ne (by omega)]) (by rw [wr_ne (by omega)]), g0.tr gc, (k0.tr gd).tr (gd'.tr GD.w36)⟩)
    rw [Mo_readLineOf, if_pos rfl, e3', bd_s, if_neg n0.1, Mo_readLineOf_b28, reads_f (by rw [wr_ne (by omega)]; exact n0.2.1), bv_s]
  · have e1' : Tr_readNumber 2 7 (wr C 1 9 1) = some (1, C') := e1
    have e3' : Mo_readNumber 2 7 D1 = some (nI v, D1) := e3
    obtain ⟨tC, tD, t3, t8, tq, t10, t12, ⟨p', r, w, hh, hp', hr, hw, a1, a2, a3, d0, d1, d2, x8, x4, h6, hV⟩, tpT⟩ := id hS
    obtain ⟨_, _, c5, d9, t6⟩ := id hT
    obtain ⟨c6, d11⟩ := t6 rfl
    have ev : v = 2 ∨ v = 3 ∨ v = 4 ∨ v = 5 ∨ v = 6 ∨ v = 7 := by omega
    by_cases hv : v = 4 ∨ v = 6
    · have ip : Mo_isPrime (nI v) D1 = some (0, D1) := by
        unfold Mo_isPrime
        rcases hv with rfl | rfl
        · rw [if_neg (by decide), if_neg (by decide), if_neg (by decide), if_neg (by decide)]
        · rw [if_neg (by decide), if_neg (by decide), if_neg (by decide), if_neg (by decide)]
      have eb : Tr_readPrime_b51 C' = some (0, wr (wr C' 1 10 (nI 3)) 1 11 (nI st)) := by
        rw [Tr_readPrime_b51, stop_ok, bd_s, if_pos z01_0, c5]; rfl
      refine .inr (.inl ⟨wr (wr C' 1 10 (nI 3)) 1 11 (nI st), D1, wr (wr (wr D1 32 12 (nI 3)) 32 13 (nI st)) 36 0 (nI v), ?_, e2, t12, ?_, (FA.set (C := C') (D := D1) (f := 3) (st := st) (by omega) (by omega)).mv rfl rfl (by rw [wr_ne (by omega)]) (by rw [wr_ne (by omega)]), (g0.tr gc).tr GC.st, ((k0.tr gd).tr GD.st).tr GD.w36⟩)
      · rw [e1', bd_s, if_neg (by decide), c6, eb]
        rcases hv with rfl | rfl
        · rw [if_pos (by decide)]
        · rw [if_neg (by decide), if_pos (by decide)]
      · rw [Mo_readLineOf, if_pos rfl, e3', bd_s, if_pos t12, ip, bd_s, req0 (v := nI st) t12 d9, bv_s, Mo_readLineOf_b28, reads_f (by rw [wr_ne (by omega), wr_o (by omega), wr_s]; decide), bv_s]
        rfl
    · have pv' : pr v := by unfold pr; omega
      have ip : Mo_isPrime (nI v) D1 = some (1, D1) := by
        unfold Mo_isPrime
        rcases pv' with rfl | rfl | rfl | rfl
        · rw [if_pos (by decide)]
        · rw [if_neg (by decide), if_pos (by decide)]
        · rw [if_neg (by decide), if_neg (by decide), if_pos (by decide)]
        · rw [if_neg (by decide), if_neg (by decide), if_neg (by decide), if_pos (by decide)]
      have gx : GC C' (wr C' 3 1 (nI v)) := GC.wc (.inl rfl)
      have kx : GD D1 (wr D1 36 0 (nI v)) := GD.w36
      refine .inr (.inr ⟨wr C' 3 1 (nI v), D1, wr D1 36 0 (nI v), q, ?_, e2, t12, ?_, ⟨tC.G gx, tD.G kx, by rw [wr_ne (by omega)]; exact t3, by rw [wr_ne (by omega)]; exact t8, tq, by rw [wr_ne (by omega)]; exact t10, by rw [wr_ne (by omega)]; exact t12, ⟨v, r, w, hh, pv', hr, hw, wr_s, by rw [wr_o (by omega)]; exact a2, by rw [wr_o (by omega)]; exact a3, wr_s, by rw [wr_o (by omega)]; exact d1, by rw [wr_o (by omega)]; exact d2, by rw [wr_ne (by omega)]; exact x8, by rw [wr_ne (by omega)]; exact x4, h6, fun t i j y1 y2 y3 => ?_⟩, tpT.mv (by rw [wr_ne (by omega)]) (by rw [wr_ne (by omega)])⟩, hpq, (g0.tr gc).tr gx, (k0.tr gd).tr kx⟩)
      · rw [e1', bd_s, if_neg (by decide), c6, if_neg (show ¬ nI v = 4 from fun g => hv (.inl ((nI_eq (b := 4) (by omega) (by omega)).mp g))), if_neg (show ¬ nI v = 6 from fun g => hv (.inr ((nI_eq (b := 6) (by omega) (by omega)).mp g)))]
      · rw [Mo_readLineOf, if_pos rfl, e3', bd_s, if_pos t12, ip, bd_s, req1, bv_s, Mo_readLineOf_b28, bv_some]
      · rw [wr_ne (by omega), wr_o (by omega)]
        exact hV t i j y1 y2 y3
theorem mid_b {k : Nat} {b : Nat → Nat} {C D : Mem} {p L x lo : Nat} (h : ST k b C D p) (hL : L = 2 ∨ L = 3 ∨ L = 4 ∨ L = 5) (hx : x ≤ 6) (hxh : L = 5 → nI x ≤ C 1 8) (hlo : lo ≤ 1) : MDx k b p (Tr_readBlock_b51 (nI L) (nI x) (nI lo) C) C D D (Mo_readLineOf_b95 (nI (L - 1)) (nI x) (nI lo)) := by
  unfold MDx
  have eC : Tr_readBlock_b51 (nI L) (nI x) (nI lo) C = bd (Tr_readNumber (nI lo) 4 C) fun r3 M1 => if r3 = 0 then (some (0, M1)) else blkC (nI L) (nI x) M1 := rfl
  rw [eC]
  rcases num (lo := lo) (hi := 4) h (by omega) (by omega) with ⟨C', D', e1, e2, hF, gc, gd⟩ | ⟨C', D1, D', e1, e2, d12, e3, hF, x4, gc, gd, gd'⟩ | ⟨C', D1, st, q, v, e1, e2, e3, v2, v4, hS, hpq, hT, gc, gd, c8⟩
  · have e1' : Tr_readNumber (nI lo) 4 C = some (0, C') := e1
    exact .inl ⟨C', D', by rw [e1', bd_s, if_pos rfl], e2, hF, gc, gd⟩
  · have e1' : Tr_readNumber (nI lo) 4 C = some (0, C') := e1
    have e3' : Mo_readNumber (nI lo) 4 D1 = some (0, D') := e3
    have n0 := hF.n0
    refine .inr (.inl ⟨C', D1, D', by rw [e1', bd_s, if_pos rfl], e2, d12, ?_, hF, gc, gd.tr gd'⟩)
    rw [Mo_readLineOf_b95, e3', bd_s, blk_f n0.1 n0.2.1, bv_s, reads_f n0.2.1, bv_s]
  · have e1' : Tr_readNumber (nI lo) 4 C = some (1, C') := e1
    have e3' : Mo_readNumber (nI lo) 4 D1 = some (nI v, D1) := e3
    have t12 : D1 32 12 = 0 := hS.2.2.2.2.2.2.1
    rw [e1', bd_s, if_neg (by decide)]
    have h8 : L = 5 → nI x ≤ C' 1 8 := fun g => by rw [c8]; exact hxh g
    rcases block hS hT hL v4 hx h8 with ⟨C2, D2, f1, f2, hF, gc2, gd2⟩ | ⟨C2, D2, f1, f2, hS2, gc2, gd2⟩
    · have n0 := hF.n0
      refine .inr (.inl ⟨C2, D1, D2, f1, e2, t12, ?_, hF, gc.tr gc2, gd.tr gd2⟩)
      rw [Mo_readLineOf_b95, e3', bd_s, f2, bv_s, reads_f n0.2.1, bv_s]
    · refine .inr (.inr ⟨C2, D1, D2, q, f1, e2, t12, ?_, hS2, hpq, gc.tr gc2, gd.tr gd2⟩)
      rw [Mo_readLineOf_b95, e3', bd_s, f2, bv_s, bv_some]
theorem rb_eq {L x : Nat} {C : Mem} (hL : L = 2 ∨ L = 3 ∨ L = 4 ∨ L = 5) : ∃ lo : Nat, lo ≤ 1 ∧ Tr_readBlock_b36 (nI L) (nI x) C = Tr_readBlock_b51 (nI L) (nI x) (nI lo) C ∧ ∀ D, Mo_readLineOf_b79 (nI (L - 1)) (nI x) D = Mo_readLineOf_b95 (nI (L - 1)) (nI x) (nI lo) D := by
  unfold Tr_readBlock_b36 Tr_readBlock_b46 Mo_readLineOf_b79 Mo_readLineOf_b90
  rcases hL with rfl | rfl | rfl | rfl
  · refine ⟨0, by omega, ?_, fun D => ?_⟩
    · rw [if_pos (by decide)]; rfl
    · rw [if_pos (by decide)]; rfl
  · refine ⟨0, by omega, ?_, fun D => ?_⟩
    · rw [if_neg (by decide), if_pos (by decide)]; rfl
    · rw [if_neg (by decide), if_pos (by decide)]; rfl
  · refine ⟨1, by omega, ?_, fun D => ?_⟩
    · rw [if_neg (by decide), if_neg (by decide)]; rfl
    · rw [if_neg (by decide), if_neg (by decide)]; rfl
  · refine ⟨1, by omega, ?_, fun D => ?_⟩
    · rw [if_neg (by decide), if_neg (by decide)]; rfl
    · rw [if_neg (by decide), if_neg (by decide)]; rfl
theorem MDx.cg {k : Nat} {b : Nat → Nat} {p : Nat} {tr tr' : Option (Int32 × Mem)} {C D D0 : Mem} {rl rl' : Mem → Option Mem} (h : MDx k b p tr C D D0 rl) (h1 : tr' = tr) (h2 : ∀ D, rl' D = rl D) : MDx k b p tr' C D D0 rl' := by
  have e : rl' = rl := funext h2
  subst h1; subst e; exact h
theorem mid_block {k : Nat} {b : Nat → Nat} {C D : Mem} {p L : Nat} (h : ST k b C D p) (hL : L = 2 ∨ L = 3 ∨ L = 4) : MDx k b p (Tr_readBlock (nI L) C) C D D (Mo_readLineOf (nI (L - 1))) := by
  obtain ⟨lo, hlo, e1, e2⟩ := rb_eq (L := L) (x := 0) (C := C) (by omega)
  refine (mid_b (L := L) (x := 0) h (by omega) (by omega) (fun g => by omega) hlo).cg ?_ (fun D => ?_)
  · rw [← e1, Tr_readBlock, if_neg (show ¬ nI L = 5 from fun g => by have := (nI_eq (b := 5) (by omega) (by omega)).mp g; omega)]; rfl
  · rw [← e2, Mo_readLineOf, if_neg (show ¬ nI (L - 1) = 0 from fun g => by have := (nI_eq (b := 0) (by omega) (by omega)).mp g; omega), if_neg (show ¬ nI (L - 1) = 4 from fun g => by have := (nI_eq (b := 4) (by omega) (by omega)).mp g; omega)]; rfl
theorem i32le {a c d : Int32} (h : a ≤ c) (g : c ≤ d) : a ≤ d := by
  rw [Int32.le_iff_toInt_le] at h g ⊢
  omega
theorem mid_at {k : Nat} {b : Nat → Nat} {C D : Mem} {p : Nat} (h : ST k b C D p) : MDx k b p (Tr_readBlock 5 C) C D D (Mo_readLineOf 4) := by
  unfold MDx Tr_readBlock
  rw [if_pos rfl]
  have rl : ∀ D1, Mo_readLineOf 4 D1 = bd (Mo_readNumber 0 6 D1) fun r3 M1 => Mo_readLineOf_b72 4 r3 (if r3 ≤ M1 32 4 then M1 32 4 else r3) M1 := fun D1 => by
    rw [Mo_readLineOf, if_neg (by decide), if_pos rfl]
    congr 1
    funext r3 M1
    split <;> rfl
  obtain ⟨lo, hlo, _, rb2⟩ := rb_eq (L := 5) (x := 0) (C := C) (by omega)
  rcases num (lo := 0) (hi := 6) h (by omega) (by omega) with ⟨C', D', e1, e2, hF, gc, gd⟩ | ⟨C', D1, D', e1, e2, d12, e3, hF, x4, gc, gd, gd'⟩ | ⟨C', D1, st, q, x, e1, e2, e3, v2, x6, hS, hpq, hT, gc, gd, c8⟩
  · have e1' : Tr_readNumber 0 6 C = some (0, C') := e1
    exact .inl ⟨C', D', by rw [e1', bd_s, if_pos rfl], e2, hF, gc, gd⟩
  · have e1' : Tr_readNumber 0 6 C = some (0, C') := e1
    have e3' : Mo_readNumber 0 6 D1 = some (0, D') := e3
    have n0 := hF.n0
    refine .inr (.inl ⟨C', D1, wr D' 32 4 (if (0 : Int32) ≤ D' 32 4 then D' 32 4 else 0), by rw [e1', bd_s, if_pos rfl], e2, d12, ?_, hF.mv rfl rfl (wr_o (by omega)) (wr_o (by omega)), gc, gd.tr (gd'.tr (GD.w32 (by omega) (by omega)))⟩)
    have m0 : ¬ wr D' 32 4 (if (0 : Int32) ≤ D' 32 4 then D' 32 4 else 0) 32 12 = 0 := by rw [wr_o (by omega)]; exact n0.1
    have m1 : ¬ wr D' 32 4 (if (0 : Int32) ≤ D' 32 4 then D' 32 4 else 0) 32 12 ≤ 0 := by rw [wr_o (by omega)]; exact n0.2.1
    rw [rl, e3', bd_s, Mo_readLineOf_b72, reads_f m1, bv_s]
    have := rb2 (wr D' 32 4 (if (0 : Int32) ≤ D' 32 4 then D' 32 4 else 0))
    have t' : Mo_readLineOf_b79 4 0 (wr D' 32 4 (if (0 : Int32) ≤ D' 32 4 then D' 32 4 else 0)) = _ := this
    rw [t', b95_f m0 m1]
  · have e1' : Tr_readNumber 0 6 C = some (1, C') := e1
    have e3' : Mo_readNumber 0 6 D1 = some (nI x, D1) := e3
    obtain ⟨tC, tD, t3, t8, tq, t10, t12, ⟨p', r, w, hh, hp', hr, hw, a1, a2, a3, d0, d1, d2, x8, x4, h6, hV⟩, tpT⟩ := id hS
    obtain ⟨_, _, c5, d9, t6⟩ := id hT
    obtain ⟨c6, d11⟩ := t6 rfl
    obtain ⟨h', m1, m2, m3, m4, m5⟩ : ∃ h', (if C' 1 8 < C' 1 6 then C' 1 6 else C' 1 8) = h' ∧ (if nI x ≤ D1 32 4 then D1 32 4 else nI x) = h' ∧ nI x ≤ h' ∧ hh ≤ h' ∧ h' ≤ 6 := by
      rw [x8, c6, x4]
      by_cases z : nI x ≤ hh
      · exact ⟨hh, by rw [if_neg (Int32.not_lt.mpr z)], by rw [if_pos z], z, Int32.le_refl _, h6⟩
      · exact ⟨nI x, by rw [if_pos (Int32.not_le.mp z)], by rw [if_neg z], Int32.le_refl _, Int32.le_of_lt (Int32.not_le.mp z), nI_le (b := 6) x6 (by omega)⟩
    have gx : GC C' (wr C' 1 8 h') := GC.w1 (by omega) (by omega)
    have kx : GD D1 (wr D1 32 4 h') := GD.w32 (by omega) (by omega)
    have hS2 : ST k b (wr C' 1 8 h') (wr D1 32 4 h') q := ⟨tC.G gx, tD.G kx, by rw [wr_o (by omega)]; exact t3, by rw [wr_o (by omega)]; exact t8, tq, by rw [wr_o (by omega)]; exact t10, by rw [wr_o (by omega)]; exact t12, ⟨p', r, w, h', hp', hr, hw, by rw [wr_ne (by omega)]; exact a1, by rw [wr_ne (by omega)]; exact a2, by rw [wr_ne (by omega)]; exact a3, by rw [wr_ne (by omega)]; exact d0, by rw [wr_ne (by omega)]; exact d1, by rw [wr_ne (by omega)]; exact d2, wr_s, wr_s, m5, fun t i j y1 y2 y3 => by
      rw [wr_ne (by omega), wr_ne (by omega)]
      obtain ⟨v, g1, g2, g3, g4, g5⟩ := hV t i j y1 y2 y3
      refine ⟨v, g1, g2, g3, ?_, g5⟩
      rcases g4 with g4 | g4
      · exact .inl g4
      · exact .inr (i32le g4 m4)⟩, tpT.mv (wr_o (by omega)) (wr_o (by omega))⟩
    obtain ⟨lo, hlo, rb1, rb2⟩ := rb_eq (L := 5) (x := x) (C := wr C' 1 8 h') (by omega)
    have rb1' : Tr_readBlock_b36 5 (nI x) (wr C' 1 8 h') = Tr_readBlock_b51 (nI 5) (nI x) (nI lo) (wr C' 1 8 h') := rb1
    have rb2' : ∀ D, Mo_readLineOf_b79 4 (nI x) D = Mo_readLineOf_b95 (nI (5 - 1)) (nI x) (nI lo) D := rb2
    rw [e1', bd_s, if_neg (by decide), m1, c6, rb1']
    have rl' : Mo_readLineOf 4 D1 = bv (Mo_reads (wr D1 32 4 h')) fun M1 => Mo_readLineOf_b95 (nI (5 - 1)) (nI x) (nI lo) M1 := by
      rw [rl, e3', bd_s, Mo_readLineOf_b72, m2]
      congr 1
      funext M1
      exact rb2' M1
    rcases mid_b (L := 5) (x := x) (lo := lo) hS2 (by omega) x6 (fun _ => by rw [wr_s]; exact m3) hlo with ⟨C2, D2, f1, f2, hF, gc2, gd2⟩ | ⟨C2, D2, D3, f1, f2, f12, f3, hF, gc2, gd2⟩ | ⟨C2, D2, D3, q2, f1, f2, f12, f3, hS3, hq2, gc2, gd2⟩
    · have n0 := hF.n0
      refine .inr (.inl ⟨C2, D1, D2, f1, e2, t12, ?_, hF, (gc.tr gx).tr gc2, (gd.tr kx).tr gd2⟩)
      rw [rl', f2, bv_s, b95_f n0.1 n0.2.1]
    · refine .inr (.inl ⟨C2, D1, D3, f1, e2, t12, ?_, hF, (gc.tr gx).tr gc2, (gd.tr kx).tr gd2⟩)
      rw [rl', f2, bv_s, f3]
    · refine .inr (.inr ⟨C2, D1, D3, q2, f1, e2, t12, ?_, hS3, by omega, (gc.tr gx).tr gc2, (gd.tr kx).tr gd2⟩)
      rw [rl', f2, bv_s, f3]
