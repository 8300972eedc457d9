/-! PURE: alike -/
theorem cmpC {C : Mem} : ∀ n i, 45 - i < n → i ≤ 45 → (∀ q, q < i → C 30 q = C 31 q) → ∃ v, Pf_alike_L55 n (nI i) C = some (v, C) ∧ (v = 0 ∨ v = 1) ∧ (v = 1 ↔ ∀ q, q < 45 → C 30 q = C 31 q) := by
  intro n
  induction n with
  | zero => intro i h; omega
  | succ n ih =>
    intro i h1 h2 h3
    rw [Pf_alike_L55]
    by_cases e : i = 45
    · subst e
      rw [if_pos (show (45 : Int32) ≤ nI 45 by decide)]
      exact ⟨1, rfl, .inr rfl, fun _ => h3, fun _ => rfl⟩
    · rw [if_neg (show ¬ (45 : Int32) ≤ nI i from nI_ge (b := 45) (by omega) (by omega)), if_pos (ibn (by omega) (by omega)), if_pos (ibn (by omega) (by omega)), ixn (by omega)]
      by_cases q : C 30 i = C 31 i
      · rw [if_pos q, nI_1]
        exact ih (i + 1) (by omega) (by omega) (fun j hj => by
          by_cases z : j = i
          · subst z; exact q
          · exact h3 j (by omega))
      · rw [if_neg q]
        exact ⟨0, rfl, .inl rfl, fun z => absurd z (by decide), fun g => absurd (g i (by omega)) q⟩
theorem cmpD {D : Mem} : ∀ n i s, 45 - i < n → i ≤ 45 → ((s = 1 ∧ ∀ q, q < i → D 44 q = D 45 q) ∨ (s = 0 ∧ ∃ q, q < 45 ∧ D 44 q ≠ D 45 q)) → ∃ v, Mo_alike_L101 n s (nI i) D = some (v, D) ∧ (v = 0 ∨ v = 1) ∧ (v = 1 ↔ ∀ q, q < 45 → D 44 q = D 45 q) := by
  intro n
  induction n with
  | zero => intro i s h; omega
  | succ n ih =>
    intro i s h1 h2 h3
    rw [Mo_alike_L101]
    by_cases e : i = 45
    · subst e
      rw [if_pos (show (45 : Int32) ≤ nI 45 by decide)]
      rcases h3 with ⟨rfl, g⟩ | ⟨rfl, q, g1, g2⟩
      · rw [flag_ok (.inr rfl), bd_s]
        exact ⟨1, rfl, .inr rfl, fun _ => g, fun _ => rfl⟩
      · rw [flag_ok (.inl rfl), bd_s]
        exact ⟨0, rfl, .inl rfl, fun z => absurd z (by decide), fun g => absurd (g q g1) g2⟩
    · rw [if_neg (show ¬ (45 : Int32) ≤ nI i from nI_ge (b := 45) (by omega) (by omega)), Mo_alike_b130, Mo_alike_b131, Mo_alike_b131, nI_1]
      rcases h3 with ⟨rfl, g⟩ | ⟨rfl, g⟩
      · rw [if_neg (show ¬ (1 : Int32) = 0 by decide), if_pos (ibn (by omega) (by omega)), if_pos (ibn (by omega) (by omega)), ixn (by omega)]
        by_cases q : D 44 i = D 45 i
        · rw [if_pos q]
          exact ih (i + 1) 1 (by omega) (by omega) (.inl ⟨rfl, fun j hj => by
            by_cases z : j = i
            · subst z; exact q
            · exact g j (by omega)⟩)
        · rw [if_neg q]
          exact ih (i + 1) 0 (by omega) (by omega) (.inr ⟨rfl, i, by omega, q⟩)
      · rw [if_pos rfl]
        exact ih (i + 1) 0 (by omega) (by omega) (.inr ⟨rfl, g⟩)
theorem save_ok {k : Int32} {D : Mem} : Mo_alike_L26 FU k 0 D = (bv (Mo_findForm 44 (wra D 43 (fun b => if b < 35 then D 33 b else D 43 b))) fun M1 => bv (Mo_takes k M1) fun M3 => bv (Mo_findForm 45 M3) fun M5 => Mo_alike_L73 FU 0 M5) := by
  obtain ⟨D', g1, g2⟩ := lp (fun m i M' => Mo_alike_L26 m k (nI i) M') (fun M' => bv (Mo_findForm 44 M') fun M1 => bv (Mo_takes k M1) fun M3 => bv (Mo_findForm 45 M3) fun M5 => Mo_alike_L73 FU 0 M5) 35 (fun i M' => M' = wra D 43 (fun b => if b < i then D 33 b else D 43 b)) (fun m M' _ => by
      show Mo_alike_L26 (m + 1) k (nI 35) M' = _
      rw [Mo_alike_L26, if_pos (show (35 : Int32) ≤ nI 35 by decide)]) (fun m i M' hi h' => by
      show ∃ M1, _ ∧ Mo_alike_L26 (m + 1) k (nI i) M' = Mo_alike_L26 m k (nI (i + 1)) M1
      rw [Mo_alike_L26, if_neg (show ¬ (35 : Int32) ≤ nI i from nI_ge (b := 35) hi (by omega)), if_pos (ibn (by omega) (by omega)), if_pos (ibn (by omega) (by omega)), ixn (by omega), nI_1]
      refine ⟨_, ?_, rfl⟩
      subst h'
      funext x b
      rw [wr_g, wra_g, wra_g, wra_g]
      grind) 35 FU 0 D (by omega) (FU_lt (by omega)) (by funext x b; rw [wra_g]; by_cases q : x = 43 <;> simp [q])
  subst g1
  exact g2
theorem rest_L {D : Mem} : Mo_alike_L73 FU 0 D = Mo_alike_L101 FU 1 0 (wra D 33 (fun b => if b < 35 then D 43 b else D 33 b)) := by
  obtain ⟨D', g1, g2⟩ := lp (fun m i M' => Mo_alike_L73 m (nI i) M') (fun M' => Mo_alike_L101 FU 1 0 M') 35 (fun i M' => M' = wra D 33 (fun b => if b < i then D 43 b else D 33 b)) (fun m M' _ => by
      show Mo_alike_L73 (m + 1) (nI 35) M' = _
      rw [Mo_alike_L73, if_pos (show (35 : Int32) ≤ nI 35 by decide)]) (fun m i M' hi h' => by
      show ∃ M1, _ ∧ Mo_alike_L73 (m + 1) (nI i) M' = Mo_alike_L73 m (nI (i + 1)) M1
      rw [Mo_alike_L73, if_neg (show ¬ (35 : Int32) ≤ nI i from nI_ge (b := 35) hi (by omega)), if_pos (ibn (by omega) (by omega)), if_pos (ibn (by omega) (by omega)), ixn (by omega), nI_1]
      refine ⟨_, ?_, rfl⟩
      subst h'
      funext x b
      rw [wr_g, wra_g, wra_g, wra_g]
      grind) 35 FU 0 D (by omega) (FU_lt (by omega)) (by funext x b; rw [wra_g]; by_cases q : x = 33 <;> simp [q])
  subst g1
  exact g2
theorem FC.mv {C C' : Mem} {e p r w : Nat} {T : Nat → Nat → Nat → Nat} (h : FC C e p r w T) (h1 : C' e = C e) : FC C' e p r w T := by
  unfold FC at *
  rw [h1]; exact h
theorem FD.mv {C C' : Mem} {e p r w : Nat} {T : Nat → Nat → Nat → Nat} (h : FD C e p r w T) (h1 : C' e = C e) : FD C' e p r w T := by
  unfold FD at *
  rw [h1]; exact h
theorem op_alike : Op_alike Rel := fun M a hR => by
  show ∃ (r : Int32) (M1 M2 : Mem), Pf_alike a M = some (r, M1) ∧ Mo_alike a M1 = some (r, M2) ∧ Rel M2
  unfold Pf_alike Mo_alike
  rw [isImage_ok, bd_s]
  by_cases h0 : 0 ≤ a ∧ a < 2
  · obtain ⟨k, hk, rfl⟩ := ran (n := 2) (by omega) h0.1 h0.2
    have ib2 : ib (nI k) 2 = true := ibn hk (by omega)
    rw [if_pos h0, if_neg (show ¬ (1 : Int32) = 0 by decide), if_pos ib2, ixn (by omega)]
    rcases hR.2.2.1 k hk with ⟨z1, z2⟩ | ⟨z1, z2, z3⟩
    · rw [z1, if_pos rfl]
      refine ⟨-2, M, M, rfl, ?_, hR⟩
      rw [in_1, bd_s, if_pos h0, if_neg (show ¬ (1 : Int32) = 0 by decide), if_pos ib2, z2, if_pos rfl]
    · rw [z1, if_neg (show ¬ (1 : Int32) = 0 by decide)]
      have hf : M 32 17 = 0 := hR.2.2.2.2.2.2
      obtain ⟨p, r, w, T, hP, hQ⟩ := PRel.pd (C := M) (D := M) (c := 5) hR.2.1 hf
      have im : PRel (M (8 + 2 * k)) (M (8 + 2 * k + 1)) ((wra M 33 (fun b => if b < 35 then M 34 (35 * k + b) else M 33 b)) 33) := by
        rw [show 8 + 2 * k + 1 = 9 + 2 * k by omega]
        exact z3.cg (fun _ _ _ => rfl) (fun _ _ => rfl) (fun b hb => by rw [wra_g, if_pos rfl, if_pos hb])
      obtain ⟨p', r', w', T', hP', hQ'⟩ := PRel.pd (C := M) (D := wra M 33 (fun b => if b < 35 then M 34 (35 * k + b) else M 33 b)) (c := 8 + 2 * k) im (by rw [wra_g, if_neg (by omega)]; exact hf)
      have okk : okc (8 + 2 * k) := ⟨(rfn7 k hk).2, by omega, by omega, by omega, by omega⟩
      obtain ⟨C1, x1, x2, x3⟩ := tell_ok (e := 30) okc5 rfl rfl (by omega) (.inl rfl) hP
      obtain ⟨C2, y1, y2, y3⟩ := tell_ok (e := 31) okk rfl rfl (by omega) (.inr rfl) (hP'.mv (x2 _ (by omega) (by omega)) (x2 _ (by omega) (by omega)))
      obtain ⟨v, v1, v2, v3⟩ := cmpC (C := C2) FU 0 (FU_lt (by omega)) (by omega) (fun q hq => by omega)
      have vA : v = 1 ↔ Alk p r w T p' r' w' T' := v3.trans (alkC hP.1 hP'.1 hP.2.1 hP'.2.1 hP.2.2.1 hP'.2.2.1 (x3.mv (y2 30 (by omega) (by omega))) y3)
      have fC : ∀ y, y < 22 ∨ 32 ≤ y → C2 y = M y := fun y hy => by rw [y2 y (by omega) (by omega), x2 y (by omega) (by omega)]
      rw [x1, bv_s, if_pos ib2, (rfn7 k hk).1, y1, bv_s, show Pf_alike_L55 FU 0 C2 = some (v, C2) from v1]
      -- the reference
      have d1 : ∀ y, y ≠ 43 → (wra C2 43 (fun b => if b < 35 then C2 33 b else C2 43 b)) y = C2 y := fun y hy => by funext b; rw [wra_g, if_neg hy]
      have d43 : ∀ b, b < 35 → (wra C2 43 (fun b => if b < 35 then C2 33 b else C2 43 b)) 43 b = M 33 b := fun b hb => by rw [wra_g, if_pos rfl, if_pos hb, fC 33 (by omega)]
      have sv := save_ok (k := nI k) (D := C2)
      generalize wra C2 43 (fun b => if b < 35 then C2 33 b else C2 43 b) = D1 at d1 d43 sv
      have hD1 : DP D1 p r w T := hQ.mv (by rw [d1 33 (by omega), fC 33 (by omega)]) (by rw [d1 32 (by omega), fC 32 (by omega)])
      obtain ⟨D2, e1, e2, e3, e4⟩ := form_ok (e := 44) rfl rfl (.inl rfl) hD1 (by rw [d1 32 (by omega), fC 32 (by omega)]; exact hf)
      have tk := takes_loop (k := k) (M := D2) hk
      have d33 : (wra D2 33 (fun b => if b < 35 then D2 34 (35 * k + b) else D2 33 b)) 33 = (wra M 33 (fun b => if b < 35 then M 34 (35 * k + b) else M 33 b)) 33 := by
        funext b
        rw [wra_g, wra_g, if_pos rfl, if_pos rfl, e2 34 (by omega) (by omega) (by omega), e2 33 (by omega) (by omega) (by omega), d1 34 (by omega), d1 33 (by omega), fC 34 (by omega), fC 33 (by omega)]
      have d3o : ∀ y, y ≠ 33 → (wra D2 33 (fun b => if b < 35 then D2 34 (35 * k + b) else D2 33 b)) y = D2 y := fun y hy => by funext b; rw [wra_g, if_neg hy]
      have d3h : ∀ b, 35 ≤ b → (wra D2 33 (fun b => if b < 35 then D2 34 (35 * k + b) else D2 33 b)) 33 b = D2 33 b := fun b hb => by rw [wra_g, if_pos rfl, if_neg (by omega)]
      generalize wra D2 33 (fun b => if b < 35 then D2 34 (35 * k + b) else D2 33 b) = D3 at tk d33 d3o d3h
      have hD3 : DP D3 p' r' w' T' := hQ'.mv d33 (by rw [d3o 32 (by omega), e3 17 (by omega) (by omega), d1 32 (by omega), fC 32 (by omega), wra_g, if_neg (by omega)])
      obtain ⟨D4, f1, f2, f3, f4⟩ := form_ok (e := 45) rfl rfl (.inr rfl) hD3 (by rw [d3o 32 (by omega), e3 17 (by omega) (by omega), d1 32 (by omega), fC 32 (by omega)]; exact hf)
      have rl := rest_L (D := D4)
      have g33 : (wra D4 33 (fun b => if b < 35 then D4 43 b else D4 33 b)) 33 = M 33 := by
        funext b
        rw [wra_g, if_pos rfl]
        by_cases q : b < 35
        · rw [if_pos q, f2 43 (by omega) (by omega) (by omega), d3o 43 (by omega), e2 43 (by omega) (by omega) (by omega), d43 b q]
        · rw [if_neg q, f2 33 (by omega) (by omega) (by omega), d3h b (by omega), e2 33 (by omega) (by omega) (by omega), d1 33 (by omega), fC 33 (by omega)]
      have g5o : ∀ y, y ≠ 33 → (wra D4 33 (fun b => if b < 35 then D4 43 b else D4 33 b)) y = D4 y := fun y hy => by funext b; rw [wra_g, if_neg hy]
      generalize wra D4 33 (fun b => if b < 35 then D4 43 b else D4 33 b) = D5 at rl g33 g5o
      obtain ⟨u, u1, u2, u3⟩ := cmpD (D := D5) FU 0 1 (FU_lt (by omega)) (by omega) (.inl ⟨rfl, fun q hq => by omega⟩)
      have uA : u = 1 ↔ Alk p r w T p' r' w' T' := u3.trans (alkD hP.1 hP'.1 hP.2.1 hP'.2.1 hP.2.2.1 hP'.2.2.1 (e4.mv (by rw [g5o 44 (by omega), f2 44 (by omega) (by omega) (by omega), d3o 44 (by omega)])) (f4.mv (by rw [g5o 45 (by omega)])))
      have uv : u = v := by
        rcases u2 with q | q
        · rcases v2 with q' | q'
          · rw [q, q']
          · exact absurd (uA.mpr (vA.mp q')) (by rw [q]; decide)
        · rw [q, vA.mpr (uA.mp q)]
      refine ⟨v, C2, D5, rfl, ?_, hR.q (fun c hc => ?_) (fun q a b => ?_)⟩
      · rw [in_1, bd_s, if_pos h0, if_neg (show ¬ (1 : Int32) = 0 by decide), if_pos ib2, fC 35 (by omega), z2, if_neg (show ¬ (1 : Int32) = 0 by decide), sv, e1, bv_s, tk, bv_s, f1, bv_s, rl, show Mo_alike_L101 FU 1 0 D5 = some (u, D5) from u1, uv]
      · by_cases q : c = 33
        · subst q; exact g33
        · rw [g5o c q, f2 c (by omega) (by omega) (by omega), d3o c q, e2 c (by omega) (by omega) (by omega), d1 c (by omega), fC c (by omega)]
      · rw [g5o 32 (by omega), f3 q a b, d3o 32 (by omega), e3 q a b, d1 32 (by omega), fC 32 (by omega)]
  · rw [if_neg h0, if_pos rfl]
    refine ⟨-1, M, M, rfl, ?_, hR⟩
    rw [in_1, bd_s, if_neg h0, if_pos rfl]
