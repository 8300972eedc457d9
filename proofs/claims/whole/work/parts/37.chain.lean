/-! PURE: dimensions; chains -/
noncomputable def lg (p n : Nat) : Nat := @dite Nat (∃ d, p ^ d = n) (Classical.propDecidable _) (fun h => h.choose) (fun _ => 0)
theorem pow_inj {p a b : Nat} (hp : 2 ≤ p) (h : p ^ a = p ^ b) : a = b := by
  rcases Nat.lt_trichotomy a b with q | q | q
  · have := Nat.pow_lt_pow_right (a := p) (by omega) q; omega
  · exact q
  · have := Nat.pow_lt_pow_right (a := p) (by omega) q; omega
theorem lg_pow {p d : Nat} (hp : 2 ≤ p) : lg p (p ^ d) = d := by
  unfold lg
  have hh : ∃ d', p ^ d' = p ^ d := ⟨d, rfl⟩
  rw [@dif_pos _ (Classical.propDecidable _) hh]
  exact pow_inj hp hh.choose_spec
noncomputable def dmn (p h n : Nat) (F : Nat → Nat → Nat) : Nat := lg p (cn p 0 n (fun y => iv (Sol p h n F y)) (fun _ => 0))
theorem use_dm {C : Mem} {p h w : Nat} {F : Nat → Nat → Nat} (hp : pr p) (hM : MC C p h w F) : ∃ C', Eq_useUpForRank C = some (nI (w - dmn p h w F), C') ∧ (∀ x, x ≠ 24 → C' x = C x) ∧ dmn p h w F ≤ w ∧ cn p 0 w (fun y => iv (Sol p h w F y)) (fun _ => 0) = p ^ dmn p h w F := by
  have h7 := pr_le hp
  obtain ⟨C', d, h1, h2, h3, h4, h5⟩ := use_ok hp hM
  have e : dmn p h w F = w - d := by unfold dmn; rw [h5, lg_pow (by omega)]
  refine ⟨C', ?_, h2, by omega, by rw [h5, e]⟩
  rw [h1, e, show w - (w - d) = d by omega]
theorem rank_dm {D : Mem} {p h m : Nat} {F : Nat → Nat → Nat} (hp : pr p) (hm : m ≤ 20) (hM : MD D p h F) : ∃ D', Mo_rankOf (nI m) D = some (nI (m - dmn p h m F), D') ∧ (∀ x, x ≠ 38 → D' x = D x) ∧ dmn p h m F ≤ m := by
  have h7 := pr_le hp
  obtain ⟨D', d, h1, h2, h3, h5⟩ := rankD_n hp hm hM
  have e : dmn p h m F = m - d := by unfold dmn; rw [h5, lg_pow (by omega)]
  refine ⟨D', ?_, h2, by omega⟩
  rw [h1, e, show m - (m - d) = d by omega]
theorem nIs {a b : Nat} (h : b ≤ a) : nI a - nI b = nI (a - b) := by
  rw [nIo, nIo, nIo, ← Int32.ofInt_sub]
  congr 1; omega
theorem dimD_ok {D : Mem} {p h m : Nat} {F : Nat → Nat → Nat} (hp : pr p) (hm : m ≤ 20) (hM : MD D p h F) (e : D 32 16 = nI m) : ∃ D', Mo_dimension D = some (nI (dmn p h m F), D') ∧ ∀ x, x ≠ 38 → D' x = D x := by
  obtain ⟨D', h1, h2, h3⟩ := rank_dm hp hm hM
  refine ⟨D', ?_, h2⟩
  unfold Mo_dimension
  rw [e, h1, bd_s, nIs (by omega), show m - (m - dmn p h m F) = dmn p h m F by omega]
theorem dmn_cg {p h n : Nat} {F G : Nat → Nat → Nat} (h1 : ∀ x, Sol p h n F x ↔ Sol p h n G x) : dmn p h n F = dmn p h n G := by
  unfold dmn
  rw [cn_cg (fun y _ => iv_cg (h1 y))]
/-! chains -/
def dga (p x : Nat) : Int := if x = p then 0 else 1
def dgb (p x : Nat) : Int := if x = p then 1 else -(x : Int)
def loa (p x : Nat) : Int := if x = p then -1 else 0
def lob (p x : Nat) : Int := if x = p then 0 else -1
def KC (p r w : Nat) (T : Nat → Nat → Nat → Nat) (x s : Nat) : Kt := fun b c i j => if b < s ∧ i < r ∧ j < w then (if c = b then vl2 p T (dga p x) (dgb p x) i j else if b = c + 1 then vl2 p T (loa p x) (lob p x) i j else 0) else 0
theorem KC_0 {p r w : Nat} {T : Nat → Nat → Nat → Nat} {x : Nat} : KC p r w T x 0 = K0 := by
  funext b c i j
  exact if_neg (by omega)
theorem KC_1 {p r w : Nat} {T : Nat → Nat → Nat → Nat} {x : Nat} : bk (KC p r w T x 0) 0 0 r w (vl2 p T (dga p x) (dgb p x)) = KC p r w T x 1 := by
  funext b c i j
  rw [KC_0]
  unfold bk KC K0
  grind
theorem KC_s {p r w : Nat} {T : Nat → Nat → Nat → Nat} {x s : Nat} : bk (bk (KC p r w T x (s + 1)) (s + 1) (s + 1) r w (vl2 p T (dga p x) (dgb p x))) (s + 1) s r w (vl2 p T (loa p x) (lob p x)) = KC p r w T x (s + 2) := by
  funext b c i j
  unfold bk KC
  grind
theorem dg_b {p x : Nat} (hp : pr p) (hx : x ≤ p) : (-7 ≤ dga p x ∧ dga p x ≤ 7) ∧ (-7 ≤ dgb p x ∧ dgb p x ≤ 7) ∧ (-7 ≤ loa p x ∧ loa p x ≤ 7) ∧ (-7 ≤ lob p x ∧ lob p x ≤ 7) := by
  have h7 := pr_le hp
  unfold dga dgb loa lob
  by_cases e : x = p
  · simp [e]
  · simp [e]; omega
noncomputable def chN (p r w : Nat) (T : Nat → Nat → Nat → Nat) (x k : Nat) : Nat := dmn p (k * r) (k * w) (ff r w (KC p r w T x k))
theorem blk_in {s k r : Nat} (h : s < k) : s * r + r ≤ k * r := by
  have := Nat.mul_le_mul_right r (show s + 1 ≤ k by omega)
  rw [Nat.succ_mul] at this
  exact this
theorem mul4 {k r : Nat} (hk : k ≤ 4) (hr : r ≤ 4) : k * r ≤ 16 := Nat.mul_le_mul hk hr
theorem chainC_L {c p r w x k : Nat} {T : Nat → Nat → Nat → Nat} (hc : okc c) (hx : x ≤ p) (hk : k ≤ 4) {C : Mem} (hP : PC C c p r w T) (hM : MW C p (k * r) (k * w) (ff r w K0)) : ∃ C', Un_putChains_L28 FU c (nI x) (nI k) (if x = p then 1 else 0) 0 C = some C' ∧ (∀ y, y ≠ 24 → C' y = C y) ∧ MW C' p (k * r) (k * w) (ff r w (KC p r w T x k)) := by
  have hp := hP.1
  have h7 := pr_le hp
  obtain ⟨d1, d2, d3, d4⟩ := dg_b hp hx
  obtain ⟨C', g1, g2⟩ := lp (fun m s M' => Un_putChains_L28 m c (nI x) (nI k) (if x = p then 1 else 0) (nI s) M') (fun M' => some M') k (fun s M' => (∀ y, y ≠ 24 → M' y = C y) ∧ MW M' p (k * r) (k * w) (ff r w (KC p r w T x s))) (fun m M' _ => by
      show Un_putChains_L28 (m + 1) c (nI x) (nI k) (if x = p then 1 else 0) (nI k) M' = _
      rw [Un_putChains_L28, if_pos (Int32.le_refl _)]) (fun m s M' hs h' => by
      show ∃ M1, _ ∧ Un_putChains_L28 (m + 1) c (nI x) (nI k) (if x = p then 1 else 0) (nI s) M' = Un_putChains_L28 m c (nI x) (nI k) (if x = p then 1 else 0) (nI (s + 1)) M1
      have q1 := hP.mv (h'.1 c hc.2.2.1) (h'.1 (c + 1) hc.2.2.2.2)
      obtain ⟨C1, x1, x2, x3⟩ := putB_ok hc q1 h'.2 d1 d2 (blk_in hs) (blk_in hs)
      rw [Un_putChains_L28, if_neg (nI_ge hs (by omega))]
      have first : (if (if x = p then 1 else 0 : Int32) = 0 then Un_putChains_b53 (Un_putChains_L28 m) c (nI x) (nI k) (if x = p then 1 else 0) (nI s) c (nI s) (nI s) 1 M' else Un_putChains_b53 (Un_putChains_L28 m) c (nI x) (nI k) (if x = p then 1 else 0) (nI s) c (nI s) (nI s) 0 M') = Un_putChains_b64 (Un_putChains_L28 m) c (nI x) (nI k) (if x = p then 1 else 0) (nI s) c (nI s) (nI s) (Int32.ofInt (dga p x)) (Int32.ofInt (dgb p x)) M' := by
        unfold Un_putChains_b53 dga dgb
        by_cases e : x = p
        · rw [if_pos e, if_neg (by decide), if_neg (by decide), if_pos e, if_pos e]; rfl
        · rw [if_neg e, if_pos rfl, if_pos rfl, if_neg e, if_neg e, Int32.ofInt_neg, nIo]; rfl
      rw [first, Un_putChains_b64, x1, bv_s]
      have e0 : s = 0 ∨ ∃ u, s = u + 1 := by
        cases s with
        | zero => exact .inl rfl
        | succ u => exact .inr ⟨u, rfl⟩
      rcases e0 with rfl | ⟨u, rfl⟩
      · rw [if_pos (show nI 0 ≤ 0 by decide), Un_putChains_b106, nI_1]
        rw [KC_1] at x3
        exact ⟨C1, ⟨fun y hy => by rw [x2 y hy, h'.1 y hy], x3⟩, rfl⟩
      · have q2 := q1.mv (x2 c hc.2.2.1) (x2 (c + 1) hc.2.2.2.2)
        obtain ⟨C2, y1, y2, y3⟩ := putB_ok (bi := u + 1) (bj := u) hc q2 x3 d3 d4 (blk_in hs) (blk_in (by omega))
        rw [KC_s] at y3
        rw [if_neg (show ¬ nI (u + 1) ≤ 0 from nI_ge (a := 0) (b := u + 1) (by omega) (by omega)), show nI (u + 1) - 1 = nI u from nIs (a := u + 1) (b := 1) (by omega)]
        have snd : (if (if x = p then 1 else 0 : Int32) = 0 then Un_putChains_b93 (Un_putChains_L28 m) c (nI x) (nI k) (if x = p then 1 else 0) (nI (u + 1)) c (nI (u + 1)) (nI u) 0 C1 else Un_putChains_b93 (Un_putChains_L28 m) c (nI x) (nI k) (if x = p then 1 else 0) (nI (u + 1)) c (nI (u + 1)) (nI u) (-1) C1) = Un_putChains_b103 (Un_putChains_L28 m) c (nI x) (nI k) (if x = p then 1 else 0) (nI (u + 1)) c (nI (u + 1)) (nI u) (Int32.ofInt (loa p x)) (Int32.ofInt (lob p x)) C1 := by
          unfold Un_putChains_b93 loa lob
          by_cases e : x = p
          · rw [if_pos e, if_neg (by decide), if_neg (by decide), if_pos e, if_pos e]; rfl
          · rw [if_neg e, if_pos rfl, if_pos rfl, if_neg e, if_neg e]; rfl
        rw [snd, Un_putChains_b103, y1, bv_s, Un_putChains_b106, nI_1]
        exact ⟨C2, ⟨fun y hy => by rw [y2 y hy, x2 y hy, h'.1 y hy], y3⟩, rfl⟩) k FU 0 C (by omega) (FU_lt (by omega)) ⟨fun _ _ => rfl, by rw [KC_0]; exact hM⟩
  exact ⟨C', g2, g1.1, g1.2⟩
theorem chainC_ok {c p r w x k : Nat} {T : Nat → Nat → Nat → Nat} (hc : okc c) (hx : x ≤ p) (hk : k ≤ 4) {C : Mem} (hP : PC C c p r w T) : ∃ C', Un_putChains c (nI x) (nI k) C = some C' ∧ (∀ y, y ≠ 23 → y ≠ 24 → C' y = C y) ∧ MW C' p (k * r) (k * w) (ff r w (KC p r w T x k)) := by
  have hP2 := hP
  obtain ⟨hp, hr, hw, e1, e2, e3, hv⟩ := hP2
  have h7 := pr_le hp
  have b1 := mul4 hk hr
  have b2 := mul4 hk hw
  obtain ⟨C1, x1, x2, x3⟩ := begin_ok (H := k) (W := k) hc hP (by omega) (by omega)
  obtain ⟨C2, y1, y2, y3⟩ := chainC_L hc hx hk (hP.mv (x2 c hc.2.1 hc.2.2.1) (x2 (c + 1) hc.2.2.2.1 hc.2.2.2.2)) x3
  refine ⟨C2, ?_, fun y n1 n2 => by rw [y2 y n2, x2 y n1 n2], y3⟩
  unfold Un_putChains Un_putChains_b13
  rw [if_pos hc.1, e1, x1, bv_s, bv_s]
  by_cases e : x = p
  · rw [if_pos e] at y1
    rw [if_pos (by rw [e]), y1]
  · rw [if_neg e] at y1
    rw [if_neg (fun z => e ((nI_eq (by omega) (by omega)).mp z)), y1]
theorem chainsAt_ok {c p r w x k : Nat} {T : Nat → Nat → Nat → Nat} (hc : okc c) (hx : x ≤ p) (hk : k ≤ 4) {C : Mem} (hP : PC C c p r w T) : ∃ C', Un_chainsAt c (nI x) (nI k) C = some (nI (chN p r w T x k), C') ∧ ∀ y, y ≠ 23 → y ≠ 24 → C' y = C y := by
  obtain ⟨C1, x1, x2, x3⟩ := chainC_ok hc hx hk hP
  obtain ⟨C2, y1, y2, y3, _⟩ := use_dm hP.1 x3.mc
  refine ⟨C2, ?_, fun y n1 n2 => by rw [y2 y n2, x2 y n1 n2]⟩
  unfold Un_chainsAt chN
  rw [if_pos hc.1, x1, bv_s, y1, bd_s, x3.2.2.1, nIs (by omega), show k * w - (k * w - dmn p (k * r) (k * w) (ff r w (KC p r w T x k))) = dmn p (k * r) (k * w) (ff r w (KC p r w T x k)) by omega]
theorem rankAt_ok {c p r w x : Nat} {T : Nat → Nat → Nat → Nat} (hc : okc c) (hx : x ≤ p) {C : Mem} (hP : PC C c p r w T) : ∃ C', Un_rankAt c (nI x) C = some (nI (1 * w - chN p r w T x 1), C') ∧ ∀ y, y ≠ 23 → y ≠ 24 → C' y = C y := by
  obtain ⟨C1, x1, x2, x3⟩ := chainC_ok (k := 1) hc hx (by omega) hP
  obtain ⟨C2, y1, y2, y3, _⟩ := use_dm hP.1 x3.mc
  refine ⟨C2, ?_, fun y n1 n2 => by rw [y2 y n2, x2 y n1 n2]⟩
  unfold Un_rankAt chN
  rw [if_pos hc.1, show (1 : Int32) = nI 1 from rfl, x1, bv_s, y1, bd_s]
