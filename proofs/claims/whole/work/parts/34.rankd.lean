/-! PURE: elimination, the reference -/
def MD (D : Mem) (p h : Nat) (F : Nat → Nat → Nat) : Prop := D 33 0 = nI p ∧ D 32 15 = nI h ∧ h ≤ 24 ∧ ∀ i j, i < h → j < 21 → F i j < p ∧ D 38 (21 * i + j) = nI (F i j)
theorem at21 (i j : Nat) : 21 * nI i + nI j = nI (21 * i + j) := by
  rw [show (21 : Int32) = nI 21 from rfl, nIm, nIa]
def PvI (h c : Nat) (F : Nat → Nat → Nat) (i : Nat) (r : Int32) : Prop := (r = -4 ∧ ∀ i', i ≤ i' → i' < h → F i' c = 0) ∨ ∃ q, i ≤ q ∧ q < h ∧ r = nI q ∧ F q c ≠ 0
theorem pivD_L {D : Mem} {p h : Nat} {F : Nat → Nat → Nat} (hM : MD D p h F) {c d : Nat} (hc : c < 21) (hp7 : p ≤ 7) (hd : d ≤ h) : ∀ n i r, i - d < n → d ≤ i → i ≤ h → PvI h c F i r → ∃ r', Mo_pivotFor_L11 n (nI d) (nI c) r (Int32.ofInt ((i : Int) - 1)) D = some (r', D) ∧ PvI h c F d r' := by
  obtain ⟨m1, m2, m4, m6⟩ := hM
  intro n
  induction n with
  | zero => intro i r h1; omega
  | succ n ih =>
    intro i r h1 h2 h3 h4
    have lt : Int32.ofInt ((i : Int) - 1) < nI d ↔ i ≤ d := by
      rw [← Int32.not_le, nIo, le_of (by omega) (by omega) (by omega) (by omega)]; omega
    rw [Mo_pivotFor_L11]
    by_cases e : i ≤ d
    · rw [if_pos (lt.mpr e)]
      have : i = d := by omega
      subst this
      exact ⟨r, rfl, h4⟩
    · rw [if_neg (fun z => e (lt.mp z))]
      obtain ⟨k, rfl⟩ : ∃ k, i = k + 1 := ⟨i - 1, by omega⟩
      have m := m6 k c (by omega) hc
      have e1 : Int32.ofInt (((k + 1 : Nat) : Int) - 1) = nI k := by rw [nIo]; congr 1; omega
      have e2 : nI k + (-1) = Int32.ofInt ((k : Int) - 1) := by rw [nIo, show (-1 : Int32) = Int32.ofInt (-1) from rfl, ← Int32.ofInt_add]; congr 1
      rw [e1, at21, if_pos (ibn (by omega) (by omega)), ixn (by omega), m.2]
      by_cases z : F k c = 0
      · rw [z, if_pos (show nI 0 = 0 from rfl), Mo_pivotFor_b38, e2]
        refine ih k r (by omega) (by omega) (by omega) ?_
        rcases h4 with ⟨a1, a2⟩ | ⟨q, a1, a2⟩
        · refine .inl ⟨a1, fun i' b1 b2 => ?_⟩
          by_cases y : i' = k
          · subst y; exact z
          · exact a2 i' (by omega) b2
        · exact .inr ⟨q, by omega, a2⟩
      · rw [if_neg (nI_ne0 (by omega) (by omega)), Mo_pivotFor_b38, e2]
        exact ih k _ (by omega) (by omega) (by omega) (.inr ⟨k, Nat.le_refl _, by omega, rfl, z⟩)
theorem swapD_ok {D : Mem} {p h : Nat} {F : Nat → Nat → Nat} (hM : MD D p h F) {a b : Nat} (ha : a < h) (hb : b < h) : ∃ D', Mo_largeSwaps (nI a) (nI b) D = some D' ∧ (∀ x, x ≠ 38 → D' x = D x) ∧ MD D' p h (fun i j => if i = a then F b j else if i = b then F a j else F i j) := by
  obtain ⟨m1, m2, m4, m6⟩ := hM
  unfold Mo_largeSwaps
  obtain ⟨D', g1, g2⟩ := lp (fun m j M' => Mo_largeSwaps_L2 m (nI a) (nI b) (nI j) M') (fun M' => some M') 21 (fun j M' => (∀ x, x ≠ 38 → M' x = D x) ∧ ∀ i' j', i' < h → j' < 21 → M' 38 (21 * i' + j') = nI (if j' < j then (if i' = a then F b j' else if i' = b then F a j' else F i' j') else F i' j')) (fun m M' h' => by
      show Mo_largeSwaps_L2 (m + 1) (nI a) (nI b) (nI 21) M' = _
      rw [Mo_largeSwaps_L2, if_pos (show (21 : Int32) ≤ nI 21 by decide)]) (fun m j M' hj h' => by
      show ∃ M1, _ ∧ Mo_largeSwaps_L2 (m + 1) (nI a) (nI b) (nI j) M' = Mo_largeSwaps_L2 m (nI a) (nI b) (nI (j + 1)) M1
      rw [Mo_largeSwaps_L2, if_neg (show ¬ (21 : Int32) ≤ nI j from nI_ge (b := 21) hj (by omega)), at21, at21, if_pos (ibn (by omega) (by omega)), if_pos (ibn (by omega) (by omega)), if_pos (ibn (by omega) (by omega)), if_pos (ibn (by omega) (by omega)), ixn (by omega), ixn (by omega), nI_1]
      refine ⟨_, ⟨fun x hx => by rw [wr_ne hx, wr_ne hx]; exact h'.1 x hx, fun i' j' hi' hj' => ?_⟩, rfl⟩
      rw [wr_g, wr_g, h'.2 a j ha hj, h'.2 b j hb hj, h'.2 i' j' hi' hj', if_neg (show ¬ (j < j) by omega), if_neg (show ¬ (j < j) by omega)]
      have k1 : (38 = 38 ∧ 21 * i' + j' = 21 * b + j) ↔ (i' = b ∧ j' = j) := by omega
      have k2 : (38 = 38 ∧ 21 * i' + j' = 21 * a + j) ↔ (i' = a ∧ j' = j) := by omega
      by_cases e : j' = j <;> by_cases e1 : i' = a <;> by_cases e2 : i' = b <;> grind) 21 FU 0 D (by omega) (FU_lt (by omega)) ⟨fun _ _ => rfl, fun i' j' hi' hj' => by rw [if_neg (by omega)]; exact (m6 i' j' hi' hj').2⟩
  refine ⟨D', g2, g1.1, by rw [g1.1 33 (by omega)]; exact m1, by rw [g1.1 32 (by omega)]; exact m2, m4, fun i j hi hj => ⟨?_, ?_⟩⟩
  · have := (m6 i j hi hj).1
    have := (m6 a j ha hj).1
    have := (m6 b j hb hj).1
    show (if i = a then F b j else if i = b then F a j else F i j) < p
    split
    · assumption
    · split <;> assumption
  · rw [g1.2 i j hi hj, if_pos hj]
theorem loseD_ok {D : Mem} {p h : Nat} {F : Nat → Nat → Nat} (hp : pr p) (hM : MD D p h F) {i d f : Nat} (hi : i < h) (hd : d < h) (hne : i ≠ d) (hf : f ≤ 7) : ∃ D', Mo_largeLoses (nI i) (nI d) (nI f) D = some D' ∧ (∀ x, x ≠ 38 → D' x = D x) ∧ MD D' p h (fun i' j => if i' = i then md p ((1 : Int) * (F i j : Int) - (f : Int) * (F d j : Int)) else F i' j) := by
  have h7 := pr_le hp
  obtain ⟨m1, m2, m4, m6⟩ := hM
  unfold Mo_largeLoses
  obtain ⟨D', g1, g2⟩ := lp (fun m j M' => Mo_largeLoses_L3 m (nI i) (nI d) (nI f) (nI j) M') (fun M' => some M') 21 (fun j M' => (∀ x, x ≠ 38 → M' x = D x) ∧ ∀ i' j', i' < h → j' < 21 → M' 38 (21 * i' + j') = nI (if i' = i ∧ j' < j then md p ((1 : Int) * (F i j' : Int) - (f : Int) * (F d j' : Int)) else F i' j')) (fun m M' h' => by
      show Mo_largeLoses_L3 (m + 1) (nI i) (nI d) (nI f) (nI 21) M' = _
      rw [Mo_largeLoses_L3, if_pos (show (21 : Int32) ≤ nI 21 by decide)]) (fun m j M' hj h' => by
      show ∃ M1, _ ∧ Mo_largeLoses_L3 (m + 1) (nI i) (nI d) (nI f) (nI j) M' = Mo_largeLoses_L3 m (nI i) (nI d) (nI f) (nI (j + 1)) M1
      have f1 := (m6 i j hi hj).1
      have f2 := (m6 d j hd hj).1
      have b1 := mulI (show 1 ≤ 7 by omega) (show F i j ≤ 7 by omega)
      have b2 := mulI hf (show F d j ≤ 7 by omega)
      have cr : nI (F i j) - nI f * nI (F d j) = Int32.ofInt (((1 : Nat) : Int) * (F i j : Int) - (f : Int) * (F d j : Int)) := by
        rw [← crs, nIm 1, Nat.one_mul]
      rw [Mo_largeLoses_L3, if_neg (show ¬ (21 : Int32) ≤ nI j from nI_ge (b := 21) hj (by omega)), at21, at21, if_pos (ibn (by omega) (by omega)), if_pos (ibn (by omega) (by omega)), ixn (by omega), ixn (by omega), h'.2 i j hi hj, h'.2 d j hd hj, if_neg (by omega), if_neg (by omega), modulo_jM (by rw [h'.1 33 (by omega)]; exact m1) hp, bd_s, cr, jM_md (by omega) (by omega) hp, if_pos (ibn (by omega) (by omega)), nI_1]
      refine ⟨_, ⟨fun x hx => by rw [wr_ne hx]; exact h'.1 x hx, fun i' j' hi' hj' => ?_⟩, rfl⟩
      rw [wr_g, h'.2 i' j' hi' hj']
      have k2 : (38 = 38 ∧ 21 * i' + j' = 21 * i + j) ↔ (i' = i ∧ j' = j) := by omega
      by_cases e : j' = j <;> by_cases e1 : i' = i
      · subst e; subst e1; rw [if_pos ⟨rfl, rfl⟩, if_pos (by omega)]; rfl
      · rw [if_neg (by omega), if_neg (by omega), if_neg (by omega)]
      · rw [if_neg (by omega)]
        by_cases q : j' < j
        · rw [if_pos ⟨e1, q⟩, if_pos ⟨e1, by omega⟩]
        · rw [if_neg (fun z => q z.2), if_neg (by omega)]
      · rw [if_neg (by omega), if_neg (by omega), if_neg (by omega)]) 21 FU 0 D (by omega) (FU_lt (by omega)) ⟨fun _ _ => rfl, fun i' j' hi' hj' => by rw [if_neg (by omega)]; exact (m6 i' j' hi' hj').2⟩
  refine ⟨D', g2, g1.1, by rw [g1.1 33 (by omega)]; exact m1, by rw [g1.1 32 (by omega)]; exact m2, m4, fun i' j hi' hj => ?_⟩
  show (if i' = i then md p ((1 : Int) * (F i j : Int) - (f : Int) * (F d j : Int)) else F i' j) < p ∧ D' 38 (21 * i' + j) = nI (if i' = i then md p ((1 : Int) * (F i j : Int) - (f : Int) * (F d j : Int)) else F i' j)
  rw [g1.2 i' j hi' hj]
  by_cases q : i' = i
  · rw [if_pos q, if_pos ⟨q, hj⟩]; exact ⟨md_lt (by omega), rfl⟩
  · rw [if_neg q, if_neg (fun z => q z.1)]; exact ⟨(m6 i' j hi' hj).1, rfl⟩
theorem inv_L {D : Mem} {p a u0 : Nat} (h0 : D 33 0 = nI p) (hp : pr p) (ha : a < p) (hu : u0 < 8) (h1 : (u0 * a) % p = 1) : ∀ n u, u0 - u < n → u ≤ u0 → ∃ u', u' < 8 ∧ (u' * a) % p = 1 ∧ Mo_inverse_L2 n (nI a) (nI u) D = some (nI u', D) := by
  have h7 := pr_le hp
  intro n
  induction n with
  | zero => intro u h2; omega
  | succ n ih =>
    intro u h2 h3
    have hm : u * a ≤ 7 * 7 := Nat.mul_le_mul (by omega) (by omega)
    rw [Mo_inverse_L2, h0, if_neg (nI_ne0 (by omega) (by omega)), nIm, jremN (by omega) (by omega) (by omega)]
    have hl : (u * a) % p < p := Nat.mod_lt _ (by omega)
    by_cases e : (u * a) % p = 1
    · rw [if_pos (by rw [e]; rfl)]
      exact ⟨u, by omega, e, rfl⟩
    · rw [if_neg (show ¬ nI (u * a % p) = (1 : Int32) from fun z => e ((nI_eq (b := 1) (by omega) (by omega)).mp z)), nI_1]
      by_cases y : u = u0
      · subst y; exact absurd h1 e
      · exact ih (u + 1) (by omega) (by omega)
theorem inv_ok {D : Mem} {p a : Nat} (h0 : D 33 0 = nI p) (hp : pr p) (ha : a < p) (hz : a ≠ 0) : ∃ u, u < 8 ∧ (u * a) % p = 1 ∧ Mo_inverse (nI a) D = some (nI u, D) := by
  obtain ⟨u0, hu, h1⟩ := pr_un hp hz ha
  have : u0 ≠ 0 := fun z => by subst z; simp at h1
  exact inv_L h0 hp ha hu h1 FU 1 (show u0 - 1 < FU from FU_lt (by omega)) (by omega)
/-- rows below d are cleared up to i -/
def Dl (p h d c : Nat) (F : Nat → Nat → Nat) (i : Nat) (G : Nat → Nat → Nat) : Prop := (∀ i', i' ≤ d ∨ i ≤ i' → ∀ j, G i' j = F i' j) ∧ (∀ i', d < i' → i' < i → G i' c = 0) ∧ (∀ i' j, d ≤ i' → i' < h → j < c → G i' j = 0) ∧ ∀ w, w ≤ 21 → ∀ x, Sol p h w G x ↔ Sol p h w F x
theorem un1 {p : Nat} : un p 1 := ⟨1, 0, by simp⟩
theorem Dl.step {p h d c i u : Nat} {F G : Nat → Nat → Nat} (hp : pr p) (hd : d < h) (hdi : d < i) (hi : i < h) (hc : c < 21) (hu : (u * F d c) % p = 1) (H : Dl p h d c F i G) : Dl p h d c F (i + 1) (fun i' j => if i' = i then md p ((1 : Int) * (G i j : Int) - (((u * F i c) % p : Nat) : Int) * (G d j : Int)) else G i' j) := by
  have h7 := pr_le hp
  obtain ⟨k1, k2, k3, k4⟩ := H
  refine ⟨fun i' hi' j => ?_, fun i' a b => ?_, fun i' j a b e => ?_, fun w hw x => ?_⟩
  · show (if i' = i then md p ((1 : Int) * (G i j : Int) - (((u * F i c) % p : Nat) : Int) * (G d j : Int)) else G i' j) = _
    rw [if_neg (by omega)]
    exact k1 i' (by omega) j
  · show (if i' = i then md p ((1 : Int) * (G i c : Int) - (((u * F i c) % p : Nat) : Int) * (G d c : Int)) else G i' c) = 0
    by_cases q : i' = i
    · rw [if_pos q, k1 i (by omega) c, k1 d (by omega) c]
      have e : (p : Int) ∣ (1 : Int) * (F i c : Int) - (((u * F i c) % p : Nat) : Int) * (F d c : Int) - 0 := by
        have z1 := Nat.div_add_mod (u * F i c) p
        have z2 := Nat.div_add_mod (u * F d c) p
        rw [hu] at z2
        refine ⟨((u * F i c / p : Nat) : Int) * (F d c : Int) - (F i c : Int) * ((u * F d c / p : Nat) : Int), ?_⟩
        have y1 : (((u * F i c) % p : Nat) : Int) = (u : Int) * (F i c : Int) - (p : Int) * ((u * F i c / p : Nat) : Int) := by
          have : ((p * (u * F i c / p) + (u * F i c) % p : Nat) : Int) = ((u * F i c : Nat) : Int) := by rw [z1]
          push_cast at this ⊢
          omega
        have y2 : (u : Int) * (F d c : Int) = (p : Int) * ((u * F d c / p : Nat) : Int) + 1 := by
          have : ((p * (u * F d c / p) + 1 : Nat) : Int) = ((u * F d c : Nat) : Int) := by rw [z2]
          push_cast at this ⊢
          omega
        rw [y1, Int.sub_mul, Int.mul_sub, show (u : Int) * (F i c : Int) * (F d c : Int) = (F i c : Int) * ((u : Int) * (F d c : Int)) by rw [Int.mul_comm (u : Int), Int.mul_assoc], y2, Int.mul_add, ← Int.mul_assoc, ← Int.mul_assoc, Int.mul_comm (F i c : Int) (p : Int), Int.mul_assoc, Int.mul_assoc]
        omega
      rw [md_of e]
      exact md_0 rfl
    · rw [if_neg q]; exact k2 i' a (by omega)
  · show (if i' = i then md p ((1 : Int) * (G i j : Int) - (((u * F i c) % p : Nat) : Int) * (G d j : Int)) else G i' j) = 0
    by_cases q : i' = i
    · rw [if_pos q, k3 i j (by omega) hi e, k3 d j (by omega) hd e]
      exact md_0 (by simp)
    · rw [if_neg q]; exact k3 i' j a b e
  · rw [← k4 w hw x]
    refine Sol.row (i := i) (d := d) (a := 1) (b := (((u * F i c) % p : Nat) : Int)) hi hd (by omega) un1 (fun i' a b j hj => ?_) (fun j hj => ?_) x
    · exact if_neg b
    · show (p : Int) ∣ ((if i = i then md p ((1 : Int) * (G i j : Int) - (((u * F i c) % p : Nat) : Int) * (G d j : Int)) else G i j : Nat) : Int) - _
      rw [if_pos rfl]; exact md_dvd (by omega)
theorem clrD_ok {D : Mem} {p h : Nat} {F : Nat → Nat → Nat} {k4 : Int32 → Int32 → Int32 → Mem → Option (Int32 × Mem)} {m d c u : Nat} (hp : pr p) (hM : MD D p h F) (hd : d < h) (hc : c < 21) (hu8 : u < 8) (hu : (u * F d c) % p = 1) (hz : ∀ i' j, d ≤ i' → i' < h → j < c → F i' j = 0) : ∃ D' G, Mo_rankOf_L53 k4 FU (nI m) (nI d) (nI c) (nI u) (nI (d + 1)) D = k4 (nI m) (nI (d + 1)) (nI (c + 1)) D' ∧ (∀ x, x ≠ 38 → D' x = D x) ∧ MD D' p h G ∧ Dl p h d c F h G := by
  have h7 := pr_le hp
  have hm := hM
  obtain ⟨m1, m2, m4, m6⟩ := hm
  obtain ⟨D', g1, g2⟩ := lp (fun n i M' => Mo_rankOf_L53 k4 n (nI m) (nI d) (nI c) (nI u) (nI i) M') (fun M' => k4 (nI m) (nI (d + 1)) (nI (c + 1)) M') h (fun i M' => (∀ x, x ≠ 38 → M' x = D x) ∧ d < i ∧ ∃ G, MD M' p h G ∧ Dl p h d c F i G) (fun n M' h' => by
      show Mo_rankOf_L53 k4 (n + 1) (nI m) (nI d) (nI c) (nI u) (nI h) M' = _
      rw [Mo_rankOf_L53, h'.1 32 (by omega), m2, if_pos (Int32.le_refl _), Mo_rankOf_b100, nI_1, nI_1]) (fun n i M' hi h' => by
      show ∃ M1, _ ∧ Mo_rankOf_L53 k4 (n + 1) (nI m) (nI d) (nI c) (nI u) (nI i) M' = Mo_rankOf_L53 k4 n (nI m) (nI d) (nI c) (nI u) (nI (i + 1)) M1
      obtain ⟨q1, q2, G, q3, q4⟩ := h'
      have e : G i c = F i c := q4.1 i (by omega) c
      have b1 := (m6 i c hi hc).1
      have hm : u * F i c ≤ 7 * 7 := Nat.mul_le_mul (by omega) (by omega)
      have hl : (u * F i c) % p < p := Nat.mod_lt _ (by omega)
      rw [Mo_rankOf_L53, q1 32 (by omega), m2, if_neg (nI_ge hi (by omega)), at21, if_pos (ibn (by omega) (by omega)), ixn (by omega), (q3.2.2.2 i c hi hc).2, e, q1 33 (by omega), m1, if_neg (nI_ne0 (by omega) (by omega)), nIm, jremN (by omega) (by omega) (by omega)]
      obtain ⟨C2, r1, r2, r3⟩ := loseD_ok hp q3 (i := i) (d := d) (f := (u * F i c) % p) hi hd (by omega) (by omega)
      rw [r1, bv_s, nI_1]
      exact ⟨C2, ⟨fun x hx => by rw [r2 x hx, q1 x hx], by omega, _, r3, q4.step hp hd q2 hi hc hu⟩, rfl⟩) (h - (d + 1)) FU (d + 1) D (by omega) (FU_lt (by omega)) ⟨fun _ _ => rfl, by omega, F, hM, ⟨fun _ _ _ => rfl, fun i' a b => by omega, hz, fun _ _ _ => Iff.rfl⟩⟩
  obtain ⟨q1, q2, G, q3, q4⟩ := g1
  exact ⟨D', G, g2, q1, q3, q4⟩
theorem rankD_L {p h m : Nat} {F : Nat → Nat → Nat} (hp : pr p) (hm : m ≤ 20) : ∀ n c d D G, m - c < n → c ≤ m → MD D p h G → (∀ w, w ≤ 21 → ∀ x, Sol p h w G x ↔ Sol p h w F x) → Ech p h G c d → ∃ D' G' d', Mo_rankOf_L4 n (nI m) (nI d) (nI c) D = some (nI d', D') ∧ (∀ x, x ≠ 38 → D' x = D x) ∧ MD D' p h G' ∧ (∀ w, w ≤ 21 → ∀ x, Sol p h w G' x ↔ Sol p h w F x) ∧ Ech p h G' m d' := by
  have h7 := pr_le hp
  intro n
  induction n with
  | zero => intro c d D G h0; omega
  | succ n ih =>
    intro c d D G h0 hcm hM hS hE
    have hmm := hM
    obtain ⟨m1, m2, m4, m6⟩ := hmm
    have ed := hE.1
    have eh := hE.2.1
    rw [Mo_rankOf_L4]
    by_cases e : c = m
    · subst e
      rw [if_pos (Int32.le_refl _)]
      exact ⟨D, G, d, rfl, fun _ _ => rfl, hM, hS, hE⟩
    · rw [if_neg (nI_ge (show c < m by omega) (by omega))]
      obtain ⟨r, f1, f2⟩ := pivD_L hM (c := c) (d := d) (by omega) (by omega) eh FU h (-4) (show h - d < FU from FU_lt (by omega)) eh (Nat.le_refl _) (.inl ⟨rfl, fun i' a b => by omega⟩)
      unfold Mo_pivotFor
      rw [m2, show nI h - 1 = Int32.ofInt ((h : Int) - 1) by rw [nIo, Int32.ofInt_sub]; rfl, f1, bd_s]
      rcases f2 with ⟨rfl, z⟩ | ⟨q, q2, q1, rfl, q3⟩
      · rw [if_pos rfl, Mo_rankOf_b100, nI_1]
        exact ih (c + 1) d D G (by omega) (by omega) hM hS (hE.no z)
      · rw [if_neg (show ¬ nI q = -4 from fun z => by
          have := nI_pos' (n := q) (by omega)
          rw [z] at this
          exact absurd this (by decide))]
        obtain ⟨D1, x1, x2, x3⟩ := swapD_ok hM (a := q) (b := d) q1 (by omega)
        rw [x1, bv_s]
        have z0 := hE.2.2.1
        have sw : ∀ w, w ≤ 21 → ∀ x, Sol p h w (fun i j => if i = q then G d j else if i = d then G q j else G i j) x ↔ Sol p h w G x := fun w hw x => by
          refine Sol.swap (a := q) (b := d) q1 (by omega) (fun j hj => if_pos rfl) (fun j hj => ?_) (fun i hi n1 n2 j hj => ?_) x
          · show (if d = q then G d j else if d = d then G q j else G d j) = G q j
            by_cases k2 : d = q
            · rw [if_pos k2, k2]
            · rw [if_neg k2, if_pos rfl]
          · show (if i = q then G d j else if i = d then G q j else G i j) = G i j
            rw [if_neg n1, if_neg n2]
        have zz : ∀ i' j, d ≤ i' → i' < h → j < c → (fun i j => if i = q then G d j else if i = d then G q j else G i j) i' j = 0 := fun i' j a b e => by
          show (if i' = q then G d j else if i' = d then G q j else G i' j) = 0
          rw [z0 d (by omega) (by omega) j e, z0 q q2 q1 j e, z0 i' a b j e]; simp
        have dd : (fun i j => if i = q then G d j else if i = d then G q j else G i j) d c = G q c := by
          show (if d = q then G d c else if d = d then G q c else G d c) = G q c
          by_cases k2 : d = q
          · rw [if_pos k2, k2]
          · rw [if_neg k2, if_pos rfl]
        have ev : D1 38 (21 * d + c) = nI (G q c) := (x3.2.2.2 d c (by omega) (by omega)).2.trans (congrArg nI dd)
        rw [at21, if_pos (ibn (by omega) (by omega)), ixn (by omega), ev]
        obtain ⟨u, u1, u2, u3⟩ := inv_ok x3.1 hp (m6 q c q1 (by omega)).1 q3
        rw [u3, bd_s, nI_1]
        obtain ⟨D2, G2, y1, y2, y3, y4⟩ := clrD_ok (k4 := Mo_rankOf_L4 n) (m := m) hp x3 (d := d) (c := c) (by omega) (by omega) u1 ((congrArg (fun t => u * t % p) dd).trans u2) zz
        rw [y1]
        obtain ⟨l1, l2, l3, l4⟩ := y4
        have e5 : Ech p h G2 (c + 1) (d + 1) := by
          refine Ech.piv (by omega) (hE.to (fun i hi j hj => ?_) (fun i a b j e => l3 i j a b e)) (by omega) ?_ (fun i a b => l2 i a b)
          · rw [l1 i (by omega) j]
            show (if i = q then G d j else if i = d then G q j else G i j) = G i j
            rw [if_neg (by omega), if_neg (by omega)]
          · rw [show G2 d c = G q c from (l1 d (by omega) c).trans dd]
            exact un_of hp q3 (m6 q c q1 (by omega)).1
        obtain ⟨D', G', d', w1, w2, w3⟩ := ih (c + 1) (d + 1) D2 G2 (by omega) (by omega) y3 (fun w hw x => (l4 w hw x).trans ((sw w hw x).trans (hS w hw x))) e5
        exact ⟨D', G', d', w1, fun x hx => by rw [w2 x hx, y2 x hx, x2 x hx], w3⟩
theorem rankD_ok {D : Mem} {p h m : Nat} {F : Nat → Nat → Nat} (hp : pr p) (hm : m ≤ 20) (hM : MD D p h F) : ∃ D' G d, Mo_rankOf (nI m) D = some (nI d, D') ∧ (∀ x, x ≠ 38 → D' x = D x) ∧ MD D' p h G ∧ (∀ w, w ≤ 21 → ∀ x, Sol p h w G x ↔ Sol p h w F x) ∧ Ech p h G m d :=
  rankD_L hp hm FU 0 0 D F (FU_lt (by omega)) (by omega) hM (fun _ _ _ => Iff.rfl) Ech.zero
theorem rankD_n {D : Mem} {p h m : Nat} {F : Nat → Nat → Nat} (hp : pr p) (hm : m ≤ 20) (hM : MD D p h F) : ∃ D' d, Mo_rankOf (nI m) D = some (nI d, D') ∧ (∀ x, x ≠ 38 → D' x = D x) ∧ d ≤ m ∧ ∀ x, cn p 0 m (fun y => iv (Sol p h m F y)) x = p ^ (m - d) := by
  obtain ⟨D', G, d, h1, h2, h3, h4, h5⟩ := rankD_ok hp hm hM
  refine ⟨D', d, h1, h2, h5.1, fun x => ?_⟩
  rw [← h5.fin x]
  exact cn_cg (fun y _ => iv_cg (h4 m (by omega) y).symm)
