/-! PURE: elimination, the class -/
def md (p : Nat) (z : Int) : Nat := (z % (p : Int)).toNat
theorem md_lt {p : Nat} {z : Int} (hp : 0 < p) : md p z < p := by
  unfold md
  have h1 : 0 ≤ z % (p : Int) := Int.emod_nonneg _ (by omega)
  have h2 : z % (p : Int) < p := Int.emod_lt_of_pos _ (by omega)
  omega
theorem md_i {p : Nat} {z : Int} (hp : 0 < p) : (md p z : Int) = z % (p : Int) := by
  unfold md
  exact Int.toNat_of_nonneg (Int.emod_nonneg _ (by omega))
theorem md_dvd {p : Nat} {z : Int} (hp : 0 < p) : (p : Int) ∣ (md p z : Int) - z := by
  rw [md_i hp, Int.emod_def]
  exact ⟨-(z / (p : Int)), by rw [Int.mul_neg]; omega⟩
theorem md_of {p : Nat} {z y : Int} (h : (p : Int) ∣ z - y) : md p z = md p y := by
  unfold md
  rw [Int.emod_eq_emod_iff_emod_sub_eq_zero.mpr (Int.emod_eq_zero_of_dvd h)]
theorem nIo (a : Nat) : nI a = Int32.ofInt (a : Int) := by
  show Int32.ofNat a = _
  unfold Int32.ofInt Int32.ofNat
  rw [BitVec.ofInt_natCast]
theorem iof {z : Int} (h1 : -100000 ≤ z) (h2 : z ≤ 100000) : (Int32.ofInt z).toInt = z := Int32.toInt_ofInt_of_le (by omega) (by omega)
theorem le_of {a b : Int} (a1 : -100000 ≤ a) (a2 : a ≤ 100000) (b1 : -100000 ≤ b) (b2 : b ≤ 100000) : Int32.ofInt a ≤ Int32.ofInt b ↔ a ≤ b := by
  rw [Int32.le_iff_toInt_le, iof a1 a2, iof b1 b2]
theorem jrem_toInt {z : Int} {p : Nat} (h1 : -100000 ≤ z) (h2 : z ≤ 100000) (hp : pr p) : (jrem (Int32.ofInt z) (nI p)).toInt = z.tmod p := by
  have h7 := pr_le hp
  unfold jrem
  rw [rem_toInt, iof h1 h2, nIo, iof (by omega) (by omega)]
theorem jR_md {z : Int} {p : Nat} (h1 : -100000 ≤ z) (h2 : z ≤ 100000) (hp : pr p) : jR (Int32.ofInt z) (nI p) = nI (md p z) := by
  have h7 := pr_le hp
  have t := jrem_toInt h1 h2 hp
  have b := tmod_bounds (a := z) (M := (p : Int)) (by omega)
  have e : jrem (Int32.ofInt z) (nI p) = Int32.ofInt (z.tmod p) := by
    rw [← Int32.toInt_inj, t, iof (by omega) (by omega)]
  unfold jR
  rw [e]
  have dv : (p : Int) ∣ z.tmod p - z := by
    refine ⟨-(z.tdiv p), ?_⟩
    have := Int.tmod_def z p
    rw [this, Int.mul_neg]; omega
  by_cases q : (0 : Int) ≤ z.tmod p
  · rw [if_pos (show (0 : Int32) ≤ Int32.ofInt (z.tmod p) from (le_of (a := 0) (by omega) (by omega) (by omega) (by omega)).mpr q), nIo, md_i (by omega), ← Int.emod_eq_emod_iff_emod_sub_eq_zero.mpr (Int.emod_eq_zero_of_dvd dv), Int.emod_eq_of_lt q b.2]
  · rw [if_neg (show ¬ (0 : Int32) ≤ Int32.ofInt (z.tmod p) from fun g => q ((le_of (a := 0) (by omega) (by omega) (by omega) (by omega)).mp g)), nIo, ← Int32.ofInt_add, nIo, md_i (by omega)]
    have dv2 : (p : Int) ∣ (z.tmod p + p) - z := by
      have := Int.dvd_add dv (Int.dvd_refl (p : Int))
      rwa [show z.tmod p - z + (p : Int) = z.tmod p + p - z by omega] at this
    rw [← Int.emod_eq_emod_iff_emod_sub_eq_zero.mpr (Int.emod_eq_zero_of_dvd dv2), Int.emod_eq_of_lt (by omega) (by omega)]
theorem jM_md {z : Int} {p : Nat} (h1 : -100000 ≤ z) (h2 : z ≤ 100000) (hp : pr p) : jM (Int32.ofInt z) (nI p) = nI (md p z) := by
  have h7 := pr_le hp
  have t := jrem_toInt h1 h2 hp
  have b := tmod_bounds (a := z) (M := (p : Int)) (by omega)
  have e : jrem (Int32.ofInt z) (nI p) = Int32.ofInt (z.tmod p) := by
    rw [← Int32.toInt_inj, t, iof (by omega) (by omega)]
  have dv : (p : Int) ∣ z.tmod p - z := by
    refine ⟨-(z.tdiv p), ?_⟩
    have := Int.tmod_def z p
    rw [this, Int.mul_neg]; omega
  have dv2 : (p : Int) ∣ (z.tmod p + p) - z := by
    have := Int.dvd_add dv (Int.dvd_refl (p : Int))
    rwa [show z.tmod p - z + (p : Int) = z.tmod p + p - z by omega] at this
  unfold jM
  rw [e, nIo p, ← Int32.ofInt_add, ← nIo p, ← Int32.toInt_inj, jrem_toInt (by omega) (by omega) hp, nIo, md_i (by omega), iof (by have := Int.emod_nonneg z (b := (p : Int)) (by omega); omega) (by have := Int.emod_lt_of_pos z (b := (p : Int)) (by omega); omega), Int.tmod_eq_emod_of_nonneg (by omega), Int.emod_eq_emod_iff_emod_sub_eq_zero.mpr (Int.emod_eq_zero_of_dvd dv2)]
theorem un_all : (List.range 8).all (fun p => (List.range 8).all fun a => !(decide (0 < a) && (decide (a < p) && (decide (p ≠ 4) && decide (p ≠ 6)))) || (List.range 8).any (fun u => decide ((u * a) % p = 1))) = true := by decide +kernel
theorem pr_un {p a : Nat} (hp : pr p) (h0 : a ≠ 0) (h1 : a < p) : ∃ u, u < 8 ∧ (u * a) % p = 1 := by
  have h7 := pr_le hp
  have n4 : p ≠ 4 ∧ p ≠ 6 := by unfold pr at hp; omega
  have h := List.all_eq_true.mp (List.all_eq_true.mp un_all p (List.mem_range.mpr (by omega))) a (List.mem_range.mpr (by omega))
  have z : 0 < a := by omega
  simp only [z, h1, n4.1, n4.2, decide_true, Bool.and_self, ne_eq, not_false_eq_true, Bool.not_true, Bool.false_or] at h
  obtain ⟨u, hu, hv⟩ := List.any_eq_true.mp h
  exact ⟨u, List.mem_range.mp hu, of_decide_eq_true hv⟩
theorem un_of {p a : Nat} (hp : pr p) (h0 : a ≠ 0) (h1 : a < p) : un p a := by
  obtain ⟨u, _, hu⟩ := pr_un hp h0 h1
  refine ⟨(u : Int), ((u * a / p : Nat) : Int), ?_⟩
  have := Nat.div_add_mod (u * a) p
  rw [hu] at this
  have e : ((u * a : Nat) : Int) = ((p * (u * a / p) + 1 : Nat) : Int) := by rw [this]
  push_cast at e ⊢
  omega
theorem dt_lin {p n : Nat} {a b : Int} {R S T : Nat → Nat} {x : Nat → Int} (h : ∀ j, j < n → (p : Int) ∣ (T j : Int) - (a * (R j : Int) - b * (S j : Int))) : (p : Int) ∣ dt n T x - (a * dt n R x - b * dt n S x) := by
  induction n with
  | zero => show (p : Int) ∣ 0 - (a * 0 - b * 0); simp
  | succ n ih =>
    have h1 := ih (fun j hj => h j (by omega))
    have h2 : (p : Int) ∣ ((T n : Int) - (a * (R n : Int) - b * (S n : Int))) * x n := Int.dvd_trans (h n (by omega)) (Int.dvd_mul_right _ _)
    have h3 := Int.dvd_add h1 h2
    rw [dt, dt, dt]
    have e : dt n T x - (a * dt n R x - b * dt n S x) + ((T n : Int) - (a * (R n : Int) - b * (S n : Int))) * x n = dt n T x + (T n : Int) * x n - (a * (dt n R x + (R n : Int) * x n) - b * (dt n S x + (S n : Int) * x n)) := by
      rw [Int.sub_mul, Int.sub_mul, Int.mul_add, Int.mul_add, Int.mul_assoc, Int.mul_assoc]; omega
    rwa [e] at h3
theorem Sol.row {p h n : Nat} {F G : Nat → Nat → Nat} {i d a : Nat} {b : Int} (hi : i < h) (hd : d < h) (hne : i ≠ d) (hu : un p a) (ho : ∀ i', i' < h → i' ≠ i → ∀ j, j < n → G i' j = F i' j) (hr : ∀ j, j < n → (p : Int) ∣ (G i j : Int) - ((a : Int) * (F i j : Int) - b * (F d j : Int))) (x : Nat → Int) : Sol p h n G x ↔ Sol p h n F x := by
  have lin := dt_lin (x := x) hr
  constructor
  · intro g i' hi'
    by_cases e : i' = i
    · subst e
      have g1 := g i' hi
      have g2 := g d hd
      rw [dt_cg (ho d hd (fun q => hne q.symm)) (fun _ _ => rfl)] at g2
      have s1 := Int.dvd_sub g1 lin
      have s2 := Int.dvd_add s1 (Int.dvd_trans g2 (Int.dvd_mul_left b _))
      rw [show dt n (G i') x - (dt n (G i') x - ((a : Int) * dt n (F i') x - b * dt n (F d) x)) + b * dt n (F d) x = (a : Int) * dt n (F i') x by omega] at s2
      exact (un_cancel hu).mp s2
    · have g1 := g i' hi'
      rwa [dt_cg (ho i' hi' e) (fun _ _ => rfl)] at g1
  · intro g i' hi'
    by_cases e : i' = i
    · subst e
      have g1 := Int.dvd_trans (g i' hi) (Int.dvd_mul_left (a : Int) _)
      have g2 := Int.dvd_trans (g d hd) (Int.dvd_mul_left b _)
      have s := Int.dvd_add lin (Int.dvd_sub g1 g2)
      rwa [show dt n (G i') x - ((a : Int) * dt n (F i') x - b * dt n (F d) x) + ((a : Int) * dt n (F i') x - b * dt n (F d) x) = dt n (G i') x by omega] at s
    · rw [dt_cg (ho i' hi' e) (fun _ _ => rfl)]
      exact g i' hi'
theorem Sol.swap {p h n : Nat} {F G : Nat → Nat → Nat} {a b : Nat} (ha : a < h) (hb : b < h) (h1 : ∀ j, j < n → G a j = F b j) (h2 : ∀ j, j < n → G b j = F a j) (ho : ∀ i, i < h → i ≠ a → i ≠ b → ∀ j, j < n → G i j = F i j) (x : Nat → Int) : Sol p h n G x ↔ Sol p h n F x := by
  constructor
  · intro g i hi
    by_cases e1 : i = a
    · subst e1; rw [← dt_cg h2 (fun _ _ => rfl)]; exact g b hb
    · by_cases e2 : i = b
      · subst e2; rw [← dt_cg h1 (fun _ _ => rfl)]; exact g a ha
      · rw [← dt_cg (ho i hi e1 e2) (fun _ _ => rfl)]; exact g i hi
  · intro g i hi
    by_cases e1 : i = a
    · subst e1; rw [dt_cg h1 (fun _ _ => rfl)]; exact g b hb
    · by_cases e2 : i = b
      · subst e2; rw [dt_cg h2 (fun _ _ => rfl)]; exact g a ha
      · rw [dt_cg (ho i hi e1 e2) (fun _ _ => rfl)]; exact g i hi
/-! the class's numbers -/
def MC (C : Mem) (p h w : Nat) (F : Nat → Nat → Nat) : Prop := C 23 1 = nI p ∧ C 23 2 = nI h ∧ C 23 3 = nI w ∧ h ≤ 24 ∧ w ≤ 20 ∧ ∀ i j, i < h → j < w → F i j < p ∧ C 24 (i * 20 + j) = nI (F i j)
theorem at20 (i j : Nat) : nI i * 20 + nI j = nI (i * 20 + j) := by
  rw [show (20 : Int32) = nI 20 from rfl, nIm, nIa]
theorem findP_ok {C : Mem} {p h w : Nat} {F : Nat → Nat → Nat} (hM : MC C p h w F) {c d : Nat} (hc : c < w) (hp7 : p ≤ 7) : ∀ n i, h - i < n → d ≤ i → i ≤ h → (∀ i', d ≤ i' → i' < i → F i' c = 0) → ∃ r, Eq_findPivot_L2 n (nI c) (nI i) C = some (r, C) ∧ ((r = -1 ∧ ∀ i', d ≤ i' → i' < h → F i' c = 0) ∨ ∃ q, q < h ∧ d ≤ q ∧ r = nI q ∧ F q c ≠ 0) := by
  obtain ⟨m1, m2, m3, m4, m5, m6⟩ := hM
  intro n
  induction n with
  | zero => intro i h1; omega
  | succ n ih =>
    intro i h1 h2 h3 h4
    rw [Eq_findPivot_L2, m2]
    by_cases e : i = h
    · subst e
      rw [if_pos (Int32.le_refl _)]
      exact ⟨_, rfl, .inl ⟨rfl, h4⟩⟩
    · have hi : i < h := by omega
      have m := m6 i c hi hc
      rw [if_neg (nI_ge hi (by omega)), at20, if_pos (ibn (by omega) (by omega)), ixn (by omega), m.2]
      by_cases z : F i c = 0
      · rw [z, if_pos (show nI 0 = 0 from rfl), nI_1]
        exact ih (i + 1) (by omega) (by omega) (by omega) (fun i' a b => by
          by_cases q : i' = i
          · subst q; exact z
          · exact h4 i' a (by omega))
      · rw [if_neg (nI_ne0 (by omega) (by omega))]
        exact ⟨_, rfl, .inr ⟨i, hi, h2, rfl, z⟩⟩
theorem exch_ok {C : Mem} {p h w : Nat} {F : Nat → Nat → Nat} (hM : MC C p h w F) {a b c : Nat} (ha : a < h) (hb : b < h) (hc : c ≤ w) : ∃ C', Eq_exchangeRows (nI a) (nI b) (nI c) C = some C' ∧ (∀ x, x ≠ 24 → C' x = C x) ∧ MC C' p h w (fun i j => if c ≤ j then (if i = a then F b j else if i = b then F a j else F i j) else F i j) := by
  obtain ⟨m1, m2, m3, m4, m5, m6⟩ := hM
  unfold Eq_exchangeRows
  obtain ⟨C', g1, g2⟩ := lp (fun m j M' => Eq_exchangeRows_L3 m (nI a) (nI b) (nI j) M') (fun M' => some M') w (fun j M' => (∀ x, x ≠ 24 → M' x = C x) ∧ c ≤ j ∧ ∀ i' j', i' < h → j' < w → M' 24 (i' * 20 + j') = nI (if c ≤ j' ∧ j' < j then (if i' = a then F b j' else if i' = b then F a j' else F i' j') else F i' j')) (fun m M' h' => by
      show Eq_exchangeRows_L3 (m + 1) (nI a) (nI b) (nI w) M' = _
      rw [Eq_exchangeRows_L3, h'.1 23 (by omega), m3, if_pos (Int32.le_refl _)]) (fun m j M' hj h' => by
      show ∃ M1, _ ∧ Eq_exchangeRows_L3 (m + 1) (nI a) (nI b) (nI j) M' = Eq_exchangeRows_L3 m (nI a) (nI b) (nI (j + 1)) M1
      rw [Eq_exchangeRows_L3, h'.1 23 (by omega), m3, if_neg (nI_ge hj (by omega)), at20, at20, if_pos (ibn (by omega) (by omega)), if_pos (ibn (by omega) (by omega)), if_pos (ibn (by omega) (by omega)), if_pos (ibn (by omega) (by omega)), ixn (by omega), ixn (by omega), nI_1]
      refine ⟨_, ⟨fun x hx => by rw [wr_ne hx, wr_ne hx]; exact h'.1 x hx, by have := h'.2.1; omega, fun i' j' hi' hj' => ?_⟩, rfl⟩
      rw [wr_g, wr_g, h'.2.2 a j ha hj, h'.2.2 b j hb hj, h'.2.2 i' j' hi' hj', if_neg (show ¬ (c ≤ j ∧ j < j) by omega), if_neg (show ¬ (c ≤ j ∧ j < j) by omega)]
      have k1 : (24 = 24 ∧ i' * 20 + j' = b * 20 + j) ↔ (i' = b ∧ j' = j) := by omega
      have k2 : (24 = 24 ∧ i' * 20 + j' = a * 20 + j) ↔ (i' = a ∧ j' = j) := by omega
      have k3 : c ≤ j := h'.2.1
      by_cases e : j' = j <;> by_cases e1 : i' = a <;> by_cases e2 : i' = b <;> grind) (w - c) FU c C (by omega) (FU_lt (by omega)) ⟨fun _ _ => rfl, Nat.le_refl _, fun i' j' hi' hj' => by rw [if_neg (by omega)]; exact (m6 i' j' hi' hj').2⟩
  refine ⟨C', g2, g1.1, by rw [g1.1 23 (by omega)]; exact m1, by rw [g1.1 23 (by omega)]; exact m2, by rw [g1.1 23 (by omega)]; exact m3, m4, m5, fun i j hi hj => ⟨?_, ?_⟩⟩
  · have := (m6 i j hi hj).1
    have := (m6 a j ha hj).1
    have := (m6 b j hb hj).1
    show (if c ≤ j then (if i = a then F b j else if i = b then F a j else F i j) else F i j) < p
    split
    · split
      · assumption
      · split <;> assumption
    · assumption
  · rw [g1.2.2 i j hi hj]
    show _ = nI (if c ≤ j then (if i = a then F b j else if i = b then F a j else F i j) else F i j)
    by_cases q : c ≤ j
    · rw [if_pos ⟨q, hj⟩, if_pos q]
    · rw [if_neg (fun z => q z.1), if_neg q]
theorem mulI {a b : Nat} (ha : a ≤ 7) (hb : b ≤ 7) : (0 : Int) ≤ (a : Int) * (b : Int) ∧ (a : Int) * (b : Int) ≤ 49 := by
  have h : a * b ≤ 7 * 7 := Nat.mul_le_mul ha hb
  have e : ((a * b : Nat) : Int) = (a : Int) * (b : Int) := by push_cast; rfl
  omega
theorem crs {a b c d : Nat} : nI a * nI b - nI c * nI d = Int32.ofInt ((a : Int) * (b : Int) - (c : Int) * (d : Int)) := by
  rw [nIo, nIo, nIo, nIo, Int32.ofInt_sub, Int32.ofInt_mul, Int32.ofInt_mul]
theorem clr_row {C : Mem} {p h w : Nat} {F : Nat → Nat → Nat} (hp : pr p) (hM : MC C p h w F) {i d c a b : Nat} {k17 : Int32 → Int32 → Int32 → Int32 → Mem → Option Mem} (hi : i < h) (hd : d < h) (hne : i ≠ d) (hc : c ≤ w) (ha : a ≤ 7) (hb : b ≤ 7) : ∃ C', Eq_clearBelow_L48 k17 FU (nI d) (nI c) (nI a) (nI i) (nI b) (nI c) C = k17 (nI d) (nI c) (nI a) (nI (i + 1)) C' ∧ (∀ x, x ≠ 24 → C' x = C x) ∧ MC C' p h w (fun i' j => if i' = i ∧ c ≤ j then md p ((a : Int) * (F i j : Int) - (b : Int) * (F d j : Int)) else F i' j) := by
  have h7 := pr_le hp
  obtain ⟨m1, m2, m3, m4, m5, m6⟩ := hM
  obtain ⟨C', g1, g2⟩ := lp (fun m j M' => Eq_clearBelow_L48 k17 m (nI d) (nI c) (nI a) (nI i) (nI b) (nI j) M') (fun M' => k17 (nI d) (nI c) (nI a) (nI (i + 1)) M') w (fun j M' => (∀ x, x ≠ 24 → M' x = C x) ∧ c ≤ j ∧ ∀ i' j', i' < h → j' < w → M' 24 (i' * 20 + j') = nI (if i' = i ∧ c ≤ j' ∧ j' < j then md p ((a : Int) * (F i j' : Int) - (b : Int) * (F d j' : Int)) else F i' j')) (fun m M' h' => by
      show Eq_clearBelow_L48 k17 (m + 1) (nI d) (nI c) (nI a) (nI i) (nI b) (nI w) M' = _
      rw [Eq_clearBelow_L48, h'.1 23 (by omega), m3, if_pos (Int32.le_refl _), Eq_clearBelow_b118, nI_1]) (fun m j M' hj h' => by
      show ∃ M1, _ ∧ Eq_clearBelow_L48 k17 (m + 1) (nI d) (nI c) (nI a) (nI i) (nI b) (nI j) M' = Eq_clearBelow_L48 k17 m (nI d) (nI c) (nI a) (nI i) (nI b) (nI (j + 1)) M1
      have f1 := (m6 i j hi hj).1
      have f2 := (m6 d j hd hj).1
      have b1 := mulI ha (show F i j ≤ 7 by omega)
      have b2 := mulI hb (show F d j ≤ 7 by omega)
      rw [Eq_clearBelow_L48, h'.1 23 (by omega), m3, if_neg (nI_ge hj (by omega)), at20, at20, if_pos (ibn (by omega) (by omega)), if_pos (ibn (by omega) (by omega)), ixn (by omega), ixn (by omega), h'.2.2 i j hi hj, h'.2.2 d j hd hj, if_neg (by omega), if_neg (by omega), m1, reduce_jR hp, bd_s, crs, jR_md (by omega) (by omega) hp, if_pos (ibn (by omega) (by omega)), nI_1]
      refine ⟨_, ⟨fun x hx => by rw [wr_ne hx]; exact h'.1 x hx, by have := h'.2.1; omega, fun i' j' hi' hj' => ?_⟩, rfl⟩
      rw [wr_g, h'.2.2 i' j' hi' hj']
      have k2 : (24 = 24 ∧ i' * 20 + j' = i * 20 + j) ↔ (i' = i ∧ j' = j) := by omega
      have k3 : c ≤ j := h'.2.1
      by_cases e : j' = j <;> by_cases e1 : i' = i
      · subst e; subst e1; rw [if_pos ⟨rfl, rfl⟩, if_pos (by omega)]
      · rw [if_neg (by omega), if_neg (by omega), if_neg (by omega)]
      · rw [if_neg (by omega)]
        by_cases q : c ≤ j' ∧ j' < j
        · rw [if_pos ⟨e1, q⟩, if_pos ⟨e1, q.1, by omega⟩]
        · rw [if_neg (fun z => q z.2), if_neg (by omega)]
      · rw [if_neg (by omega), if_neg (by omega), if_neg (by omega)]) (w - c) FU c C (by omega) (FU_lt (by omega)) ⟨fun _ _ => rfl, Nat.le_refl _, fun i' j' hi' hj' => by rw [if_neg (by omega)]; exact (m6 i' j' hi' hj').2⟩
  refine ⟨C', g2, g1.1, by rw [g1.1 23 (by omega)]; exact m1, by rw [g1.1 23 (by omega)]; exact m2, by rw [g1.1 23 (by omega)]; exact m3, m4, m5, fun i' j hi' hj => ?_⟩
  show (if i' = i ∧ c ≤ j then md p ((a : Int) * (F i j : Int) - (b : Int) * (F d j : Int)) else F i' j) < p ∧ C' 24 (i' * 20 + j) = nI (if i' = i ∧ c ≤ j then md p ((a : Int) * (F i j : Int) - (b : Int) * (F d j : Int)) else F i' j)
  rw [g1.2.2 i' j hi' hj]
  by_cases q : i' = i ∧ c ≤ j
  · rw [if_pos q, if_pos ⟨q.1, q.2, hj⟩]; exact ⟨md_lt (by omega), rfl⟩
  · rw [if_neg q, if_neg (fun z => q ⟨z.1, z.2.1⟩)]; exact ⟨(m6 i' j hi' hj).1, rfl⟩
