/-! PURE: lines: mix, times, swap -/
theorem jremN {a p : Nat} (ha : a < 2 ^ 31) (hp : 0 < p) (hp2 : p < 2 ^ 31) : jrem (nI a) (nI p) = nI (a % p) := pk_rem ha hp hp2
theorem reduceN {a p : Nat} {M : Mem} (ha : a < 2 ^ 31) (hp : 0 < p) (hp2 : p < 2 ^ 31) : Pf_reduce (nI a) (nI p) M = some (nI (a % p), M) := by
  unfold Pf_reduce
  have h1 : a % p < p := Nat.mod_lt _ hp
  rw [if_pos (show (1 : Int32) ≤ nI p from nI_le (a := 1) hp hp2), if_neg (nI_ne0 hp hp2), jremN ha hp hp2, if_pos (nI_pos' (by omega))]
theorem moduloN {a p : Nat} {M : Mem} (h : M 33 0 = nI p) (ha : a < 2 ^ 31) (hp : 0 < p) (hp2 : p < 2 ^ 30) : Mo_modulo (nI a) M = some (nI (a % p), M) := by
  unfold Mo_modulo
  have h1 : a % p < p := Nat.mod_lt _ hp
  rw [h, if_neg (nI_ne0 hp (by omega)), if_neg (nI_ne0 hp (by omega)), jremN ha hp (by omega), nIa, jremN (by omega) hp (by omega), Nat.add_mod_right, Nat.mod_mod]
def pn (z t l n : Nat) : Nat := 16 * t + (if z = 0 then 4 * l + n else 4 * n + l)
theorem pn_lt {z t l n : Nat} (ht : t < 2) (hl : l < 4) (hn : n < 4) : pn z t l n < 32 := by unfold pn; split <;> omega
theorem pn_inj {z t l n t' l' n' : Nat} (hl : l < 4) (hn : n < 4) (hl' : l' < 4) (hn' : n' < 4) (h : pn z t l n = pn z t' l' n') : t = t' ∧ l = l' ∧ n = n' := by
  unfold pn at h
  split at h <;> omega
/-- how many lines, and how long they are -/
def lc (z r w : Nat) : Nat := if z = 0 then r else w
def le_ (z r w : Nat) : Nat := if z = 0 then w else r
theorem lc4 {z r w : Nat} (hr : r ≤ 4) (hw : w ≤ 4) : lc z r w ≤ 4 ∧ le_ z r w ≤ 4 := by unfold lc le_; split <;> omega
theorem linesOf_ok {c z r w : Nat} {M : Mem} (hc : isP c = true) (e2 : M c 2 = nI r) (e3 : M c 3 = nI w) (hz : z < 2) : Pa_linesOf c (nI z) M = some (nI (lc z r w), M) := by
  unfold Pa_linesOf lc
  rw [if_pos hc, e2, e3]
  have ez : z = 0 ∨ z = 1 := by omega
  rcases ez with rfl | rfl <;> rfl
theorem linesOf_o {c z r w : Nat} {M : Mem} (hc : isP c = true) (e2 : M c 2 = nI r) (e3 : M c 3 = nI w) (hz : z < 2) : Pa_linesOf c (1 - nI z) M = some (nI (le_ z r w), M) := by
  unfold Pa_linesOf le_
  rw [if_pos hc, e2, e3]
  have ez : z = 0 ∨ z = 1 := by omega
  rcases ez with rfl | rfl <;> rfl
theorem mLen {z r w : Nat} {M : Mem} (e1 : M 33 1 = nI r) (e2 : M 33 2 = nI w) (hz : z < 2) : ib (2 - nI z) 35 = true ∧ M 33 (ix (2 - nI z)) = nI (le_ z r w) := by
  have ez : z = 0 ∨ z = 1 := by omega
  rcases ez with rfl | rfl
  · exact ⟨rfl, e2⟩
  · exact ⟨rfl, e1⟩
theorem onLine_ok {c z r w t l n : Nat} {M : Mem} (hc : isP c = true) (e2 : M c 2 = nI r) (e3 : M c 3 = nI w) (hr : r ≤ 4) (hw : w ≤ 4) (hz : z < 2) (ht : t < 2) (hl : l < lc z r w) (hn : n < le_ z r w) : Pa_onLine c (nI t) (nI z) (nI l) (nI n) M = some (M (c + 1) (pn z t l n), M) := by
  unfold Pa_onLine
  rw [if_pos hc]
  have ez : z = 0 ∨ z = 1 := by omega
  rcases ez with rfl | rfl
  · rw [if_pos (show nI 0 = 0 from rfl), valueAt_in hc e2 e3 hr hw ht hl hn, bd_s]
    simp [pn, Nat.add_assoc]
  · rw [if_neg (by decide), valueAt_in hc e2 e3 hr hw ht hn hl, bd_s]
    simp [pn, Nat.add_assoc]
theorem putOnLine_ok {c z r w t l n : Nat} {M : Mem} {v : Int32} (hc : isP c = true) (e2 : M c 2 = nI r) (e3 : M c 3 = nI w) (hr : r ≤ 4) (hw : w ≤ 4) (hz : z < 2) (ht : t < 2) (hl : l < lc z r w) (hn : n < le_ z r w) : Pa_putOnLine c (nI t) (nI z) (nI l) (nI n) v M = some (wr M (c + 1) (pn z t l n) v) := by
  unfold Pa_putOnLine
  rw [if_pos hc]
  have ez : z = 0 ∨ z = 1 := by omega
  rcases ez with rfl | rfl
  · rw [if_pos (show nI 0 = 0 from rfl), putValue_in hc e2 e3 hr hw ht hl hn, bv_s]
    simp [pn, Nat.add_assoc]
  · rw [if_neg (by decide), putValue_in hc e2 e3 hr hw ht hn hl, bv_s]
    simp [pn, Nat.add_assoc]
theorem lineOf_ok {z t l n : Nat} {M : Mem} (hz : z < 2) (ht : t < 2) (hl : l < 4) (hn : n < 4) : Mo_lineOf (nI t) (nI z) (nI l) (nI n) M = some (M 33 (3 + pn z t l n), M) := by
  unfold Mo_lineOf
  have ez : z = 0 ∨ z = 1 := by omega
  rcases ez with rfl | rfl
  · rw [if_pos (show nI 0 = 0 from rfl), of_in ht hl hn, bd_s]
    simp [pn, Nat.add_assoc]
  · rw [if_neg (by decide), of_in ht hn hl, bd_s]
    simp [pn, Nat.add_assoc]
theorem lineBec_ok {z t l n a p : Nat} {M : Mem} (e0 : M 33 0 = nI p) (hp : pr p) (ha : a < 2 ^ 31) (hz : z < 2) (ht : t < 2) (hl : l < 4) (hn : n < 4) : Mo_lineBecomes (nI t) (nI z) (nI l) (nI n) (nI a) M = some (wr M 33 (3 + pn z t l n) (nI (a % p))) := by
  have h7 := pr_le hp
  unfold Mo_lineBecomes Mo_lineBecomes_b12 Mo_lineBecomes_b22
  have ez : z = 0 ∨ z = 1 := by omega
  rcases ez with rfl | rfl
  · rw [if_pos (show nI 0 = 0 from rfl), if_pos (show nI 0 = 0 from rfl), moduloN e0 ha (by omega) (by omega), bd_s, becomes_in ht hl hn, bv_s]
    simp [pn, Nat.add_assoc]
  · rw [if_neg (by decide), if_neg (by decide), moduloN e0 ha (by omega) (by omega), bd_s, becomes_in ht hn hl, bv_s]
    simp [pn, Nat.add_assoc]
/-- lines that are changed place by place: F tells what comes -/
def LnI (B0 : Nat → Int32) (o z e : Nat) (F : Nat → Nat → Nat → Int32) (t n : Nat) (B : Nat → Int32) : Prop := (∀ q, q < o ∨ o + 32 ≤ q → B q = B0 q) ∧ ∀ t' l n', t' < 2 → l < 4 → n' < 4 → B (o + pn z t' l n') = if (t' < t ∨ (t' = t ∧ n' < n)) ∧ n' < e then F t' l n' else B0 (o + pn z t' l n')
theorem LnI.ini (B0 : Nat → Int32) (o z e : Nat) (F : Nat → Nat → Nat → Int32) : LnI B0 o z e F 0 0 B0 := ⟨fun _ _ => rfl, fun t' l n' _ _ _ => by rw [if_neg (by omega)]⟩
theorem LnI.row {B0 B : Nat → Int32} {o z e t : Nat} {F : Nat → Nat → Nat → Int32} (h : LnI B0 o z e F t e B) : LnI B0 o z e F (t + 1) 0 B := ⟨h.1, fun t' l n' a1 a2 a3 => by
  rw [h.2 t' l n' a1 a2 a3]
  by_cases q : (t' < t ∨ (t' = t ∧ n' < e)) ∧ n' < e
  · rw [if_pos q, if_pos (by omega)]
  · rw [if_neg q, if_neg (by omega)]⟩
theorem LnI.now {B0 B : Nat → Int32} {o z e t n l : Nat} {F : Nat → Nat → Nat → Int32} (h : LnI B0 o z e F t n B) (ht : t < 2) (hl : l < 4) (hn : n < 4) : B (o + pn z t l n) = B0 (o + pn z t l n) := by
  rw [h.2 t l n ht hl hn, if_neg (by omega)]
theorem LnI.step {B0 B B' : Nat → Int32} {o z e t n : Nat} {F : Nat → Nat → Nat → Int32} (h : LnI B0 o z e F t n B) (ht : t < 2) (hn : n < 4) (hne : n < e) (h1 : ∀ q, (∀ l, l < 4 → q ≠ o + pn z t l n) → B' q = B q) (h2 : ∀ l, l < 4 → B' (o + pn z t l n) = F t l n) : LnI B0 o z e F t (n + 1) B' := by
  refine ⟨fun q hq => ?_, fun t' l n' a1 a2 a3 => ?_⟩
  · rw [h1 q (fun l hl => by have := pn_lt (z := z) ht hl hn; omega)]
    exact h.1 q hq
  · by_cases q : t' = t ∧ n' = n
    · obtain ⟨rfl, rfl⟩ := q
      rw [h2 l a2, if_pos (by omega)]
    · rw [h1 _ (fun l' hl' e => q (by have := pn_inj a2 a3 hl' hn (show pn z t' l n' = pn z t l' n by omega); omega)), h.2 t' l n' a1 a2 a3]
      by_cases q2 : (t' < t ∨ (t' = t ∧ n' < n)) ∧ n' < e
      · rw [if_pos q2, if_pos (by omega)]
      · rw [if_neg q2, if_neg (by omega)]
/-- both tables' lines are changed alike -/
theorem PRel.line {A B S B' S' : Nat → Int32} {p r w z : Nat} {FB FS : Nat → Nat → Nat → Int32} (hp : pr p) (hr : r ≤ 4) (hw : w ≤ 4) (hz : z < 2) (e1 : A 1 = nI p) (e2 : A 2 = nI r) (e3 : A 3 = nI w) (s0 : S 0 = nI p) (s1 : S 1 = nI r) (s2 : S 2 = nI w) (hzz : ∀ t i j, t < 2 → i < 4 → j < 4 → r ≤ i ∨ w ≤ j → B (16 * t + 4 * i + j) = 0)
    (hB : LnI B 0 z (le_ z r w) FB 2 0 B') (hS : LnI S 3 z (le_ z r w) FS 2 0 S') (hF : ∀ t l n, t < 2 → l < lc z r w → n < le_ z r w → ∃ v, v < p ∧ FB t l n = nI v ∧ FS t l n = nI v) (hO : ∀ t l n, t < 2 → l < 4 → n < 4 → lc z r w ≤ l → FB t l n = B (0 + pn z t l n)) : PRel A B' S' := by
  have key : ∀ t i j, 16 * t + 4 * i + j = pn z t (if z = 0 then i else j) (if z = 0 then j else i) := fun t i j => by
    unfold pn
    by_cases q : z = 0
    · simp [q, Nat.add_assoc]
    · simp [q, Nat.add_assoc]
  refine ⟨p, r, w, hp, hr, hw, e1, e2, e3, by rw [hS.1 0 (by omega)]; exact s0, by rw [hS.1 1 (by omega)]; exact s1, by rw [hS.1 2 (by omega)]; exact s2, fun t i j a1 a2 a3 => ?_, fun t i j a1 a2 a3 a4 => ?_⟩
  · have hl : (if z = 0 then i else j) < lc z r w := by unfold lc; by_cases q : z = 0 <;> simp [q] <;> omega
    have hn : (if z = 0 then j else i) < le_ z r w := by unfold le_; by_cases q : z = 0 <;> simp [q] <;> omega
    rw [key t i j]
    generalize (if z = 0 then i else j) = l at hl ⊢
    generalize (if z = 0 then j else i) = n at hn ⊢
    obtain ⟨v, g1, g2, g3⟩ := hF t l n a1 hl hn
    have b1 := lc4 (z := z) hr hw
    have c1 := hB.2 t l n a1 (by omega) (by omega)
    have c2 := hS.2 t l n a1 (by omega) (by omega)
    rw [if_pos ⟨Or.inl a1, hn⟩] at c1 c2
    exact ⟨v, g1, by rw [← g2, ← c1, Nat.zero_add], by rw [← g3, ← c2]⟩
  · have hl4 : (if z = 0 then i else j) < 4 := by split <;> omega
    have hn4 : (if z = 0 then j else i) < 4 := by split <;> omega
    have hB0 : B (pn z t (if z = 0 then i else j) (if z = 0 then j else i)) = 0 := by rw [← key t i j]; exact hzz t i j a1 a2 a3 a4
    have hor : lc z r w ≤ (if z = 0 then i else j) ∨ le_ z r w ≤ (if z = 0 then j else i) := by
      unfold lc le_
      by_cases y : z = 0 <;> simp [y] <;> omega
    rw [key t i j]
    generalize (if z = 0 then i else j) = l at hl4 hB0 hor ⊢
    generalize (if z = 0 then j else i) = n at hn4 hB0 hor ⊢
    have c1 := hB.2 t l n a1 hl4 hn4
    rw [Nat.zero_add] at c1
    rw [c1]
    by_cases q : (t < 2 ∨ (t = 2 ∧ n < 0)) ∧ n < le_ z r w
    · rw [if_pos q, hO t l n a1 hl4 hn4 (by omega), Nat.zero_add]
      exact hB0
    · rw [if_neg q]; exact hB0

theorem mix_c1 {c z p r w t : Nat} {i j f : Nat} {M : Mem} {k3 : Nat → Int32 → Int32 → Int32 → Int32 → Int32 → Mem → Option Mem} (hc : isP c = true) (e1 : M c 1 = nI p) (e2 : M c 2 = nI r) (e3 : M c 3 = nI w) (hp : pr p) (hr : r ≤ 4) (hw : w ≤ 4) (hz : z < 2) (hv : ∀ t l n, t < 2 → l < lc z r w → n < le_ z r w → ∃ v, v < p ∧ M (c + 1) (pn z t l n) = nI v) (hi : i < lc z r w) (hj : j < lc z r w) (hf : f < 8) (hij : i ≠ j) (ht : t < 2) {M1 : Mem} (h : (∀ x, x ≠ c + 1 → M1 x = M x) ∧ LnI (M (c + 1)) 0 z (le_ z r w) (fun t l n => if l = i then nI ((ix ((M (c + 1)) (0 + pn z t i n)) + f * ix ((M (c + 1)) (0 + pn z t j n))) % p) else (M (c + 1)) (0 + pn z t l n)) t 0 (M1 (c + 1))) : ∃ M2, ((∀ x, x ≠ c + 1 → M2 x = M x) ∧ LnI (M (c + 1)) 0 z (le_ z r w) (fun t l n => if l = i then nI ((ix ((M (c + 1)) (0 + pn z t i n)) + f * ix ((M (c + 1)) (0 + pn z t j n))) % p) else (M (c + 1)) (0 + pn z t l n)) (t + 1) 0 (M2 (c + 1))) ∧ Pa_mixLines_L12 k3 FU c (nI z) (nI i) (nI j) (nI f) (nI t) 0 M1 = k3 c (nI z) (nI i) (nI j) (nI f) (nI (t + 1)) M2 := by
  have h7 := pr_le hp
  have h4 := lc4 (z := z) hr hw
  have hcc : c ≠ c + 1 := by omega
  obtain ⟨M2, g1, g2⟩ := lp (fun m n M' => Pa_mixLines_L12 k3 m c (nI z) (nI i) (nI j) (nI f) (nI t) (nI n) M') (fun M' => k3 c (nI z) (nI i) (nI j) (nI f) (nI (t + 1)) M') (le_ z r w) (fun n M' => (∀ x, x ≠ c + 1 → M' x = M x) ∧ LnI (M (c + 1)) 0 z (le_ z r w) (fun t l n => if l = i then nI ((ix ((M (c + 1)) (0 + pn z t i n)) + f * ix ((M (c + 1)) (0 + pn z t j n))) % p) else (M (c + 1)) (0 + pn z t l n)) t n (M' (c + 1))) (fun m M' h' => by
      show Pa_mixLines_L12 k3 (m + 1) c (nI z) (nI i) (nI j) (nI f) (nI t) (nI (le_ z r w)) M' = _
      have f2 : M' c 2 = nI r := by rw [h'.1 c hcc]; exact e2
      have f3 : M' c 3 = nI w := by rw [h'.1 c hcc]; exact e3
      rw [Pa_mixLines_L12, linesOf_o hc f2 f3 hz, bd_s, if_pos (Int32.le_refl _), nI_1]) (fun m n M' hn h' => by
      show ∃ M1, _ ∧ Pa_mixLines_L12 k3 (m + 1) c (nI z) (nI i) (nI j) (nI f) (nI t) (nI n) M' = Pa_mixLines_L12 k3 m c (nI z) (nI i) (nI j) (nI f) (nI t) (nI (n + 1)) M1
      have f1 : M' c 1 = nI p := by rw [h'.1 c hcc]; exact e1
      have f2 : M' c 2 = nI r := by rw [h'.1 c hcc]; exact e2
      have f3 : M' c 3 = nI w := by rw [h'.1 c hcc]; exact e3
      rw [Pa_mixLines_L12, linesOf_o hc f2 f3 hz, bd_s, if_neg (nI_ge hn (by omega))]
      obtain ⟨a, a1, a2⟩ := hv t i n ht hi (by omega)
      obtain ⟨b, b1, b2⟩ := hv t j n ht hj (by omega)
      have ra : M' (c + 1) (pn z t i n) = nI a := by have := h'.2.now ht (show i < 4 by omega) (show n < 4 by omega); rw [Nat.zero_add] at this; rw [this]; exact a2
      have rb : M' (c + 1) (pn z t j n) = nI b := by have := h'.2.now ht (show j < 4 by omega) (show n < 4 by omega); rw [Nat.zero_add] at this; rw [this]; exact b2
      have fb : f * b ≤ 7 * 7 := Nat.mul_le_mul (by omega) (by omega)
      rw [onLine_ok hc f2 f3 hr hw hz ht hi hn, bd_s, onLine_ok hc f2 f3 hr hw hz ht hj hn, bd_s, ra, rb, nIm, nIa, f1, reduceN (by omega) (by omega) (by omega), bd_s, putOnLine_ok hc f2 f3 hr hw hz ht hi hn, bv_s, nI_1]
      refine ⟨_, ⟨fun x hx => by rw [wr_ne hx]; exact h'.1 x hx, ?_⟩, rfl⟩
      refine h'.2.step ht (by omega) hn (fun q hq => by rw [wr_o (by have := hq i (by omega); omega)]) (fun l hl => ?_)
      rw [Nat.zero_add]
      by_cases hli : l = i
      · subst hli
        rw [wr_s, if_pos rfl, Nat.zero_add, Nat.zero_add, a2, b2, ixn (by omega), ixn (by omega)]
      · rw [wr_o (fun e => hli (pn_inj hl (by omega) (by omega) (by omega) e).2.1), if_neg hli]
        have := h'.2.now (l := l) ht hl (show n < 4 by omega)
        rw [Nat.zero_add] at this
        rw [this]) (le_ z r w) FU 0 M1 (by omega) (FU_lt (by omega)) h
  exact ⟨M2, ⟨g1.1, g1.2.row⟩, g2⟩
theorem mix_c {c z p r w : Nat} {i j f : Nat} {M : Mem} (hc : isP c = true) (e1 : M c 1 = nI p) (e2 : M c 2 = nI r) (e3 : M c 3 = nI w) (hp : pr p) (hr : r ≤ 4) (hw : w ≤ 4) (hz : z < 2) (hv : ∀ t l n, t < 2 → l < lc z r w → n < le_ z r w → ∃ v, v < p ∧ M (c + 1) (pn z t l n) = nI v) (hi : i < lc z r w) (hj : j < lc z r w) (hf : f < 8) (hij : i ≠ j) : ∃ M2, ((∀ x, x ≠ c + 1 → M2 x = M x) ∧ LnI (M (c + 1)) 0 z (le_ z r w) (fun t l n => if l = i then nI ((ix ((M (c + 1)) (0 + pn z t i n)) + f * ix ((M (c + 1)) (0 + pn z t j n))) % p) else (M (c + 1)) (0 + pn z t l n)) 2 0 (M2 (c + 1))) ∧ Pa_mixLines c (nI z) (nI i) (nI j) (nI f) M = some M2 := by
  unfold Pa_mixLines
  rw [if_pos hc]
  obtain ⟨M2, g1, g2⟩ := lp (fun m t M' => Pa_mixLines_L3 m c (nI z) (nI i) (nI j) (nI f) (nI t) M') (fun M' => some M') 2 (fun t M' => (∀ x, x ≠ c + 1 → M' x = M x) ∧ LnI (M (c + 1)) 0 z (le_ z r w) (fun t l n => if l = i then nI ((ix ((M (c + 1)) (0 + pn z t i n)) + f * ix ((M (c + 1)) (0 + pn z t j n))) % p) else (M (c + 1)) (0 + pn z t l n)) t 0 (M' (c + 1))) (fun m M' h' => by
      show Pa_mixLines_L3 (m + 1) c (nI z) (nI i) (nI j) (nI f) (nI 2) M' = _
      rw [Pa_mixLines_L3, if_pos (by decide)]) (fun m t M' ht h' => by
      show ∃ M1, _ ∧ Pa_mixLines_L3 (m + 1) c (nI z) (nI i) (nI j) (nI f) (nI t) M' = Pa_mixLines_L3 m c (nI z) (nI i) (nI j) (nI f) (nI (t + 1)) M1
      rw [Pa_mixLines_L3, if_neg (show ¬ (2 : Int32) ≤ nI t from nI_ge (b := 2) ht (by omega))]
      exact mix_c1 hc e1 e2 e3 hp hr hw hz hv hi hj hf hij ht h') 2 FU 0 M (by omega) (FU_lt (by omega)) ⟨fun _ _ => rfl, LnI.ini _ _ _ _ _⟩
  exact ⟨M2, g1, g2⟩
theorem mix_m1 {z p r w t : Nat} {i j f : Nat} {M : Mem} {k3 : Int32 → Int32 → Int32 → Int32 → Int32 → Mem → Option (Int32 × Mem)} (e0 : M 33 0 = nI p) (e1 : M 33 1 = nI r) (e2 : M 33 2 = nI w) (hp : pr p) (hr : r ≤ 4) (hw : w ≤ 4) (hz : z < 2) (hv : ∀ t l n, t < 2 → l < lc z r w → n < le_ z r w → ∃ v, v < p ∧ M 33 (3 + pn z t l n) = nI v) (hi : i < lc z r w) (hj : j < lc z r w) (hf : f < 8) (hij : i ≠ j) (ht : t < 2) {M1 : Mem} (h : (∀ x, x ≠ 33 → M1 x = M x) ∧ LnI (M 33) 3 z (le_ z r w) (fun t l n => if l = i then nI ((ix ((M 33) (3 + pn z t i n)) + f * ix ((M 33) (3 + pn z t j n))) % p) else (M 33) (3 + pn z t l n)) t 0 (M1 33)) : ∃ M2, ((∀ x, x ≠ 33 → M2 x = M x) ∧ LnI (M 33) 3 z (le_ z r w) (fun t l n => if l = i then nI ((ix ((M 33) (3 + pn z t i n)) + f * ix ((M 33) (3 + pn z t j n))) % p) else (M 33) (3 + pn z t l n)) (t + 1) 0 (M2 33)) ∧ Mo_mix_L46 k3 FU (nI z) (nI i) (nI j) (nI f) (nI t) 0 M1 = k3 (nI z) (nI i) (nI j) (nI f) (nI (t + 1)) M2 := by
  have h7 := pr_le hp
  have h4 := lc4 (z := z) hr hw
  obtain ⟨M2, g1, g2⟩ := lp (fun m n M' => Mo_mix_L46 k3 m (nI z) (nI i) (nI j) (nI f) (nI t) (nI n) M') (fun M' => k3 (nI z) (nI i) (nI j) (nI f) (nI (t + 1)) M') (le_ z r w) (fun n M' => (∀ x, x ≠ 33 → M' x = M x) ∧ LnI (M 33) 3 z (le_ z r w) (fun t l n => if l = i then nI ((ix ((M 33) (3 + pn z t i n)) + f * ix ((M 33) (3 + pn z t j n))) % p) else (M 33) (3 + pn z t l n)) t n (M' 33)) (fun m M' h' => by
      show Mo_mix_L46 k3 (m + 1) (nI z) (nI i) (nI j) (nI f) (nI t) (nI (le_ z r w)) M' = _
      have f1 : M' 33 1 = nI r := by rw [h'.2.1 1 (by omega)]; exact e1
      have f2 : M' 33 2 = nI w := by rw [h'.2.1 2 (by omega)]; exact e2
      rw [Mo_mix_L46, if_pos (mLen f1 f2 hz).1, (mLen f1 f2 hz).2, if_pos (Int32.le_refl _), nI_1]) (fun m n M' hn h' => by
      show ∃ M1, _ ∧ Mo_mix_L46 k3 (m + 1) (nI z) (nI i) (nI j) (nI f) (nI t) (nI n) M' = Mo_mix_L46 k3 m (nI z) (nI i) (nI j) (nI f) (nI t) (nI (n + 1)) M1
      have f0 : M' 33 0 = nI p := by rw [h'.2.1 0 (by omega)]; exact e0
      have f1 : M' 33 1 = nI r := by rw [h'.2.1 1 (by omega)]; exact e1
      have f2 : M' 33 2 = nI w := by rw [h'.2.1 2 (by omega)]; exact e2
      rw [Mo_mix_L46, if_pos (mLen f1 f2 hz).1, (mLen f1 f2 hz).2, if_neg (nI_ge hn (by omega))]
      obtain ⟨a, a1, a2⟩ := hv t i n ht hi (by omega)
      obtain ⟨b, b1, b2⟩ := hv t j n ht hj (by omega)
      have ra : M' 33 (3 + pn z t i n) = nI a := by rw [h'.2.now ht (show i < 4 by omega) (show n < 4 by omega)]; exact a2
      have rb : M' 33 (3 + pn z t j n) = nI b := by rw [h'.2.now ht (show j < 4 by omega) (show n < 4 by omega)]; exact b2
      have fb : f * b ≤ 7 * 7 := Nat.mul_le_mul (by omega) (by omega)
      rw [lineOf_ok hz ht (by omega) (by omega), bd_s, lineOf_ok hz ht (by omega) (by omega), bd_s, ra, rb, nIm, nIa, lineBec_ok f0 hp (by omega) hz ht (by omega) (by omega), bv_s, nI_1]
      refine ⟨_, ⟨fun x hx => by rw [wr_ne hx]; exact h'.1 x hx, ?_⟩, rfl⟩
      refine h'.2.step ht (by omega) hn (fun q hq => by rw [wr_o (hq i (by omega))]) (fun l hl => ?_)
      by_cases hli : l = i
      · subst hli
        rw [wr_s, if_pos rfl, a2, b2, ixn (by omega), ixn (by omega)]
      · rw [wr_o (fun e => hli (pn_inj (z := z) (t := t) (t' := t) (n := n) (n' := n) hl (by omega) (by omega) (by omega) (by omega)).2.1), if_neg hli, h'.2.now (l := l) ht hl (show n < 4 by omega)]) (le_ z r w) FU 0 M1 (by omega) (FU_lt (by omega)) h
  exact ⟨M2, ⟨g1.1, g1.2.row⟩, g2⟩
theorem mix_m {z p r w : Nat} {i j f : Nat} {M : Mem} (e0 : M 33 0 = nI p) (e1 : M 33 1 = nI r) (e2 : M 33 2 = nI w) (hp : pr p) (hr : r ≤ 4) (hw : w ≤ 4) (hz : z < 2) (hv : ∀ t l n, t < 2 → l < lc z r w → n < le_ z r w → ∃ v, v < p ∧ M 33 (3 + pn z t l n) = nI v) (hi : i < lc z r w) (hj : j < lc z r w) (hf : f < 8) (hij : i ≠ j) : ∃ M2, ((∀ x, x ≠ 33 → M2 x = M x) ∧ LnI (M 33) 3 z (le_ z r w) (fun t l n => if l = i then nI ((ix ((M 33) (3 + pn z t i n)) + f * ix ((M 33) (3 + pn z t j n))) % p) else (M 33) (3 + pn z t l n)) 2 0 (M2 33)) ∧ Mo_mix_L37 FU (nI z) (nI i) (nI j) (nI f) 0 M = some (1, M2) := by
  obtain ⟨M2, g1, g2⟩ := lp (fun m t M' => Mo_mix_L37 m (nI z) (nI i) (nI j) (nI f) (nI t) M') (fun M' => some (1, M')) 2 (fun t M' => (∀ x, x ≠ 33 → M' x = M x) ∧ LnI (M 33) 3 z (le_ z r w) (fun t l n => if l = i then nI ((ix ((M 33) (3 + pn z t i n)) + f * ix ((M 33) (3 + pn z t j n))) % p) else (M 33) (3 + pn z t l n)) t 0 (M' 33)) (fun m M' h' => by
      show Mo_mix_L37 (m + 1) (nI z) (nI i) (nI j) (nI f) (nI 2) M' = _
      rw [Mo_mix_L37, if_pos (by decide)]) (fun m t M' ht h' => by
      show ∃ M1, _ ∧ Mo_mix_L37 (m + 1) (nI z) (nI i) (nI j) (nI f) (nI t) M' = Mo_mix_L37 m (nI z) (nI i) (nI j) (nI f) (nI (t + 1)) M1
      rw [Mo_mix_L37, if_neg (show ¬ (2 : Int32) ≤ nI t from nI_ge (b := 2) ht (by omega))]
      exact mix_m1 e0 e1 e2 hp hr hw hz hv hi hj hf hij ht h') 2 FU 0 M (by omega) (FU_lt (by omega)) ⟨fun _ _ => rfl, LnI.ini _ _ _ _ _⟩
  exact ⟨M2, g1, g2⟩

theorem times_c1 {c z p r w t : Nat} {i f : Nat} {M : Mem} {k3 : Nat → Int32 → Int32 → Int32 → Int32 → Mem → Option Mem} (hc : isP c = true) (e1 : M c 1 = nI p) (e2 : M c 2 = nI r) (e3 : M c 3 = nI w) (hp : pr p) (hr : r ≤ 4) (hw : w ≤ 4) (hz : z < 2) (hv : ∀ t l n, t < 2 → l < lc z r w → n < le_ z r w → ∃ v, v < p ∧ M (c + 1) (pn z t l n) = nI v) (hi : i < lc z r w) (hf : f < 8) (ht : t < 2) {M1 : Mem} (h : (∀ x, x ≠ c + 1 → M1 x = M x) ∧ LnI (M (c + 1)) 0 z (le_ z r w) (fun t l n => if l = i then nI ((f * ix ((M (c + 1)) (0 + pn z t i n))) % p) else (M (c + 1)) (0 + pn z t l n)) t 0 (M1 (c + 1))) : ∃ M2, ((∀ x, x ≠ c + 1 → M2 x = M x) ∧ LnI (M (c + 1)) 0 z (le_ z r w) (fun t l n => if l = i then nI ((f * ix ((M (c + 1)) (0 + pn z t i n))) % p) else (M (c + 1)) (0 + pn z t l n)) (t + 1) 0 (M2 (c + 1))) ∧ Pa_multiplyLine_L12 k3 FU c (nI z) (nI i) (nI f) (nI t) 0 M1 = k3 c (nI z) (nI i) (nI f) (nI (t + 1)) M2 := by
  have h7 := pr_le hp
  have h4 := lc4 (z := z) hr hw
  have hcc : c ≠ c + 1 := by omega
  obtain ⟨M2, g1, g2⟩ := lp (fun m n M' => Pa_multiplyLine_L12 k3 m c (nI z) (nI i) (nI f) (nI t) (nI n) M') (fun M' => k3 c (nI z) (nI i) (nI f) (nI (t + 1)) M') (le_ z r w) (fun n M' => (∀ x, x ≠ c + 1 → M' x = M x) ∧ LnI (M (c + 1)) 0 z (le_ z r w) (fun t l n => if l = i then nI ((f * ix ((M (c + 1)) (0 + pn z t i n))) % p) else (M (c + 1)) (0 + pn z t l n)) t n (M' (c + 1))) (fun m M' h' => by
      show Pa_multiplyLine_L12 k3 (m + 1) c (nI z) (nI i) (nI f) (nI t) (nI (le_ z r w)) M' = _
      have f2 : M' c 2 = nI r := by rw [h'.1 c hcc]; exact e2
      have f3 : M' c 3 = nI w := by rw [h'.1 c hcc]; exact e3
      rw [Pa_multiplyLine_L12, linesOf_o hc f2 f3 hz, bd_s, if_pos (Int32.le_refl _), nI_1]) (fun m n M' hn h' => by
      show ∃ M1, _ ∧ Pa_multiplyLine_L12 k3 (m + 1) c (nI z) (nI i) (nI f) (nI t) (nI n) M' = Pa_multiplyLine_L12 k3 m c (nI z) (nI i) (nI f) (nI t) (nI (n + 1)) M1
      have f1 : M' c 1 = nI p := by rw [h'.1 c hcc]; exact e1
      have f2 : M' c 2 = nI r := by rw [h'.1 c hcc]; exact e2
      have f3 : M' c 3 = nI w := by rw [h'.1 c hcc]; exact e3
      rw [Pa_multiplyLine_L12, linesOf_o hc f2 f3 hz, bd_s, if_neg (nI_ge hn (by omega))]
      obtain ⟨a, a1, a2⟩ := hv t i n ht hi (by omega)
      have ra : M' (c + 1) (pn z t i n) = nI a := by have := h'.2.now ht (show i < 4 by omega) (show n < 4 by omega); rw [Nat.zero_add] at this; rw [this]; exact a2
      have fb : f * a ≤ 7 * 7 := Nat.mul_le_mul (by omega) (by omega)
      rw [onLine_ok hc f2 f3 hr hw hz ht hi hn, bd_s, ra, nIm, f1, reduceN (by omega) (by omega) (by omega), bd_s, putOnLine_ok hc f2 f3 hr hw hz ht hi hn, bv_s, nI_1]
      refine ⟨_, ⟨fun x hx => by rw [wr_ne hx]; exact h'.1 x hx, ?_⟩, rfl⟩
      refine h'.2.step ht (by omega) hn (fun q hq => by rw [wr_o (by have := hq i (by omega); omega)]) (fun l hl => ?_)
      rw [Nat.zero_add]
      by_cases hli : l = i
      · subst hli
        rw [wr_s, if_pos rfl, Nat.zero_add, a2, ixn (by omega)]
      · rw [wr_o (fun e => hli (pn_inj hl (by omega) (by omega) (by omega) e).2.1), if_neg hli]
        have := h'.2.now (l := l) ht hl (show n < 4 by omega)
        rw [Nat.zero_add] at this
        rw [this]) (le_ z r w) FU 0 M1 (by omega) (FU_lt (by omega)) h
  exact ⟨M2, ⟨g1.1, g1.2.row⟩, g2⟩
theorem times_c {c z p r w : Nat} {i f : Nat} {M : Mem} (hc : isP c = true) (e1 : M c 1 = nI p) (e2 : M c 2 = nI r) (e3 : M c 3 = nI w) (hp : pr p) (hr : r ≤ 4) (hw : w ≤ 4) (hz : z < 2) (hv : ∀ t l n, t < 2 → l < lc z r w → n < le_ z r w → ∃ v, v < p ∧ M (c + 1) (pn z t l n) = nI v) (hi : i < lc z r w) (hf : f < 8) : ∃ M2, ((∀ x, x ≠ c + 1 → M2 x = M x) ∧ LnI (M (c + 1)) 0 z (le_ z r w) (fun t l n => if l = i then nI ((f * ix ((M (c + 1)) (0 + pn z t i n))) % p) else (M (c + 1)) (0 + pn z t l n)) 2 0 (M2 (c + 1))) ∧ Pa_multiplyLine c (nI z) (nI i) (nI f) M = some M2 := by
  unfold Pa_multiplyLine
  rw [if_pos hc]
  obtain ⟨M2, g1, g2⟩ := lp (fun m t M' => Pa_multiplyLine_L3 m c (nI z) (nI i) (nI f) (nI t) M') (fun M' => some M') 2 (fun t M' => (∀ x, x ≠ c + 1 → M' x = M x) ∧ LnI (M (c + 1)) 0 z (le_ z r w) (fun t l n => if l = i then nI ((f * ix ((M (c + 1)) (0 + pn z t i n))) % p) else (M (c + 1)) (0 + pn z t l n)) t 0 (M' (c + 1))) (fun m M' h' => by
      show Pa_multiplyLine_L3 (m + 1) c (nI z) (nI i) (nI f) (nI 2) M' = _
      rw [Pa_multiplyLine_L3, if_pos (by decide)]) (fun m t M' ht h' => by
      show ∃ M1, _ ∧ Pa_multiplyLine_L3 (m + 1) c (nI z) (nI i) (nI f) (nI t) M' = Pa_multiplyLine_L3 m c (nI z) (nI i) (nI f) (nI (t + 1)) M1
      rw [Pa_multiplyLine_L3, if_neg (show ¬ (2 : Int32) ≤ nI t from nI_ge (b := 2) ht (by omega))]
      exact times_c1 hc e1 e2 e3 hp hr hw hz hv hi hf ht h') 2 FU 0 M (by omega) (FU_lt (by omega)) ⟨fun _ _ => rfl, LnI.ini _ _ _ _ _⟩
  exact ⟨M2, g1, g2⟩
theorem times_m1 {z p r w t : Nat} {i f : Nat} {M : Mem} {k3 : Int32 → Int32 → Int32 → Int32 → Mem → Option (Int32 × Mem)} (e0 : M 33 0 = nI p) (e1 : M 33 1 = nI r) (e2 : M 33 2 = nI w) (hp : pr p) (hr : r ≤ 4) (hw : w ≤ 4) (hz : z < 2) (hv : ∀ t l n, t < 2 → l < lc z r w → n < le_ z r w → ∃ v, v < p ∧ M 33 (3 + pn z t l n) = nI v) (hi : i < lc z r w) (hf : f < 8) (ht : t < 2) {M1 : Mem} (h : (∀ x, x ≠ 33 → M1 x = M x) ∧ LnI (M 33) 3 z (le_ z r w) (fun t l n => if l = i then nI ((f * ix ((M 33) (3 + pn z t i n))) % p) else (M 33) (3 + pn z t l n)) t 0 (M1 33)) : ∃ M2, ((∀ x, x ≠ 33 → M2 x = M x) ∧ LnI (M 33) 3 z (le_ z r w) (fun t l n => if l = i then nI ((f * ix ((M 33) (3 + pn z t i n))) % p) else (M 33) (3 + pn z t l n)) (t + 1) 0 (M2 33)) ∧ Mo_times_L31 k3 FU (nI z) (nI i) (nI f) (nI t) 0 M1 = k3 (nI z) (nI i) (nI f) (nI (t + 1)) M2 := by
  have h7 := pr_le hp
  have h4 := lc4 (z := z) hr hw
  obtain ⟨M2, g1, g2⟩ := lp (fun m n M' => Mo_times_L31 k3 m (nI z) (nI i) (nI f) (nI t) (nI n) M') (fun M' => k3 (nI z) (nI i) (nI f) (nI (t + 1)) M') (le_ z r w) (fun n M' => (∀ x, x ≠ 33 → M' x = M x) ∧ LnI (M 33) 3 z (le_ z r w) (fun t l n => if l = i then nI ((f * ix ((M 33) (3 + pn z t i n))) % p) else (M 33) (3 + pn z t l n)) t n (M' 33)) (fun m M' h' => by
      show Mo_times_L31 k3 (m + 1) (nI z) (nI i) (nI f) (nI t) (nI (le_ z r w)) M' = _
      have f1 : M' 33 1 = nI r := by rw [h'.2.1 1 (by omega)]; exact e1
      have f2 : M' 33 2 = nI w := by rw [h'.2.1 2 (by omega)]; exact e2
      rw [Mo_times_L31, if_pos (mLen f1 f2 hz).1, (mLen f1 f2 hz).2, if_pos (Int32.le_refl _), nI_1]) (fun m n M' hn h' => by
      show ∃ M1, _ ∧ Mo_times_L31 k3 (m + 1) (nI z) (nI i) (nI f) (nI t) (nI n) M' = Mo_times_L31 k3 m (nI z) (nI i) (nI f) (nI t) (nI (n + 1)) M1
      have f0 : M' 33 0 = nI p := by rw [h'.2.1 0 (by omega)]; exact e0
      have f1 : M' 33 1 = nI r := by rw [h'.2.1 1 (by omega)]; exact e1
      have f2 : M' 33 2 = nI w := by rw [h'.2.1 2 (by omega)]; exact e2
      rw [Mo_times_L31, if_pos (mLen f1 f2 hz).1, (mLen f1 f2 hz).2, if_neg (nI_ge hn (by omega))]
      obtain ⟨a, a1, a2⟩ := hv t i n ht hi (by omega)
      have ra : M' 33 (3 + pn z t i n) = nI a := by rw [h'.2.now ht (show i < 4 by omega) (show n < 4 by omega)]; exact a2
      have fb : f * a ≤ 7 * 7 := Nat.mul_le_mul (by omega) (by omega)
      rw [lineOf_ok hz ht (by omega) (by omega), bd_s, ra, nIm, lineBec_ok f0 hp (by omega) hz ht (by omega) (by omega), bv_s, nI_1]
      refine ⟨_, ⟨fun x hx => by rw [wr_ne hx]; exact h'.1 x hx, ?_⟩, rfl⟩
      refine h'.2.step ht (by omega) hn (fun q hq => by rw [wr_o (hq i (by omega))]) (fun l hl => ?_)
      by_cases hli : l = i
      · subst hli
        rw [wr_s, if_pos rfl, a2, ixn (by omega)]
      · rw [wr_o (fun e => hli (pn_inj (z := z) (t := t) (t' := t) (n := n) (n' := n) hl (by omega) (by omega) (by omega) (by omega)).2.1), if_neg hli, h'.2.now (l := l) ht hl (show n < 4 by omega)]) (le_ z r w) FU 0 M1 (by omega) (FU_lt (by omega)) h
  exact ⟨M2, ⟨g1.1, g1.2.row⟩, g2⟩
theorem times_m {z p r w : Nat} {i f : Nat} {M : Mem} (e0 : M 33 0 = nI p) (e1 : M 33 1 = nI r) (e2 : M 33 2 = nI w) (hp : pr p) (hr : r ≤ 4) (hw : w ≤ 4) (hz : z < 2) (hv : ∀ t l n, t < 2 → l < lc z r w → n < le_ z r w → ∃ v, v < p ∧ M 33 (3 + pn z t l n) = nI v) (hi : i < lc z r w) (hf : f < 8) : ∃ M2, ((∀ x, x ≠ 33 → M2 x = M x) ∧ LnI (M 33) 3 z (le_ z r w) (fun t l n => if l = i then nI ((f * ix ((M 33) (3 + pn z t i n))) % p) else (M 33) (3 + pn z t l n)) 2 0 (M2 33)) ∧ Mo_times_L22 FU (nI z) (nI i) (nI f) 0 M = some (1, M2) := by
  obtain ⟨M2, g1, g2⟩ := lp (fun m t M' => Mo_times_L22 m (nI z) (nI i) (nI f) (nI t) M') (fun M' => some (1, M')) 2 (fun t M' => (∀ x, x ≠ 33 → M' x = M x) ∧ LnI (M 33) 3 z (le_ z r w) (fun t l n => if l = i then nI ((f * ix ((M 33) (3 + pn z t i n))) % p) else (M 33) (3 + pn z t l n)) t 0 (M' 33)) (fun m M' h' => by
      show Mo_times_L22 (m + 1) (nI z) (nI i) (nI f) (nI 2) M' = _
      rw [Mo_times_L22, if_pos (by decide)]) (fun m t M' ht h' => by
      show ∃ M1, _ ∧ Mo_times_L22 (m + 1) (nI z) (nI i) (nI f) (nI t) M' = Mo_times_L22 m (nI z) (nI i) (nI f) (nI (t + 1)) M1
      rw [Mo_times_L22, if_neg (show ¬ (2 : Int32) ≤ nI t from nI_ge (b := 2) ht (by omega))]
      exact times_m1 e0 e1 e2 hp hr hw hz hv hi hf ht h') 2 FU 0 M (by omega) (FU_lt (by omega)) ⟨fun _ _ => rfl, LnI.ini _ _ _ _ _⟩
  exact ⟨M2, g1, g2⟩

theorem swap_c1 {c z p r w t : Nat} {i j : Nat} {M : Mem} {k3 : Nat → Int32 → Int32 → Int32 → Int32 → Mem → Option Mem} (hc : isP c = true) (e1 : M c 1 = nI p) (e2 : M c 2 = nI r) (e3 : M c 3 = nI w) (hp : pr p) (hr : r ≤ 4) (hw : w ≤ 4) (hz : z < 2) (hv : ∀ t l n, t < 2 → l < lc z r w → n < le_ z r w → ∃ v, v < p ∧ M (c + 1) (pn z t l n) = nI v) (hi : i < lc z r w) (hj : j < lc z r w) (ht : t < 2) {M1 : Mem} (h : (∀ x, x ≠ c + 1 → M1 x = M x) ∧ LnI (M (c + 1)) 0 z (le_ z r w) (fun t l n => (M (c + 1)) (0 + pn z t (if l = i then j else if l = j then i else l) n)) t 0 (M1 (c + 1))) : ∃ M2, ((∀ x, x ≠ c + 1 → M2 x = M x) ∧ LnI (M (c + 1)) 0 z (le_ z r w) (fun t l n => (M (c + 1)) (0 + pn z t (if l = i then j else if l = j then i else l) n)) (t + 1) 0 (M2 (c + 1))) ∧ Pa_exchangeLines_L12 k3 FU c (nI z) (nI i) (nI j) (nI t) 0 M1 = k3 c (nI z) (nI i) (nI j) (nI (t + 1)) M2 := by
  have h7 := pr_le hp
  have h4 := lc4 (z := z) hr hw
  have hcc : c ≠ c + 1 := by omega
  obtain ⟨M2, g1, g2⟩ := lp (fun m n M' => Pa_exchangeLines_L12 k3 m c (nI z) (nI i) (nI j) (nI t) (nI n) M') (fun M' => k3 c (nI z) (nI i) (nI j) (nI (t + 1)) M') (le_ z r w) (fun n M' => (∀ x, x ≠ c + 1 → M' x = M x) ∧ LnI (M (c + 1)) 0 z (le_ z r w) (fun t l n => (M (c + 1)) (0 + pn z t (if l = i then j else if l = j then i else l) n)) t n (M' (c + 1))) (fun m M' h' => by
      show Pa_exchangeLines_L12 k3 (m + 1) c (nI z) (nI i) (nI j) (nI t) (nI (le_ z r w)) M' = _
      have f2 : M' c 2 = nI r := by rw [h'.1 c hcc]; exact e2
      have f3 : M' c 3 = nI w := by rw [h'.1 c hcc]; exact e3
      rw [Pa_exchangeLines_L12, linesOf_o hc f2 f3 hz, bd_s, if_pos (Int32.le_refl _), nI_1]) (fun m n M' hn h' => by
      show ∃ M1, _ ∧ Pa_exchangeLines_L12 k3 (m + 1) c (nI z) (nI i) (nI j) (nI t) (nI n) M' = Pa_exchangeLines_L12 k3 m c (nI z) (nI i) (nI j) (nI t) (nI (n + 1)) M1
      have f1 : M' c 1 = nI p := by rw [h'.1 c hcc]; exact e1
      have f2 : M' c 2 = nI r := by rw [h'.1 c hcc]; exact e2
      have f3 : M' c 3 = nI w := by rw [h'.1 c hcc]; exact e3
      rw [Pa_exchangeLines_L12, linesOf_o hc f2 f3 hz, bd_s, if_neg (nI_ge hn (by omega))]
      have f1b : wr M' (c + 1) (pn z t i n) (M' (c + 1) (pn z t j n)) c = M' c := wr_ne (by omega)
      rw [onLine_ok hc f2 f3 hr hw hz ht hi hn, bd_s, onLine_ok hc f2 f3 hr hw hz ht hj hn, bd_s, putOnLine_ok hc f2 f3 hr hw hz ht hi hn, bv_s, putOnLine_ok hc (by rw [f1b]; exact f2) (by rw [f1b]; exact f3) hr hw hz ht hj hn, bv_s, nI_1]
      refine ⟨_, ⟨fun x hx => by rw [wr_ne hx, wr_ne hx]; exact h'.1 x hx, ?_⟩, rfl⟩
      refine h'.2.step ht (by omega) hn (fun q hq => by rw [wr_o (by have := hq j (by omega); omega), wr_o (by have := hq i (by omega); omega)]) (fun l hl => ?_)
      have nn : ∀ l, l < 4 → M' (c + 1) (pn z t l n) = M (c + 1) (0 + pn z t l n) := fun l hl => by
        have := h'.2.now (l := l) ht hl (show n < 4 by omega)
        rw [Nat.zero_add] at this ⊢
        exact this
      rw [Nat.zero_add]
      by_cases hlj : l = j
      · subst hlj
        rw [wr_s, nn i (by omega)]
        by_cases hli : l = i
        · subst hli; simp
        · rw [if_neg hli, if_pos rfl]
      · rw [wr_o (fun e => hlj (pn_inj hl (by omega) (by omega) (by omega) e).2.1)]
        by_cases hli : l = i
        · subst hli
          rw [wr_s, nn j (by omega), if_pos rfl]
        · rw [wr_o (fun e => hli (pn_inj hl (by omega) (by omega) (by omega) e).2.1), nn l hl, if_neg hli, if_neg hlj]) (le_ z r w) FU 0 M1 (by omega) (FU_lt (by omega)) h
  exact ⟨M2, ⟨g1.1, g1.2.row⟩, g2⟩
theorem swap_c {c z p r w : Nat} {i j : Nat} {M : Mem} (hc : isP c = true) (e1 : M c 1 = nI p) (e2 : M c 2 = nI r) (e3 : M c 3 = nI w) (hp : pr p) (hr : r ≤ 4) (hw : w ≤ 4) (hz : z < 2) (hv : ∀ t l n, t < 2 → l < lc z r w → n < le_ z r w → ∃ v, v < p ∧ M (c + 1) (pn z t l n) = nI v) (hi : i < lc z r w) (hj : j < lc z r w) : ∃ M2, ((∀ x, x ≠ c + 1 → M2 x = M x) ∧ LnI (M (c + 1)) 0 z (le_ z r w) (fun t l n => (M (c + 1)) (0 + pn z t (if l = i then j else if l = j then i else l) n)) 2 0 (M2 (c + 1))) ∧ Pa_exchangeLines c (nI z) (nI i) (nI j) M = some M2 := by
  unfold Pa_exchangeLines
  rw [if_pos hc]
  obtain ⟨M2, g1, g2⟩ := lp (fun m t M' => Pa_exchangeLines_L3 m c (nI z) (nI i) (nI j) (nI t) M') (fun M' => some M') 2 (fun t M' => (∀ x, x ≠ c + 1 → M' x = M x) ∧ LnI (M (c + 1)) 0 z (le_ z r w) (fun t l n => (M (c + 1)) (0 + pn z t (if l = i then j else if l = j then i else l) n)) t 0 (M' (c + 1))) (fun m M' h' => by
      show Pa_exchangeLines_L3 (m + 1) c (nI z) (nI i) (nI j) (nI 2) M' = _
      rw [Pa_exchangeLines_L3, if_pos (by decide)]) (fun m t M' ht h' => by
      show ∃ M1, _ ∧ Pa_exchangeLines_L3 (m + 1) c (nI z) (nI i) (nI j) (nI t) M' = Pa_exchangeLines_L3 m c (nI z) (nI i) (nI j) (nI (t + 1)) M1
      rw [Pa_exchangeLines_L3, if_neg (show ¬ (2 : Int32) ≤ nI t from nI_ge (b := 2) ht (by omega))]
      exact swap_c1 hc e1 e2 e3 hp hr hw hz hv hi hj ht h') 2 FU 0 M (by omega) (FU_lt (by omega)) ⟨fun _ _ => rfl, LnI.ini _ _ _ _ _⟩
  exact ⟨M2, g1, g2⟩
theorem swap_m1 {z p r w t : Nat} {i j : Nat} {M : Mem} {k3 : Int32 → Int32 → Int32 → Int32 → Mem → Option (Int32 × Mem)} (e0 : M 33 0 = nI p) (e1 : M 33 1 = nI r) (e2 : M 33 2 = nI w) (hp : pr p) (hr : r ≤ 4) (hw : w ≤ 4) (hz : z < 2) (hv : ∀ t l n, t < 2 → l < lc z r w → n < le_ z r w → ∃ v, v < p ∧ M 33 (3 + pn z t l n) = nI v) (hi : i < lc z r w) (hj : j < lc z r w) (ht : t < 2) {M1 : Mem} (h : (∀ x, x ≠ 33 → M1 x = M x) ∧ LnI (M 33) 3 z (le_ z r w) (fun t l n => (M 33) (3 + pn z t (if l = i then j else if l = j then i else l) n)) t 0 (M1 33)) : ∃ M2, ((∀ x, x ≠ 33 → M2 x = M x) ∧ LnI (M 33) 3 z (le_ z r w) (fun t l n => (M 33) (3 + pn z t (if l = i then j else if l = j then i else l) n)) (t + 1) 0 (M2 33)) ∧ Mo_swap_L32 k3 FU (nI z) (nI i) (nI j) (nI t) 0 M1 = k3 (nI z) (nI i) (nI j) (nI (t + 1)) M2 := by
  have h7 := pr_le hp
  have h4 := lc4 (z := z) hr hw
  obtain ⟨M2, g1, g2⟩ := lp (fun m n M' => Mo_swap_L32 k3 m (nI z) (nI i) (nI j) (nI t) (nI n) M') (fun M' => k3 (nI z) (nI i) (nI j) (nI (t + 1)) M') (le_ z r w) (fun n M' => (∀ x, x ≠ 33 → M' x = M x) ∧ LnI (M 33) 3 z (le_ z r w) (fun t l n => (M 33) (3 + pn z t (if l = i then j else if l = j then i else l) n)) t n (M' 33)) (fun m M' h' => by
      show Mo_swap_L32 k3 (m + 1) (nI z) (nI i) (nI j) (nI t) (nI (le_ z r w)) M' = _
      have f1 : M' 33 1 = nI r := by rw [h'.2.1 1 (by omega)]; exact e1
      have f2 : M' 33 2 = nI w := by rw [h'.2.1 2 (by omega)]; exact e2
      rw [Mo_swap_L32, if_pos (mLen f1 f2 hz).1, (mLen f1 f2 hz).2, if_pos (Int32.le_refl _), nI_1]) (fun m n M' hn h' => by
      show ∃ M1, _ ∧ Mo_swap_L32 k3 (m + 1) (nI z) (nI i) (nI j) (nI t) (nI n) M' = Mo_swap_L32 k3 m (nI z) (nI i) (nI j) (nI t) (nI (n + 1)) M1
      have f0 : M' 33 0 = nI p := by rw [h'.2.1 0 (by omega)]; exact e0
      have f1 : M' 33 1 = nI r := by rw [h'.2.1 1 (by omega)]; exact e1
      have f2 : M' 33 2 = nI w := by rw [h'.2.1 2 (by omega)]; exact e2
      rw [Mo_swap_L32, if_pos (mLen f1 f2 hz).1, (mLen f1 f2 hz).2, if_neg (nI_ge hn (by omega))]
      obtain ⟨a, a1, a2⟩ := hv t i n ht hi (by omega)
      obtain ⟨b, b1, b2⟩ := hv t j n ht hj (by omega)
      have ra : M' 33 (3 + pn z t i n) = nI a := by rw [h'.2.now ht (show i < 4 by omega) (show n < 4 by omega)]; exact a2
      have rb : M' 33 (3 + pn z t j n) = nI b := by rw [h'.2.now ht (show j < 4 by omega) (show n < 4 by omega)]; exact b2
      have f0b : wr M' 33 (3 + pn z t i n) (nI (b % p)) 33 0 = nI p := by rw [wr_o (by omega)]; exact f0
      rw [lineOf_ok hz ht (by omega) (by omega), bd_s, lineOf_ok hz ht (by omega) (by omega), bd_s, ra, rb, lineBec_ok f0 hp (by omega) hz ht (by omega) (by omega), bv_s, lineBec_ok f0b hp (by omega) hz ht (by omega) (by omega), bv_s, nI_1, Nat.mod_eq_of_lt a1, Nat.mod_eq_of_lt b1]
      refine ⟨_, ⟨fun x hx => by rw [wr_ne hx, wr_ne hx]; exact h'.1 x hx, ?_⟩, rfl⟩
      refine h'.2.step ht (by omega) hn (fun q hq => by rw [wr_o (hq j (by omega)), wr_o (hq i (by omega))]) (fun l hl => ?_)
      have pi : ∀ l', l' < 4 → 3 + pn z t l n = 3 + pn z t l' n → l = l' := fun l' hl' e => (pn_inj (z := z) (t := t) (t' := t) (n := n) (n' := n) hl (by omega) hl' (by omega) (by omega)).2.1
      by_cases hlj : l = j
      · subst hlj
        rw [wr_s, ← a2]
        by_cases hli : l = i
        · subst hli; simp
        · rw [if_neg hli, if_pos rfl]
      · rw [wr_o (fun e => hlj (pi j (by omega) e))]
        by_cases hli : l = i
        · subst hli
          rw [wr_s, ← b2, if_pos rfl]
        · rw [wr_o (fun e => hli (pi i (by omega) e)), h'.2.now (l := l) ht hl (show n < 4 by omega), if_neg hli, if_neg hlj]) (le_ z r w) FU 0 M1 (by omega) (FU_lt (by omega)) h
  exact ⟨M2, ⟨g1.1, g1.2.row⟩, g2⟩
theorem swap_m {z p r w : Nat} {i j : Nat} {M : Mem} (e0 : M 33 0 = nI p) (e1 : M 33 1 = nI r) (e2 : M 33 2 = nI w) (hp : pr p) (hr : r ≤ 4) (hw : w ≤ 4) (hz : z < 2) (hv : ∀ t l n, t < 2 → l < lc z r w → n < le_ z r w → ∃ v, v < p ∧ M 33 (3 + pn z t l n) = nI v) (hi : i < lc z r w) (hj : j < lc z r w) : ∃ M2, ((∀ x, x ≠ 33 → M2 x = M x) ∧ LnI (M 33) 3 z (le_ z r w) (fun t l n => (M 33) (3 + pn z t (if l = i then j else if l = j then i else l) n)) 2 0 (M2 33)) ∧ Mo_swap_L23 FU (nI z) (nI i) (nI j) 0 M = some (1, M2) := by
  obtain ⟨M2, g1, g2⟩ := lp (fun m t M' => Mo_swap_L23 m (nI z) (nI i) (nI j) (nI t) M') (fun M' => some (1, M')) 2 (fun t M' => (∀ x, x ≠ 33 → M' x = M x) ∧ LnI (M 33) 3 z (le_ z r w) (fun t l n => (M 33) (3 + pn z t (if l = i then j else if l = j then i else l) n)) t 0 (M' 33)) (fun m M' h' => by
      show Mo_swap_L23 (m + 1) (nI z) (nI i) (nI j) (nI 2) M' = _
      rw [Mo_swap_L23, if_pos (by decide)]) (fun m t M' ht h' => by
      show ∃ M1, _ ∧ Mo_swap_L23 (m + 1) (nI z) (nI i) (nI j) (nI t) M' = Mo_swap_L23 m (nI z) (nI i) (nI j) (nI (t + 1)) M1
      rw [Mo_swap_L23, if_neg (show ¬ (2 : Int32) ≤ nI t from nI_ge (b := 2) ht (by omega))]
      exact swap_m1 e0 e1 e2 hp hr hw hz hv hi hj ht h') 2 FU 0 M (by omega) (FU_lt (by omega)) ⟨fun _ _ => rfl, LnI.ini _ _ _ _ _⟩
  exact ⟨M2, g1, g2⟩

