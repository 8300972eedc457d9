/-! PURE: indices -/
def pvI (n : Nat → Int32) : Nat → Int32
  | 0 => 0
  | k + 1 => n k
def mnI (n : Nat → Int32) (k : Nat) : Int32 := n k - 2 * pvI n k + pvI (pvI n) k
noncomputable def nlI (p r w : Nat) (T : Nat → Nat → Nat → Nat) (k : Nat) : Int32 := nI (nlN p r w T k)
noncomputable def mCI (p r w : Nat) (T : Nat → Nat → Nat → Nat) (k : Nat) : Int32 := mnI (nlI p r w T) k
theorem countC_ok {c e p r w : Nat} {T : Nat → Nat → Nat → Nat} (hc : okc c) (he : isI e = true) (hl : ln e = 5) (n1 : e ≠ c) (n2 : e ≠ c + 1) (n3 : e ≠ 23) (n4 : e ≠ 24) {C : Mem} (hP : PC C c p r w T) : ∃ C', Un_countIndices c e C = some (sumN 5 (mCI p r w T), C') ∧ (∀ y, y ≠ 23 → y ≠ 24 → y ≠ e → C' y = C y) ∧ ∀ k, k < 5 → C' e k = mCI p r w T k := by
  unfold Un_countIndices
  rw [if_pos hc.1, if_pos he]
  obtain ⟨C', g1, g2⟩ := lp (fun m k M' => Un_countIndices_L11 m c e (sumN k (mCI p r w T)) (pvI (nlI p r w T) k) (pvI (pvI (nlI p r w T)) k) (nI k) M') (fun M' => some (sumN 5 (mCI p r w T), M')) 5 (fun k M' => (∀ y, y ≠ 23 → y ≠ 24 → y ≠ e → M' y = C y) ∧ ∀ j, j < k → M' e j = mCI p r w T j) (fun m M' _ => by
      show Un_countIndices_L11 (m + 1) c e (sumN 5 (mCI p r w T)) (pvI (nlI p r w T) 5) (pvI (pvI (nlI p r w T)) 5) (nI 5) M' = _
      rw [Un_countIndices_L11, if_pos (show (5 : Int32) ≤ nI 5 by decide)]) (fun m k M' hk h' => by
      show ∃ M1, _ ∧ Un_countIndices_L11 (m + 1) c e (sumN k (mCI p r w T)) (pvI (nlI p r w T) k) (pvI (pvI (nlI p r w T)) k) (nI k) M' = Un_countIndices_L11 m c e (sumN (k + 1) (mCI p r w T)) (pvI (nlI p r w T) (k + 1)) (pvI (pvI (nlI p r w T)) (k + 1)) (nI (k + 1)) M1
      have q1 := hP.mv (h'.1 c hc.2.1 hc.2.2.1 (Ne.symm n1)) (h'.1 (c + 1) hc.2.2.2.1 hc.2.2.2.2 (Ne.symm n2))
      obtain ⟨C1, x1, x2⟩ := nullsC_ok (k := k) hc (by omega) q1
      rw [Un_countIndices_L11, if_neg (show ¬ (5 : Int32) ≤ nI k from nI_ge (b := 5) hk (by omega)), hl, if_neg (nI_ge hk (by omega)), x1, bd_s, if_pos (ibn (by omega) (by omega)), if_pos (ibn (by omega) (by omega)), ixn (by omega), wr_s, nI_1]
      refine ⟨wr C1 e k (mCI p r w T k), ⟨fun y a1 a2 a3 => by rw [wr_ne a3, x2 y a1 a2, h'.1 y a1 a2 a3], fun j hj => ?_⟩, rfl⟩
      by_cases q : j = k
      · subst q; rw [wr_s]
      · rw [wr_o q, x2 e n3 n4]; exact h'.2 j (by omega)) 5 FU 0 C (by omega) (FU_lt (by omega)) ⟨fun _ _ _ _ => rfl, fun j hj => by omega⟩
  exact ⟨C', g2, g1.1, g1.2⟩
theorem findD_ok {e p r w : Nat} {T : Nat → Nat → Nat → Nat} (he : isI e = true) (hl : ln e = 5) (n1 : e ≠ 32) (n2 : e ≠ 33) (n3 : e ≠ 38) {D : Mem} (hP : DP D p r w T) : ∃ D', Mo_findIndices e D = some D' ∧ (∀ y, y ≠ 32 → y ≠ 38 → y ≠ e → D' y = D y) ∧ (∀ y, y ≠ 15 → y ≠ 16 → D' 32 y = D 32 y) ∧ ∀ k, k < 5 → D' e k = mCI p r w T k := by
  unfold Mo_findIndices
  rw [if_pos he]
  obtain ⟨D', g1, g2⟩ := lp (fun m k M' => Mo_findIndices_L7 m e (pvI (nlI p r w T) k) (pvI (pvI (nlI p r w T)) k) (nI k) M') (fun M' => some M') 5 (fun k M' => (∀ y, y ≠ 32 → y ≠ 38 → y ≠ e → M' y = D y) ∧ (∀ y, y ≠ 15 → y ≠ 16 → M' 32 y = D 32 y) ∧ ∀ j, j < k → M' e j = mCI p r w T j) (fun m M' _ => by
      show Mo_findIndices_L7 (m + 1) e (pvI (nlI p r w T) 5) (pvI (pvI (nlI p r w T)) 5) (nI 5) M' = _
      rw [Mo_findIndices_L7, if_pos (show (4 : Int32) < nI 5 by decide)]) (fun m k M' hk h' => by
      show ∃ M1, _ ∧ Mo_findIndices_L7 (m + 1) e (pvI (nlI p r w T) k) (pvI (pvI (nlI p r w T)) k) (nI k) M' = Mo_findIndices_L7 m e (pvI (nlI p r w T) (k + 1)) (pvI (pvI (nlI p r w T)) (k + 1)) (nI (k + 1)) M1
      have q1 : DP M' p r w T := hP.mv (h'.1 33 (by omega) (by omega) (Ne.symm n2)) (h'.2.1 17 (by omega) (by omega))
      obtain ⟨D1, x1, x2, x3⟩ := nullsD_ok (k := k) (by omega) q1
      rw [Mo_findIndices_L7, if_neg (show ¬ (4 : Int32) < nI k from Int32.not_lt.mpr (nI_le (b := 4) (by omega) (by omega))), x1, bd_s, hl, if_pos (ibn (by omega) (by omega)), ixn (by omega), nI_1]
      refine ⟨wr D1 e k (mCI p r w T k), ⟨fun y a1 a2 a3 => by rw [wr_ne a3, x2 y a1 a2, h'.1 y a1 a2 a3], fun y a1 a2 => by rw [wr_ne (Ne.symm n1), x3 y a1 a2, h'.2.1 y a1 a2], fun j hj => ?_⟩, rfl⟩
      by_cases q : j = k
      · subst q; rw [wr_s]
      · rw [wr_o q, x2 e n1 n3]; exact h'.2.2 j (by omega)) 5 FU 0 D (by omega) (FU_lt (by omega)) ⟨fun _ _ _ _ => rfl, fun _ _ _ => rfl, fun j hj => by omega⟩
  exact ⟨D', g2, g1.1, g1.2.1, g1.2.2⟩
def tr (T : Nat → Nat → Nat → Nat) : Nat → Nat → Nat → Nat := fun t i j => T t j i
theorem DP.tr {D : Mem} {p r w : Nat} {T : Nat → Nat → Nat → Nat} (h : DP D p r w T) (h0 : D 32 17 = 0) {D' : Mem} (h1 : D' 33 = D 33) (h2 : D' 32 17 = 1) : DP D' p w r (tr T) := by
  obtain ⟨hp, hr, hw, e0, h | h⟩ := h
  · refine ⟨hp, hw, hr, by rw [h1]; exact e0, .inr ⟨h2, by rw [h1]; exact h.2.1, by rw [h1]; exact h.2.2.1, fun t i j a1 a2 a3 => ?_⟩⟩
    rw [h1]
    exact h.2.2.2 t j i a1 a3 a2
  · exact absurd (h0.symm.trans h.1) (by decide)
theorem findAll_ok {p r w : Nat} {T : Nat → Nat → Nat → Nat} {D : Mem} (hP : DP D p r w T) (h0 : D 32 17 = 0) : ∃ D', Mo_findAllIndices D = some D' ∧ (∀ y, y ≠ 32 → y ≠ 38 → y ≠ 39 → y ≠ 40 → D' y = D y) ∧ (∀ y, y ≠ 15 → y ≠ 16 → D' 32 y = D 32 y) ∧ (∀ k, k < 5 → D' 39 k = mCI p r w T k) ∧ ∀ k, k < 5 → D' 40 k = mCI p w r (tr T) k := by
  have e0 : wr D 32 17 0 = D := by
    funext a b
    rw [wr_g]
    by_cases q : a = 32 ∧ b = 17
    · rw [if_pos q, q.1, q.2, h0]
    · rw [if_neg q]
  obtain ⟨D1, x1, x2, x3, x4⟩ := findD_ok (e := 39) rfl rfl (by omega) (by omega) (by omega) hP
  have hT : DP (wr D1 32 17 1) p w r (tr T) := hP.tr h0 (by rw [wr_ne (by omega), x2 33 (by omega) (by omega) (by omega)]) wr_s
  obtain ⟨D2, y1, y2, y3, y4⟩ := findD_ok (e := 40) rfl rfl (by omega) (by omega) (by omega) hT
  unfold Mo_findAllIndices
  rw [e0, x1, bv_s, y1, bv_s]
  refine ⟨_, rfl, fun y a1 a2 a3 a4 => by rw [wr_ne a1, y2 y a1 a2 a4, wr_ne a1, x2 y a1 a2 a3], fun y a1 a2 => ?_, fun k hk => by rw [wr_ne (by omega), y2 39 (by omega) (by omega) (by omega), wr_ne (by omega), x4 k hk], fun k hk => by rw [wr_ne (by omega), y4 k hk]⟩
  by_cases q : y = 17
  · subst q; rw [wr_s, h0]
  · rw [wr_o q, y3 y a1 a2, wr_o q, x3 y a1 a2]
theorem flipOf_ok {c p r w : Nat} {T : Nat → Nat → Nat → Nat} {C : Mem} (hc : okc c) (n1 : 25 ≠ c) (n2 : 26 ≠ c) (n3 : c + 1 ≠ 25) (hP : PC C c p r w T) : ∃ C', Un_flippedOf c C = some C' ∧ (∀ y, y ≠ 25 → y ≠ 26 → C' y = C y) ∧ PC C' 25 p w r (tr T) := by
  obtain ⟨hp, hr, hw, e1, e2, e3, hv⟩ := hP
  obtain ⟨C1, x1, x2, x3, x4⟩ := takeFrom_ok (c := 25) (d := c) (M := C) rfl hc.1 n1 n2 n3
  obtain ⟨C2, y1, y2, y3, y4, y5, y6⟩ := flip_ok (c := 25) (M := C1) rfl
  unfold Un_flippedOf
  rw [if_pos hc.1, x1, bv_s, y1, bv_s]
  refine ⟨C2, rfl, fun y a1 a2 => by rw [y2 y a1 a2, x2 y a1 a2], hp, hw, hr, by rw [y3 1 (by omega) (by omega), x3 1 (by omega) (by omega)]; exact e1, by rw [y4, x3 3 (by omega) (by omega)]; exact e3, by rw [y5, x3 2 (by omega) (by omega)]; exact e2, fun t i j a1 a2 a3 => ?_⟩
  have v := hv t j i a1 a3 a2
  exact ⟨v.1, by rw [y6 t i j a1 (by omega) (by omega), x4 _ (by omega)]; exact v.2⟩
theorem okc25 : okc 25 := ⟨rfl, by omega, by omega, by omega, by omega⟩
/-! bounds -/
theorem dm_fact {p h w : Nat} {F : Nat → Nat → Nat} (hp : pr p) (hh : h ≤ 24) (hw : w ≤ 20) (hF : ∀ i j, i < h → j < w → F i j < p) : dmn p h w F ≤ w ∧ cn p 0 w (fun y => iv (Sol p h w F y)) (fun _ => 0) = p ^ dmn p h w F := by
  have hM : MC (fun c k => if c = 23 then (if k = 1 then nI p else if k = 2 then nI h else nI w) else nI (F (k / 20) (k % 20))) p h w F := by
    refine ⟨rfl, rfl, rfl, hh, hw, fun i j hi hj => ⟨hF i j hi hj, ?_⟩⟩
    show nI (F ((i * 20 + j) / 20) ((i * 20 + j) % 20)) = _
    rw [show (i * 20 + j) / 20 = i by omega, show (i * 20 + j) % 20 = j by omega]
  obtain ⟨C', _, _, h1, h2⟩ := use_dm hp hM
  exact ⟨h1, h2⟩
theorem cn_ge {p a b : Nat} {f : (Nat → Int) → Nat} (hp : 0 < p) : cn p 0 a f (fun _ => 0) ≤ cn p 0 (a + b) f (fun _ => 0) := by
  induction b with
  | zero => exact Nat.le_refl _
  | succ b ih =>
    refine Nat.le_trans ih ?_
    show _ ≤ sq p (fun v => cn p 0 (a + b) f (ud (fun _ => 0) (0 + (a + b)) (v : Int)))
    have e : (ud (fun _ => 0) (0 + (a + b)) ((0 : Nat) : Int)) = (fun _ => 0) := by
      funext j
      unfold ud
      split <;> rfl
    have := sq_ge (n := p) (f := fun v => cn p 0 (a + b) f (ud (fun _ => 0) (0 + (a + b)) (v : Int))) (v := 0) hp
    replace this : cn p 0 (a + b) f (ud (fun _ => 0) (0 + (a + b)) ((0 : Nat) : Int)) ≤ _ := this
    rw [e] at this
    exact this
theorem cn_le {p lo n : Nat} {f g : (Nat → Int) → Nat} {x : Nat → Int} (h : ∀ y : Nat → Int, (∀ q, q < lo ∨ lo + n ≤ q → y q = x q) → f y ≤ g y) : cn p lo n f x ≤ cn p lo n g x := by
  induction n generalizing x with
  | zero => exact h x (fun _ _ => rfl)
  | succ n ih =>
    rw [cn, cn]
    refine sq_le (fun v hv => ih (fun y hy => h y (fun q hq => ?_)))
    rw [hy q (by omega), ud_o (by omega)]
theorem iv_le {P Q : Prop} (h : P → Q) : iv P ≤ iv Q := by
  rcases Classical.em P with q | q
  · rw [iv_1 q, iv_1 (h q)]; exact Nat.le_refl _
  · rw [iv_0 q]; exact Nat.zero_le _
theorem dt_tail {a b : Nat} {R : Nat → Nat} {x : Nat → Int} (h : ∀ j, a ≤ j → j < a + b → (R j : Int) * x j = 0) : dt (a + b) R x = dt a R x := by
  induction b with
  | zero => rfl
  | succ b ih =>
    show dt (a + b) R x + (R (a + b) : Int) * x (a + b) = _
    rw [ih (fun j h1 h2 => h j h1 (by omega)), h (a + b) (by omega) (by omega)]; omega
theorem KN_lt {p r w s : Nat} {T : Nat → Nat → Nat → Nat} (hp : 0 < p) (b c i j : Nat) : KN p r w T s b c i j < p := by
  unfold KN
  split
  · split
    · exact md_lt hp
    · split
      · exact md_lt hp
      · exact hp
  · exact hp
theorem nl_fact {p r w k : Nat} {T : Nat → Nat → Nat → Nat} (hp : pr p) (hr : r ≤ 4) (hw : w ≤ 4) (hk : k ≤ 4) : nlN p r w T k ≤ (k + 1) * w ∧ cn p 0 ((k + 1) * w) (fun y => iv (Sol p ((k + 2) * r) ((k + 1) * w) (ff r w (KN p r w T (k + 1))) y)) (fun _ => 0) = p ^ nlN p r w T k :=
  dm_fact hp (mul24 hk hr) (mul20 hk hw) (fun i j _ _ => KN_lt (by have := pr_le hp; omega) _ _ _ _)
theorem nl_up {p r w k : Nat} {T : Nat → Nat → Nat → Nat} (hp : pr p) (hr : r ≤ 4) (hw : w ≤ 4) (hk : k + 1 ≤ 4) : nlN p r w T k ≤ nlN p r w T (k + 1) := by
  have h7 := pr_le hp
  have f1 := (nl_fact (T := T) (k := k) hp hr hw (by omega)).2
  have f2 := (nl_fact (T := T) (k := k + 1) hp hr hw hk).2
  have le : p ^ nlN p r w T k ≤ p ^ nlN p r w T (k + 1) := by
    rw [← f1, ← f2, Nat.succ_mul (k + 1) w]
    refine Nat.le_trans (cn_le (g := fun y => iv (Sol p ((k + 1 + 2) * r) ((k + 1) * w + w) (ff r w (KN p r w T (k + 1 + 1))) y)) (fun y hy => iv_le (fun hs i hi => ?_))) (cn_ge (by omega))
    rw [dt_tail (fun j a b => by rw [hy j (by omega)]; simp)]
    have same : ∀ j, j < (k + 1) * w → ff r w (KN p r w T (k + 1 + 1)) i j = ff r w (KN p r w T (k + 1)) i j := fun j hj => by
      have : j / w < k + 1 := Nat.div_lt_of_lt_mul (by rw [Nat.mul_comm]; exact hj)
      unfold ff KN
      by_cases q : j / w < k + 1 ∧ i % r < r ∧ j % w < w
      · rw [if_pos q, if_pos ⟨by omega, q.2⟩]
      · rw [if_neg q, if_neg (fun z => q ⟨this, z.2⟩)]
    rw [dt_cg same (fun _ _ => rfl)]
    by_cases q : i < (k + 2) * r
    · exact hs i q
    · rw [dt_0 (fun j hj => ?_)]
      · exact Int.dvd_zero _
      · have b1 : j / w < k + 1 := Nat.div_lt_of_lt_mul (by rw [Nat.mul_comm]; exact hj)
        have b2 : k + 2 ≤ i / r := by
          rcases Nat.eq_zero_or_pos r with e | e
          · subst e; simp at hi
          · exact (Nat.le_div_iff_mul_le e).mpr (by omega)
        unfold ff KN
        by_cases q : j / w < k + 1 ∧ i % r < r ∧ j % w < w
        · rw [if_pos q, if_neg (by omega), if_neg (by omega)]
        · rw [if_neg q]
  exact (Nat.pow_le_pow_iff_right (by omega)).mp le
