/-! PURE: go -/
theorem vlI_b {n : Nat} (h : n < 2 ^ 31) : vlI (nI n) = n := by
  unfold vlI
  rw [nIo, Int32.toInt_ofInt_of_le (by omega) (by omega)]; omega
def sxN (T : Nat → Nat → Nat → Nat) (n i j : Nat) : Nat := sq j (fun q => T 0 i q * dgt n q)
def xvN (p w : Nat) (T : Nat → Nat → Nat → Nat) (n i : Nat) : Nat := md p (sxN T n i w : Int)
def XF (p r w : Nat) (T : Nat → Nat → Nat → Nat) (n m s : Nat) (F : Nat → Nat → Nat) : Nat → Nat → Nat := fun i j => if j = m ∧ i < s then xvN p w T n i else F i j
theorem sx_b {T : Nat → Nat → Nat → Nat} {p r w n i j : Nat} (hp : pr p) (hw : w ≤ 4) (hT : ∀ q, q < w → T 0 i q < p) (hd : ∀ q, q < w → dgt n q < p) (hj : j ≤ w) : sxN T n i j ≤ 49 * j := by
  have h7 := pr_le hp
  induction j with
  | zero => exact Nat.le_refl _
  | succ j ih =>
    have := ih (by omega)
    have a := hT j (by omega)
    have b := hd j (by omega)
    have m : T 0 i j * dgt n j ≤ 7 * 7 := Nat.mul_le_mul (by omega) (by omega)
    show sxN T n i j + T 0 i j * dgt n j ≤ _
    omega
theorem KC_last {p r w x k i : Nat} {T : Nat → Nat → Nat → Nat} {j : Nat} (hi : i < k * r) (hj : k * w ≤ j) : ff r w (KC p r w T x k) i j = 0 := by
  have b1 : i / r < k := Nat.div_lt_of_lt_mul (by rw [Nat.mul_comm]; exact hi)
  unfold ff KC
  by_cases q : i / r < k ∧ i % r < r ∧ j % w < w
  · have b2 : k ≤ j / w := by
      rcases Nat.eq_zero_or_pos w with e | e
      · subst e; omega
      · exact (Nat.le_div_iff_mul_le e).mpr hj
    rw [if_pos q, if_neg (by omega), if_neg (by omega)]
  · rw [if_neg q]
theorem addC_ok {C : Mem} {p r w n k : Nat} {T : Nat → Nat → Nat → Nat} {F : Nat → Nat → Nat} (hk : 1 ≤ k) (hk4 : k ≤ 4) (hP : PC C 5 p r w T) (hd : ∀ q, q < w → dgt n q < p) (h29 : ∀ q, q < w → C 29 q = nI (dgt n q)) (hM : MW C p (k * r) (k * w) F) : ∃ C', Eq_addImageUnderA 5 29 C = some C' ∧ (∀ y, y ≠ 23 → y ≠ 24 → C' y = C y) ∧ MW C' p (k * r) (k * w + 1) (XF p r w T n (k * w) r F) := by
  have hP2 := hP
  obtain ⟨hp, hr, hw, e1, e2, e3, hv⟩ := hP2
  have h7 := pr_le hp
  obtain ⟨m1, m2, m3, m4, m5, m6⟩ := hM
  have b1 := mul4 hk4 hw
  have b2 := mul4 hk4 hr
  have rk : r ≤ k * r := by have := Nat.mul_le_mul_right r hk; omega
  unfold Eq_addImageUnderA
  rw [if_pos isP5, if_pos (show isI 29 = true from rfl), m3, if_pos (show nI (k * w) < 20 from nI_lt (b := 20) (by omega) (by omega)), nI_1]
  obtain ⟨C', g1, g2⟩ := lp (fun m i M' => Eq_addImageUnderA_L22 m 5 29 (nI i) M') (fun M' => some M') r (fun i M' => (∀ y, y ≠ 23 → y ≠ 24 → M' y = C y) ∧ MW M' p (k * r) (k * w + 1) (XF p r w T n (k * w) i F)) (fun m M' h' => by
      show Eq_addImageUnderA_L22 (m + 1) 5 29 (nI r) M' = _
      rw [Eq_addImageUnderA_L22, h'.1 5 (by omega) (by omega), e2, if_pos (Int32.le_refl _)]) (fun m i M' hi h' => by
      show ∃ M1, _ ∧ Eq_addImageUnderA_L22 (m + 1) 5 29 (nI i) M' = Eq_addImageUnderA_L22 m 5 29 (nI (i + 1)) M1
      obtain ⟨f1, f2⟩ := h'
      obtain ⟨u1, u2, u3, u4, u5, u6⟩ := f2
      have c2 : M' 5 2 = nI r := by rw [f1 5 (by omega) (by omega)]; exact e2
      have c3 : M' 5 3 = nI w := by rw [f1 5 (by omega) (by omega)]; exact e3
      have hT : ∀ q, q < w → T 0 i q < p := fun q hq => (hv 0 i q (by omega) hi hq).1
      have sb := sx_b (r := r) (n := n) (j := w) hp hw hT hd (Nat.le_refl _)
      rw [Eq_addImageUnderA_L22, c2, if_neg (nI_ge hi (by omega))]
      have inner : Eq_addImageUnderA_L36 (Eq_addImageUnderA_L22 m) FU 5 29 (nI i) 0 0 M' = Eq_addImageUnderA_b76 (Eq_addImageUnderA_L22 m) 5 29 (nI i) (nI (sxN T n i w)) M' := by
        obtain ⟨M2, a1, a2⟩ := lp (fun m' j M2 => Eq_addImageUnderA_L36 (Eq_addImageUnderA_L22 m) m' 5 29 (nI i) (nI (sxN T n i j)) (nI j) M2) (fun M2 => Eq_addImageUnderA_b76 (Eq_addImageUnderA_L22 m) 5 29 (nI i) (nI (sxN T n i w)) M2) w (fun j M2 => M2 = M') (fun m' M2 h2 => by
            show Eq_addImageUnderA_L36 (Eq_addImageUnderA_L22 m) (m' + 1) 5 29 (nI i) (nI (sxN T n i w)) (nI w) M2 = _
            subst h2
            rw [Eq_addImageUnderA_L36, c3, if_pos (Int32.le_refl _)]) (fun m' j M2 hj h2 => by
            show ∃ M3, _ ∧ Eq_addImageUnderA_L36 (Eq_addImageUnderA_L22 m) (m' + 1) 5 29 (nI i) (nI (sxN T n i j)) (nI j) M2 = Eq_addImageUnderA_L36 (Eq_addImageUnderA_L22 m) m' 5 29 (nI i) (nI (sxN T n i (j + 1))) (nI (j + 1)) M3
            subst h2
            refine ⟨M2, rfl, ?_⟩
            have v0 : Pa_valueAt 5 0 (nI i) (nI j) M2 = some (nI (T 0 i j), M2) := by
              rw [show (0 : Int32) = nI 0 from rfl, valueAt_in isP5 c2 c3 hr hw (by omega) hi hj, f1 6 (by omega) (by omega)]
              exact congrArg (fun t => some (t, M2)) (hv 0 i j (by omega) hi hj).2
            rw [Eq_addImageUnderA_L36, c3, if_neg (nI_ge hj (by omega)), show ln 29 = 4 from rfl, if_neg (nI_ge (show j < 4 by omega) (by omega)), v0, bd_s, if_pos (ibn (by omega) (by omega)), ixn (by omega), f1 29 (by omega) (by omega), h29 j hj, nIm, nIa, nI_1]
            rfl) w FU 0 M' (by omega) (FU_lt (by omega)) rfl
        subst a1
        exact a2
      rw [inner, Eq_addImageUnderA_b76, u1, reduce_jR hp, bd_s, nIo (sxN T n i w), jR_md (by omega) (by omega) hp, u3, show nI (k * w + 1) - 1 = nI (k * w) from nIs (a := k * w + 1) (b := 1) (by omega), putNum_ok u2 u3 u4 u5 (by omega) (by omega), bv_s, nI_1]
      refine ⟨_, ⟨fun y a1 a2 => by rw [wr_ne a2]; exact f1 y a1 a2, by rw [wr_ne (by omega)]; exact u1, by rw [wr_ne (by omega)]; exact u2, by rw [wr_ne (by omega)]; exact u3, u4, u5, fun i' j' hi' hj' => ?_⟩, rfl⟩
      rw [wr_g]
      by_cases q : i' = i ∧ j' = k * w
      · rw [if_pos ⟨rfl, by rw [q.1, q.2]⟩]
        unfold XF
        rw [if_pos ⟨q.2, by omega⟩, q.1]
        exact ⟨md_lt (by omega), rfl⟩
      · rw [if_neg (by omega)]
        have := u6 i' j' hi' hj'
        unfold XF at this ⊢
        by_cases q2 : j' = k * w ∧ i' < i
        · rw [if_pos q2] at this
          rw [if_pos ⟨q2.1, by omega⟩]; exact this
        · rw [if_neg q2] at this
          rw [if_neg (by omega)]; exact this) r FU 0 (wr C 23 3 (nI (k * w + 1))) (by omega) (FU_lt (by omega)) ⟨fun y a1 a2 => by rw [wr_ne a1], by rw [wr_o (by omega)]; exact m1, by rw [wr_o (by omega)]; exact m2, by rw [wr_s], m4, by omega, fun i j hi hj => by
        have := m6 i j hi hj
        rw [wr_ne (by omega)]
        unfold XF
        rw [if_neg (by omega)]; exact this⟩
  exact ⟨C', g2, g1.1, g1.2⟩
