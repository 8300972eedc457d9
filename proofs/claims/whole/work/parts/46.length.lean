/-! PURE: lengths fall -/
def KI (p r w : Nat) (T : Nat → Nat → Nat → Nat) (x : Nat) : Kt := fun b c i j => if i < r ∧ j < w then (if c = b then vl2 p T (dga p x) (dgb p x) i j else if b = c + 1 then vl2 p T (loa p x) (lob p x) i j else 0) else 0
def SK (p r w : Nat) (T : Nat → Nat → Nat → Nat) (x k : Nat) (y : Nat → Int) : Prop := Sol p (k * r) (k * w) (ff r w (KI p r w T x)) y
theorem KI_row {p r w x k : Nat} {T : Nat → Nat → Nat → Nat} {i : Nat} (hi : i < k * r) (j : Nat) : ff r w (KC p r w T x k) i j = ff r w (KI p r w T x) i j := by
  have : i / r < k := Nat.div_lt_of_lt_mul (by rw [Nat.mul_comm]; exact hi)
  unfold ff KC KI
  by_cases q : i % r < r ∧ j % w < w
  · rw [if_pos q, if_pos ⟨this, q⟩]
  · rw [if_neg q, if_neg (fun z => q z.2)]
theorem SK_C {p r w x k : Nat} {T : Nat → Nat → Nat → Nat} {y : Nat → Int} : Sol p (k * r) (k * w) (ff r w (KC p r w T x k)) y ↔ SK p r w T x k y :=
  ⟨fun g i hi => by rw [← dt_cg (fun j _ => KI_row hi j) (fun _ _ => rfl)]; exact g i hi, fun g i hi => by rw [dt_cg (fun j _ => KI_row hi j) (fun _ _ => rfl)]; exact g i hi⟩
theorem KC_lt {p r w x s : Nat} {T : Nat → Nat → Nat → Nat} (hp : 0 < p) (b c i j : Nat) : KC p r w T x s b c i j < p := by
  unfold KC
  split
  · split
    · exact md_lt hp
    · split
      · exact md_lt hp
      · exact hp
  · exact hp
noncomputable def AK (p r w : Nat) (T : Nat → Nat → Nat → Nat) (x k : Nat) : Nat := cn p 0 (k * w) (fun y => iv (SK p r w T x k y)) (fun _ => 0)
theorem AK_pow {p r w x k : Nat} {T : Nat → Nat → Nat → Nat} (hp : pr p) (hr : r ≤ 4) (hw : w ≤ 4) (hk : k ≤ 4) : AK p r w T x k = p ^ chN p r w T x k ∧ chN p r w T x k ≤ 16 := by
  have b1 := mul4 hk hr
  have b2 := mul4 hk hw
  have := dm_fact (h := k * r) (w := k * w) (F := ff r w (KC p r w T x k)) hp (by omega) (by omega) (fun i j _ _ => KC_lt (by have := pr_le hp; omega) _ _ _ _)
  refine ⟨?_, by unfold chN; omega⟩
  unfold AK
  rw [show p ^ chN p r w T x k = _ from this.2.symm]
  exact cn_cg (fun y _ => iv_cg SK_C.symm)
/-- dropping the last block -/
theorem SK_drop {p r w x k : Nat} {T : Nat → Nat → Nat → Nat} {y : Nat → Int} (h : SK p r w T x (k + 1) y) : SK p r w T x k y := by
  intro i hi
  have hi2 : i < (k + 1) * r := by rw [Nat.succ_mul]; omega
  have g := h i hi2
  rw [Nat.succ_mul, dt_tail (fun j a b => ?_)] at g
  · exact g
  · have b1 : i / r < k := Nat.div_lt_of_lt_mul (by rw [Nat.mul_comm]; exact hi)
    have b2 : k ≤ j / w := by
      rcases Nat.eq_zero_or_pos w with e | e
      · subst e; omega
      · exact (Nat.le_div_iff_mul_le e).mpr a
    have : ff r w (KI p r w T x) i j = 0 := by
      unfold ff KI
      by_cases q : i % r < r ∧ j % w < w
      · rw [if_pos q, if_neg (by omega), if_neg (by omega)]
      · rw [if_neg q]
    rw [this]; simp
/-- nothing in the first block: the rest is a chain -/
theorem SK_shift {p r w x k : Nat} {T : Nat → Nat → Nat → Nat} {y : Nat → Int} (h0 : ∀ j, j < w → y j = 0) : SK p r w T x (k + 1) y ↔ SK p r w T x k (fun j => y (j + w)) := by
  have row : ∀ i, i < k * r → dt ((k + 1) * w) (ff r w (KI p r w T x) (i + r)) y = dt (k * w) (ff r w (KI p r w T x) i) (fun j => y (j + w)) := fun i hi => by
    have hr : 0 < r := by
      rcases Nat.eq_zero_or_pos r with e | e
      · subst e; simp at hi
      · exact e
    rw [Nat.succ_mul, Nat.add_comm (k * w) w, dt_split]
    have z : dt w (ff r w (KI p r w T x) (i + r)) y = 0 := by
      have := dt_tail (a := 0) (b := w) (R := ff r w (KI p r w T x) (i + r)) (x := y) (fun j _ b => by rw [h0 j (by omega)]; simp)
      rw [Nat.zero_add] at this
      exact this
    rw [z, Int.zero_add]
    refine dt_cg (fun j hj => ?_) (fun _ _ => rfl)
    have hw : 0 < w := by
      rcases Nat.eq_zero_or_pos w with e | e
      · subst e; simp at hj
      · exact e
    unfold ff KI
    rw [Nat.add_div_right _ hr, Nat.add_div_right _ hw, Nat.add_mod_right, Nat.add_mod_right]
    by_cases q : i % r < r ∧ j % w < w
    · rw [if_pos q, if_pos q]
      by_cases q2 : j / w = i / r
      · rw [if_pos q2, if_pos (by omega)]
      · rw [if_neg q2, if_neg (by omega)]
        by_cases q3 : i / r = j / w + 1
        · rw [if_pos q3, if_pos (by omega)]
        · rw [if_neg q3, if_neg (by omega)]
    · rw [if_neg q, if_neg q]
  constructor
  · intro g i hi
    rw [← row i hi]
    exact g (i + r) (by rw [Nat.succ_mul]; omega)
  · intro g i hi
    by_cases q : i < r
    · have hr : 0 < r := by omega
      have : dt ((k + 1) * w) (ff r w (KI p r w T x) i) y = 0 := by
        have := dt_tail (a := 0) (b := (k + 1) * w) (R := ff r w (KI p r w T x) i) (x := y) (fun j _ b => ?_)
        · rw [Nat.zero_add] at this
          exact this
        · by_cases q2 : j < w
          · rw [h0 j q2]; simp
          · have e1 : i / r = 0 := Nat.div_eq_of_lt q
            have e2 : 1 ≤ j / w := by
              rcases Nat.eq_zero_or_pos w with e | e
              · subst e; simp at b
              · exact (Nat.le_div_iff_mul_le e).mpr (by omega)
            have : ff r w (KI p r w T x) i j = 0 := by
              unfold ff KI
              rw [e1]
              by_cases q : i % r < r ∧ j % w < w
              · rw [if_pos q, if_neg (by omega), if_neg (by omega)]
              · rw [if_neg q]
            rw [this]; simp
      rw [this]; exact Int.dvd_zero _
    · have := g (i - r) (by rw [Nat.succ_mul] at hi; omega)
      rw [← row (i - r) (by rw [Nat.succ_mul] at hi; omega), show i - r + r = i by omega] at this
      exact this
noncomputable def EK (p r w : Nat) (T : Nat → Nat → Nat → Nat) (x k : Nat) (y : Nat → Int) : Nat := cn p w (k * w) (fun u => iv (SK p r w T x (k + 1) u)) y
theorem AK_EK {p r w x k : Nat} {T : Nat → Nat → Nat → Nat} : AK p r w T x (k + 1) = cn p 0 w (EK p r w T x k) (fun _ => 0) := by
  unfold AK EK
  have e1 := cn_split (p := p) (lo := 0) (n := w) (m := k * w) (f := fun u => iv (SK p r w T x (k + 1) u)) (x := fun _ => 0)
  have e2 := cn_fub (p := p) (lo := 0) (n := w) (m := k * w) (f := fun u => iv (SK p r w T x (k + 1) u)) (x := fun _ => 0)
  rw [Nat.zero_add] at e1 e2
  rw [e2, ← e1, Nat.succ_mul, Nat.add_comm (k * w) w]
theorem EK_0 {p r w x k : Nat} {T : Nat → Nat → Nat → Nat} : EK p r w T x k (fun _ => 0) = AK p r w T x k := by
  unfold EK AK
  rw [cn_cg (g := fun u => (fun v => iv (SK p r w T x k v)) (fun j => u (j + w))) (fun u hu => iv_cg (SK_shift (fun j hj => hu j (by omega))))]
  have := cn_sh (p := p) (lo := 0) (n := k * w) (w := w) (g := fun v => iv (SK p r w T x k v)) (x := fun _ => 0)
  rw [Nat.zero_add] at this
  exact this
theorem EK_c {p r w x k : Nat} {T : Nat → Nat → Nat → Nat} {y : Nat → Int} (h : EK p r w T x k y ≠ 0) : EK p r w T x k y = AK p r w T x k := by
  obtain ⟨z, z1, z2, z3⟩ := cn_ex h
  have hz : SK p r w T x (k + 1) z := by
    rcases Classical.em (SK p r w T x (k + 1) z) with q | q
    · exact q
    · exact absurd (iv_0 q) z3
  rw [← EK_0]
  unfold EK
  have e1 : cn p w (k * w) (fun u => iv (SK p r w T x (k + 1) u)) y = cn p w (k * w) (fun u => (fun v => iv (SK p r w T x (k + 1) v)) (fun j => u j - z j)) y := cn_cg (fun u _ => iv_cg (Sol.sub hz))
  rw [e1, cn_tr (g := fun v => iv (SK p r w T x (k + 1) v)) Sol.rsp]
  exact cn_out (fun q hq => by show y q - z q = 0; rw [z1 q hq]; omega)
theorem EK_up {p r w x k : Nat} {T : Nat → Nat → Nat → Nat} {y : Nat → Int} (h : EK p r w T x (k + 1) y ≠ 0) : EK p r w T x k y ≠ 0 := by
  obtain ⟨z, z1, z2, z3⟩ := cn_ex h
  have hz : SK p r w T x (k + 1 + 1) z := by
    rcases Classical.em (SK p r w T x (k + 1 + 1) z) with q | q
    · exact q
    · exact absurd (iv_0 q) z3
  have e : (k + 1) * w = k * w + w := Nat.succ_mul k w
  refine cn_pos (z := fun q => if q < w + k * w then z q else y q) (fun q hq => ?_) (fun q a b => ?_) ?_
  · show (if q < w + k * w then z q else y q) = y q
    by_cases q1 : q < w + k * w
    · rw [if_pos q1]; exact z1 q (by omega)
    · rw [if_neg q1]
  · obtain ⟨v, v1, v2⟩ := z2 q a (by omega)
    exact ⟨v, v1, by show (if q < w + k * w then z q else y q) = v; rw [if_pos b]; exact v2⟩
  · have : SK p r w T x (k + 1) (fun q => if q < w + k * w then z q else y q) := by
      intro i hi
      rw [dt_cg (S := ff r w (KI p r w T x) i) (y := z) (fun _ _ => rfl) (fun j hj => if_pos (by omega))]
      exact SK_drop hz i hi
    rw [iv_1 this]; omega
noncomputable def NK (p r w : Nat) (T : Nat → Nat → Nat → Nat) (x k : Nat) : Nat := cn p 0 w (fun y => iv (EK p r w T x k y ≠ 0)) (fun _ => 0)
theorem cn_mul {p lo n k : Nat} {f : (Nat → Int) → Nat} {x : Nat → Int} : cn p lo n (fun y => f y * k) x = cn p lo n f x * k := by
  induction n generalizing x with
  | zero => rfl
  | succ n ih =>
    rw [cn, cn, sq_cg (fun v _ => ih (x := ud x (lo + n) (v : Int))), sq_mul]
theorem AK_NK {p r w x k : Nat} {T : Nat → Nat → Nat → Nat} : AK p r w T x (k + 1) = NK p r w T x k * AK p r w T x k := by
  unfold NK
  rw [AK_EK, ← cn_mul]
  refine cn_cg (fun y _ => ?_)
  rcases Classical.em (EK p r w T x k y ≠ 0) with q | q
  · rw [iv_1 q, EK_c q, Nat.one_mul]
  · rw [iv_0 q]
    have : EK p r w T x k y = 0 := by omega
    rw [this, Nat.zero_mul]
theorem NK_dn {p r w x k : Nat} {T : Nat → Nat → Nat → Nat} : NK p r w T x (k + 1) ≤ NK p r w T x k := cn_le (fun _ _ => iv_le EK_up)
theorem ch_dn {p r w x k : Nat} {T : Nat → Nat → Nat → Nat} (hp : pr p) (hr : r ≤ 4) (hw : w ≤ 4) (hk : k + 2 ≤ 4) : chN p r w T x (k + 2) + chN p r w T x k ≤ 2 * chN p r w T x (k + 1) := by
  have h7 := pr_le hp
  have a0 := (AK_pow (T := T) (x := x) (k := k) hp hr hw (by omega)).1
  have a1 := (AK_pow (T := T) (x := x) (k := k + 1) hp hr hw (by omega)).1
  have a2 := (AK_pow (T := T) (x := x) (k := k + 2) hp hr hw (by omega)).1
  have e1 := AK_NK (p := p) (r := r) (w := w) (T := T) (x := x) (k := k)
  have e2 := AK_NK (p := p) (r := r) (w := w) (T := T) (x := x) (k := k + 1)
  have le : p ^ (chN p r w T x (k + 2) + chN p r w T x k) ≤ p ^ (2 * chN p r w T x (k + 1)) := by
    rw [Nat.pow_add, ← a0, ← a2, show 2 * chN p r w T x (k + 1) = chN p r w T x (k + 1) + chN p r w T x (k + 1) by omega, Nat.pow_add, ← a1]
    show AK p r w T x (k + 1 + 1) * AK p r w T x k ≤ _
    rw [e2]
    have m := Nat.mul_le_mul (Nat.mul_le_mul (NK_dn (p := p) (r := r) (w := w) (T := T) (x := x) (k := k)) (Nat.le_refl (AK p r w T x (k + 1)))) (Nat.le_refl (AK p r w T x k))
    refine Nat.le_trans m ?_
    rw [Nat.mul_right_comm, ← e1]
    exact Nat.le_refl _
  exact (Nat.pow_le_pow_iff_right (by omega)).mp le
theorem ch_0 {p r w x : Nat} {T : Nat → Nat → Nat → Nat} (hp : pr p) (hr : r ≤ 4) (hw : w ≤ 4) : chN p r w T x 0 = 0 := by
  have h7 := pr_le hp
  have a0 := (AK_pow (T := T) (x := x) (k := 0) hp hr hw (by omega)).1
  have : AK p r w T x 0 = 1 := by
    unfold AK
    rw [Nat.zero_mul]
    exact iv_1 (fun i hi => by rw [Nat.zero_mul] at hi; omega)
  exact pow_inj (p := p) (by omega) (by rw [← a0, this]; rfl)
