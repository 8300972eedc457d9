/-! PURE: counting solutions -/
def ud (x : Nat → Int) (q : Nat) (v : Int) : Nat → Int := fun j => if j = q then v else x j
theorem ud_s {x : Nat → Int} {q : Nat} {v : Int} : ud x q v q = v := if_pos rfl
theorem ud_o {x : Nat → Int} {q j : Nat} {v : Int} (h : j ≠ q) : ud x q v j = x j := if_neg h
def sq : Nat → (Nat → Nat) → Nat
  | 0, _ => 0
  | n + 1, f => sq n f + f n
theorem sq_cg {n : Nat} {f g : Nat → Nat} (h : ∀ i, i < n → f i = g i) : sq n f = sq n g := by
  induction n with
  | zero => rfl
  | succ n ih => rw [sq, sq, ih (fun i hi => h i (by omega)), h n (by omega)]
theorem sq_const {n m : Nat} : sq n (fun _ => m) = n * m := by
  induction n with
  | zero => simp [sq]
  | succ n ih => rw [sq, ih, Nat.succ_mul]
theorem sq_le {n : Nat} {f g : Nat → Nat} (h : ∀ i, i < n → f i ≤ g i) : sq n f ≤ sq n g := by
  induction n with
  | zero => exact Nat.le_refl _
  | succ n ih =>
    have h1 := ih (fun i hi => h i (by omega))
    have h2 := h n (by omega)
    rw [sq, sq]; omega
theorem sq_zero {n : Nat} {f : Nat → Nat} (h : ∀ i, i < n → f i = 0) : sq n f = 0 := by
  rw [sq_cg h, sq_const]; omega
theorem sq_one {n : Nat} {f : Nat → Nat} {v : Nat} (hv : v < n) (h : ∀ i, i < n → i ≠ v → f i = 0) : sq n f = f v := by
  induction n with
  | zero => omega
  | succ n ih =>
    rw [sq]
    by_cases e : v = n
    · subst e
      rw [sq_zero (fun i hi => h i (by omega) (by omega))]; omega
    · rw [ih (by omega) (fun i hi hn => h i (by omega) hn), h n (by omega) (by omega)]; omega
theorem sq_ge {n : Nat} {f : Nat → Nat} {v : Nat} (hv : v < n) : f v ≤ sq n f := by
  induction n with
  | zero => omega
  | succ n ih =>
    rw [sq]
    by_cases e : v = n
    · subst e; omega
    · have := ih (by omega); omega
theorem sq_add {n : Nat} {f g : Nat → Nat} : sq n (fun i => f i + g i) = sq n f + sq n g := by
  induction n with
  | zero => rfl
  | succ n ih => rw [sq, sq, sq, ih]; omega
theorem sq_swap {n m : Nat} {f : Nat → Nat → Nat} : sq n (fun i => sq m (fun j => f i j)) = sq m (fun j => sq n (fun i => f i j)) := by
  induction n with
  | zero => show 0 = sq m (fun j => 0); rw [sq_const]; omega
  | succ n ih => rw [sq, ih, ← sq_add]; rfl
theorem sq_mul {n k : Nat} {f : Nat → Nat} : sq n (fun i => f i * k) = sq n f * k := by
  induction n with
  | zero => simp [sq]
  | succ n ih => rw [sq, sq, ih, Nat.add_mul]
def cn (p lo : Nat) : Nat → ((Nat → Int) → Nat) → (Nat → Int) → Nat
  | 0, f, x => f x
  | n + 1, f, x => sq p (fun v => cn p lo n f (ud x (lo + n) (v : Int)))
theorem cn_cg {p lo n : Nat} {f g : (Nat → Int) → Nat} {x : Nat → Int} (h : ∀ y : Nat → Int, (∀ q, q < lo ∨ lo + n ≤ q → y q = x q) → f y = g y) : cn p lo n f x = cn p lo n g x := by
  induction n generalizing x with
  | zero => exact h x (fun _ _ => rfl)
  | succ n ih =>
    rw [cn, cn]
    refine sq_cg (fun v hv => ih (fun y hy => h y (fun q hq => ?_)))
    rw [hy q (by omega), ud_o (by omega)]
def dt : Nat → (Nat → Nat) → (Nat → Int) → Int
  | 0, _, _ => 0
  | n + 1, R, x => dt n R x + (R n : Int) * x n
theorem dt_cg {n : Nat} {R S : Nat → Nat} {x y : Nat → Int} (h : ∀ j, j < n → R j = S j) (h2 : ∀ j, j < n → x j = y j) : dt n R x = dt n S y := by
  induction n with
  | zero => rfl
  | succ n ih => rw [dt, dt, ih (fun i hi => h i (by omega)) (fun i hi => h2 i (by omega)), h n (by omega), h2 n (by omega)]
theorem dt_0 {n : Nat} {R : Nat → Nat} {x : Nat → Int} (h : ∀ j, j < n → R j = 0) : dt n R x = 0 := by
  induction n with
  | zero => rfl
  | succ n ih => rw [dt, ih (fun i hi => h i (by omega)), h n (by omega)]; simp
noncomputable def iv (P : Prop) : Nat := @ite Nat P (Classical.propDecidable P) 1 0
theorem iv_1 {P : Prop} (h : P) : iv P = 1 := @if_pos P (Classical.propDecidable P) h Nat 1 0
theorem iv_0 {P : Prop} (h : ¬ P) : iv P = 0 := @if_neg P (Classical.propDecidable P) h Nat 1 0
theorem iv_cg {P Q : Prop} (h : P ↔ Q) : iv P = iv Q := by rw [propext h]
def un (p a : Nat) : Prop := ∃ u : Int, (p : Int) ∣ u * (a : Int) - 1
theorem un_cancel {p a : Nat} {z : Int} (h : un p a) : (p : Int) ∣ (a : Int) * z ↔ (p : Int) ∣ z := by
  obtain ⟨u, hu⟩ := h
  constructor
  · intro hz
    have h1 : (p : Int) ∣ u * ((a : Int) * z) := Int.dvd_trans hz (Int.dvd_mul_left _ _)
    have h2 : (p : Int) ∣ (u * (a : Int) - 1) * z := Int.dvd_trans hu (Int.dvd_mul_right _ _)
    have h3 := Int.dvd_sub h1 h2
    have e : u * ((a : Int) * z) - (u * (a : Int) - 1) * z = z := by rw [Int.sub_mul, Int.mul_assoc]; omega
    rwa [e] at h3
  · intro hz
    exact Int.dvd_trans hz (Int.dvd_mul_left _ _)
def Sol (p h n : Nat) (F : Nat → Nat → Nat) (x : Nat → Int) : Prop := ∀ i, i < h → (p : Int) ∣ dt n (F i) x
/-- echelon so far: columns below c, d pivots -/
def Ech (p h : Nat) (F : Nat → Nat → Nat) (c d : Nat) : Prop := d ≤ c ∧ d ≤ h ∧ (∀ i, d ≤ i → i < h → ∀ j, j < c → F i j = 0) ∧ ∀ (e : Nat → Int) (x : Nat → Int), cn p 0 c (fun y => iv (∀ i, i < d → (p : Int) ∣ dt c (F i) y - e i)) x = p ^ (c - d)
theorem Ech.zero {p h : Nat} {F : Nat → Nat → Nat} : Ech p h F 0 0 :=
  ⟨by omega, by omega, fun _ _ _ j hj => by omega, fun e x => by
    show iv _ = 1
    exact iv_1 (fun i hi => by omega)⟩
theorem Ech.no {p h : Nat} {F : Nat → Nat → Nat} {c d : Nat} (H : Ech p h F c d) (hz : ∀ i, d ≤ i → i < h → F i c = 0) : Ech p h F (c + 1) d := by
  obtain ⟨h1, h2, h3, h4⟩ := H
  refine ⟨by omega, h2, fun i a b j hj => ?_, fun e x => ?_⟩
  · by_cases q : j = c
    · subst q; exact hz i a b
    · exact h3 i a b j (by omega)
  · rw [cn]
    have key : ∀ v, v < p → cn p 0 c (fun y => iv (∀ i, i < d → (p : Int) ∣ dt (c + 1) (F i) y - e i)) (ud x (0 + c) (v : Int)) = p ^ (c - d) := fun v hv => by
      rw [← h4 (fun i => e i - (F i c : Int) * v) (ud x (0 + c) (v : Int))]
      refine cn_cg (fun y hy => iv_cg ?_)
      have yc : y c = v := by rw [hy c (by omega), show 0 + c = c by omega, ud_s]
      have : ∀ i, dt (c + 1) (F i) y - e i = dt c (F i) y - (e i - (F i c : Int) * v) := fun i => by rw [dt, yc]; omega
      constructor
      · intro g i hi; rw [← this]; exact g i hi
      · intro g i hi; rw [this]; exact g i hi
    rw [sq_cg key, sq_const, show c + 1 - d = (c - d) + 1 by omega, Nat.pow_succ, Nat.mul_comm]
theorem un_one {p a : Nat} (hp : 0 < p) (h : un p a) (e : Int) : ∃ v, v < p ∧ (p : Int) ∣ (a : Int) * (v : Int) - e ∧ ∀ w : Nat, w < p → (p : Int) ∣ (a : Int) * (w : Int) - e → w = v := by
  have hu := h
  obtain ⟨u, hu⟩ := hu
  have hp' : (0 : Int) < (p : Int) := by omega
  have hq : 0 ≤ (u * e) % (p : Int) := Int.emod_nonneg _ (by omega)
  have hl : (u * e) % (p : Int) < p := Int.emod_lt_of_pos _ hp'
  have hv : (((u * e) % (p : Int)).toNat : Int) = (u * e) % (p : Int) := Int.toNat_of_nonneg hq
  have h0 : (p : Int) ∣ (a : Int) * (((u * e) % (p : Int)).toNat : Int) - e := by
    rw [hv]
    have e1 : (u * e) % (p : Int) = u * e - (p : Int) * ((u * e) / (p : Int)) := Int.emod_def ..
    rw [e1]
    have h2 : (p : Int) ∣ (u * (a : Int) - 1) * e := Int.dvd_trans hu (Int.dvd_mul_right _ _)
    have h3 : (p : Int) ∣ (a : Int) * ((p : Int) * ((u * e) / (p : Int))) := Int.dvd_trans (Int.dvd_mul_right _ _) (Int.dvd_mul_left _ _)
    have h4 := Int.dvd_sub h2 h3
    have e2 : (u * (a : Int) - 1) * e - (a : Int) * ((p : Int) * ((u * e) / (p : Int))) = (a : Int) * (u * e - (p : Int) * ((u * e) / (p : Int))) - e := by
      rw [Int.mul_sub, Int.sub_mul, show u * (a : Int) * e = (a : Int) * (u * e) by rw [Int.mul_comm u, Int.mul_assoc]]; omega
    rwa [e2] at h4
  refine ⟨((u * e) % (p : Int)).toNat, by omega, h0, fun w hw hd => ?_⟩
  have h5 := Int.dvd_sub hd h0
  have e3 : (a : Int) * (w : Int) - e - ((a : Int) * (((u * e) % (p : Int)).toNat : Int) - e) = (a : Int) * ((w : Int) - (((u * e) % (p : Int)).toNat : Int)) := by rw [Int.mul_sub]; omega
  rw [e3] at h5
  have h6 := (un_cancel h).mp h5
  have h7 : (w : Int) - (((u * e) % (p : Int)).toNat : Int) = 0 := by
    obtain ⟨k, hk⟩ := h6
    have : k = 0 := by
      rcases Int.lt_trichotomy k 0 with q | q | q
      · exfalso
        have : (p : Int) * k ≤ (p : Int) * (-1) := Int.mul_le_mul_of_nonneg_left (by omega) (by omega)
        omega
      · exact q
      · exfalso
        have : (p : Int) * 1 ≤ (p : Int) * k := Int.mul_le_mul_of_nonneg_left (by omega) (by omega)
        omega
    rw [hk, this]; simp
  omega
theorem Ech.piv {p h : Nat} {F : Nat → Nat → Nat} {c d : Nat} (hp : 0 < p) (H : Ech p h F c d) (hd : d < h) (hu : un p (F d c)) (hz : ∀ i, d < i → i < h → F i c = 0) : Ech p h F (c + 1) (d + 1) := by
  obtain ⟨h1, h2, h3, h4⟩ := H
  refine ⟨by omega, by omega, fun i a b j hj => ?_, fun e x => ?_⟩
  · by_cases q : j = c
    · subst q; exact hz i (by omega) b
    · exact h3 i (by omega) b j (by omega)
  · rw [cn]
    obtain ⟨v0, b1, b2, b3⟩ := un_one hp hu (e d)
    have rowd : ∀ (v : Nat) (y : Nat → Int), y c = v → dt (c + 1) (F d) y - e d = (F d c : Int) * v - e d := fun v y yc => by
      rw [dt, dt_0 (fun j hj => h3 d (by omega) hd j hj), yc]; omega
    rw [sq_one b1 (fun v hv hn => ?_), show c + 1 - (d + 1) = c - d by omega]
    · rw [← h4 (fun i => e i - (F i c : Int) * v0) (ud x (0 + c) (v0 : Int))]
      refine cn_cg (fun y hy => iv_cg ?_)
      have yc : y c = v0 := by rw [hy c (by omega), show 0 + c = c by omega, ud_s]
      have this : ∀ i, dt (c + 1) (F i) y - e i = dt c (F i) y - (e i - (F i c : Int) * v0) := fun i => by rw [dt, yc]; omega
      constructor
      · intro g i hi; rw [← this]; exact g i (by omega)
      · intro g i hi
        by_cases q : i = d
        · subst q; rw [rowd v0 y yc]; exact b2
        · rw [this]; exact g i (by omega)
    · rw [show cn p 0 c (fun y => iv (∀ i, i < d + 1 → (p : Int) ∣ dt (c + 1) (F i) y - e i)) (ud x (0 + c) (v : Int)) = cn p 0 c (fun _ => 0) (ud x (0 + c) (v : Int)) from cn_cg (fun y hy => iv_0 (fun g => ?_))]
      · have z : ∀ n x, cn p 0 n (fun _ => 0) x = 0 := fun n => by
          induction n with
          | zero => intro x; rfl
          | succ n ih => intro x; rw [cn]; exact sq_zero (fun i _ => ih _)
        exact z _ _
      · have yc : y c = v := by rw [hy c (by omega), show 0 + c = c by omega, ud_s]
        have := g d (by omega)
        rw [rowd v y yc] at this
        exact hn (b3 v hv this)
theorem Ech.to {p h : Nat} {F G : Nat → Nat → Nat} {c d : Nat} (H : Ech p h F c d) (e : ∀ i, i < d → ∀ j, j < c → G i j = F i j) (hz : ∀ i, d ≤ i → i < h → ∀ j, j < c → G i j = 0) : Ech p h G c d := by
  obtain ⟨h1, h2, h3, h4⟩ := H
  refine ⟨h1, h2, hz, fun ee x => ?_⟩
  rw [← h4 ee x]
  refine cn_cg (fun y hy => iv_cg ?_)
  constructor
  · intro g i hi; rw [← dt_cg (e i hi) (fun _ _ => rfl)]; exact g i hi
  · intro g i hi; rw [dt_cg (e i hi) (fun _ _ => rfl)]; exact g i hi
theorem Ech.fin {p h : Nat} {F : Nat → Nat → Nat} {n d : Nat} (H : Ech p h F n d) (x : Nat → Int) : cn p 0 n (fun y => iv (Sol p h n F y)) x = p ^ (n - d) := by
  obtain ⟨h1, h2, h3, h4⟩ := H
  rw [← h4 (fun _ => 0) x]
  refine cn_cg (fun y hy => iv_cg ?_)
  constructor
  · intro g i hi
    have := g i (by omega)
    simpa using this
  · intro g i hi
    by_cases q : i < d
    · have := g i q
      simpa using this
    · rw [dt_0 (h3 i (by omega) hi)]; exact Int.dvd_zero _
theorem Ech.end {p h : Nat} {F : Nat → Nat → Nat} {c : Nat} (H : Ech p h F c h) (n : Nat) : Ech p h F (c + n) h := by
  induction n with
  | zero => exact H
  | succ n ih => exact Ech.no ih (fun i a b => by omega)
