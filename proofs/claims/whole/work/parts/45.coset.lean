/-! PURE: cosets -/
theorem sq_sh {n : Nat} {f : Nat → Nat} : sq n (fun v => f (v + 1)) + f 0 = sq n f + f n := by
  induction n with
  | zero => rfl
  | succ n ih =>
    rw [sq, sq]
    show sq n (fun v => f (v + 1)) + f (n + 1) + f 0 = _
    omega
theorem per_1 {p : Nat} {h : Int → Nat} (hh : ∀ t, h (t + p) = h t) (t : Int) : sq p (fun v => h ((v : Int) + (t + 1))) = sq p (fun v => h ((v : Int) + t)) := by
  have e := sq_sh (n := p) (f := fun v => h ((v : Int) + t))
  have e1 : h ((p : Int) + t) = h (((0 : Nat) : Int) + t) := by
    rw [Int.add_comm, hh, show ((0 : Nat) : Int) + t = t by omega]
  have e2 : sq p (fun v => h (((v + 1 : Nat) : Int) + t)) = sq p (fun v => h ((v : Int) + (t + 1))) := sq_cg (fun v _ => by
    rw [show ((v + 1 : Nat) : Int) + t = (v : Int) + (t + 1) by omega])
  replace e : sq p (fun v => h (((v + 1 : Nat) : Int) + t)) + h (((0 : Nat) : Int) + t) = sq p (fun v => h ((v : Int) + t)) + h ((p : Int) + t) := e
  rw [e1, e2] at e
  omega
theorem per_n {p : Nat} {h : Int → Nat} (hh : ∀ t, h (t + p) = h t) (t : Int) (n : Nat) : sq p (fun v => h ((v : Int) + (t + n))) = sq p (fun v => h ((v : Int) + t)) := by
  induction n with
  | zero => rw [show t + ((0 : Nat) : Int) = t by omega]
  | succ n ih => rw [show t + ((n + 1 : Nat) : Int) = t + n + 1 by omega, per_1 hh, ih]
theorem per_ok {p : Nat} {h : Int → Nat} (hh : ∀ t, h (t + p) = h t) (c : Int) : sq p (fun v => h ((v : Int) - c)) = sq p (fun v => h (v : Int)) := by
  have z : sq p (fun v => h ((v : Int) + 0)) = sq p (fun v => h (v : Int)) := sq_cg (fun v _ => by rw [Int.add_zero])
  rw [← z]
  by_cases q : 0 ≤ c
  · have := per_n hh (-c) c.toNat
    rw [show -c + (c.toNat : Int) = 0 by omega] at this
    rw [this]
    exact sq_cg (fun v _ => by rw [Int.sub_eq_add_neg])
  · have := per_n hh 0 (-c).toNat
    rw [show 0 + ((-c).toNat : Int) = -c by omega] at this
    rw [← this]
    exact sq_cg (fun v _ => by rw [Int.sub_eq_add_neg])
def Rsp (p : Nat) (g : (Nat → Int) → Nat) : Prop := ∀ u u' : Nat → Int, (∀ j, (p : Int) ∣ u j - u' j) → g u = g u'
theorem cn_mod {p lo n : Nat} {g : (Nat → Int) → Nat} (hg : Rsp p g) : Rsp p (fun x => cn p lo n g x) := by
  induction n with
  | zero => exact hg
  | succ n ih =>
    intro u u' hu
    show sq p _ = sq p _
    refine sq_cg (fun v _ => ih _ _ (fun j => ?_))
    by_cases q : j = lo + n
    · subst q; rw [ud_s, ud_s]; simp
    · rw [ud_o q, ud_o q]; exact hu j
theorem cn_tr {p lo n : Nat} {g : (Nat → Int) → Nat} (hg : Rsp p g) (z y : Nat → Int) : cn p lo n (fun u => g (fun j => u j - z j)) y = cn p lo n g (fun j => y j - z j) := by
  induction n generalizing y with
  | zero => rfl
  | succ n ih =>
    rw [cn, cn]
    have e : ∀ v : Nat, cn p lo n (fun u => g (fun j => u j - z j)) (ud y (lo + n) (v : Int)) = cn p lo n g (ud (fun j => y j - z j) (lo + n) ((v : Int) - z (lo + n))) := fun v => by
      rw [ih]
      congr 1
      funext j
      by_cases q : j = lo + n
      · subst q; rw [ud_s, ud_s]
      · rw [ud_o q, ud_o q]
    rw [sq_cg (fun v _ => e v)]
    exact per_ok (h := fun t => cn p lo n g (ud (fun j => y j - z j) (lo + n) t)) (fun t => cn_mod hg _ _ (fun j => by
      by_cases q : j = lo + n
      · subst q; rw [ud_s, ud_s]; exact ⟨1, by omega⟩
      · rw [ud_o q, ud_o q]; simp)) (z (lo + n))
theorem cn_out {p lo n : Nat} {f : (Nat → Int) → Nat} {x x' : Nat → Int} (h : ∀ q, q < lo ∨ lo + n ≤ q → x q = x' q) : cn p lo n f x = cn p lo n f x' := by
  induction n generalizing x x' with
  | zero =>
    have : x = x' := funext (fun q => h q (by omega))
    rw [this]
  | succ n ih =>
    rw [cn, cn]
    refine sq_cg (fun v _ => ih (fun q hq => ?_))
    by_cases e : q = lo + n
    · subst e; rw [ud_s, ud_s]
    · rw [ud_o e, ud_o e]; exact h q (by omega)
theorem cn_sh {p lo n w : Nat} {g : (Nat → Int) → Nat} {x : Nat → Int} : cn p (lo + w) n (fun u => g (fun j => u (j + w))) x = cn p lo n g (fun j => x (j + w)) := by
  induction n generalizing x with
  | zero => rfl
  | succ n ih =>
    rw [cn, cn]
    refine sq_cg (fun v _ => ?_)
    rw [ih]
    congr 1
    funext j
    by_cases e : j = lo + n
    · subst e; rw [show lo + n + w = lo + w + n by omega, ud_s, ud_s]
    · rw [ud_o (by omega), ud_o e]
theorem cn_split {p lo n m : Nat} {f : (Nat → Int) → Nat} {x : Nat → Int} : cn p lo (n + m) f x = cn p (lo + n) m (fun y => cn p lo n f y) x := by
  induction m generalizing x with
  | zero => rfl
  | succ m ih =>
    show sq p (fun v => cn p lo (n + m) f (ud x (lo + (n + m)) (v : Int))) = _
    rw [cn]
    refine sq_cg (fun v _ => ?_)
    rw [ih, show lo + (n + m) = lo + n + m by omega]
theorem cn_sum {p lo n k : Nat} {F : Nat → (Nat → Int) → Nat} {x : Nat → Int} : cn p lo n (fun y => sq k (fun v => F v y)) x = sq k (fun v => cn p lo n (F v) x) := by
  induction n generalizing x with
  | zero => rfl
  | succ n ih =>
    rw [cn]
    rw [sq_cg (fun v _ => ih (x := ud x (lo + n) (v : Int))), sq_swap]
    rfl
theorem cn_ud {p lo n q : Nat} {f : (Nat → Int) → Nat} {x : Nat → Int} {v : Int} (hq : lo + n ≤ q) : cn p lo n (fun y => f (ud y q v)) x = cn p lo n f (ud x q v) := by
  induction n generalizing x with
  | zero => rfl
  | succ n ih =>
    rw [cn, cn]
    refine sq_cg (fun u _ => ?_)
    rw [ih (by omega)]
    congr 1
    funext j
    by_cases e1 : j = q
    · subst e1; rw [ud_s, ud_o (by omega), ud_s]
    · rw [ud_o e1]
      by_cases e2 : j = lo + n
      · subst e2; rw [ud_s, ud_s]
      · rw [ud_o e2, ud_o e2, ud_o e1]
theorem cn_fub {p lo n m : Nat} {f : (Nat → Int) → Nat} {x : Nat → Int} : cn p lo n (fun y => cn p (lo + n) m f y) x = cn p (lo + n) m (fun y => cn p lo n f y) x := by
  induction m generalizing x f with
  | zero => rfl
  | succ m ih =>
    rw [cn]
    show cn p lo n (fun y => sq p (fun v => cn p (lo + n) m f (ud y (lo + n + m) (v : Int)))) x = _
    rw [cn_sum (F := fun v y => cn p (lo + n) m f (ud y (lo + n + m) (v : Int)))]
    refine sq_cg (fun v _ => ?_)
    rw [cn_ud (f := fun y => cn p (lo + n) m f y) (by omega), ih]
theorem cn_ex {p lo n : Nat} {f : (Nat → Int) → Nat} {x : Nat → Int} (h : cn p lo n f x ≠ 0) : ∃ z : Nat → Int, (∀ q, q < lo ∨ lo + n ≤ q → z q = x q) ∧ (∀ q, lo ≤ q → q < lo + n → ∃ v : Nat, v < p ∧ z q = v) ∧ f z ≠ 0 := by
  induction n generalizing x with
  | zero => exact ⟨x, fun _ _ => rfl, fun q a b => by omega, h⟩
  | succ n ih =>
    rw [cn] at h
    have : ∃ v, v < p ∧ cn p lo n f (ud x (lo + n) (v : Int)) ≠ 0 := by
      rcases Classical.em (∃ v, v < p ∧ cn p lo n f (ud x (lo + n) (v : Int)) ≠ 0) with g | g
      · exact g
      · exact absurd (sq_zero (fun v hv => by
          rcases Nat.eq_zero_or_pos (cn p lo n f (ud x (lo + n) (v : Int))) with q | q
          · exact q
          · exact absurd ⟨v, hv, by omega⟩ g)) h
    obtain ⟨v, v1, v2⟩ := this
    obtain ⟨z, z1, z2, z3⟩ := ih v2
    refine ⟨z, fun q hq => by rw [z1 q (by omega), ud_o (by omega)], fun q a b => ?_, z3⟩
    by_cases e : q = lo + n
    · subst e; exact ⟨v, v1, by rw [z1 _ (by omega), ud_s]⟩
    · exact z2 q a (by omega)
theorem cn_pos {p lo n : Nat} {f : (Nat → Int) → Nat} {x z : Nat → Int} (h1 : ∀ q, q < lo ∨ lo + n ≤ q → z q = x q) (h2 : ∀ q, lo ≤ q → q < lo + n → ∃ v : Nat, v < p ∧ z q = v) (h3 : f z ≠ 0) : cn p lo n f x ≠ 0 := by
  induction n generalizing x with
  | zero =>
    have : z = x := funext (fun q => h1 q (by omega))
    subst this
    exact h3
  | succ n ih =>
    obtain ⟨v, v1, v2⟩ := h2 (lo + n) (by omega) (by omega)
    have := ih (x := ud x (lo + n) (v : Int)) (fun q hq => by
      by_cases e : q = lo + n
      · subst e; rw [ud_s]; exact v2
      · rw [ud_o e]; exact h1 q (by omega)) (fun q a b => h2 q a (by omega))
    rw [cn]
    have g := sq_ge (n := p) (f := fun v => cn p lo n f (ud x (lo + n) (v : Int))) (v := v) v1
    replace g : cn p lo n f (ud x (lo + n) (v : Int)) ≤ sq p (fun v => cn p lo n f (ud x (lo + n) (v : Int))) := g
    omega
theorem dt_mod {p n : Nat} {R : Nat → Nat} {u u' : Nat → Int} (h : ∀ j, (p : Int) ∣ u j - u' j) : (p : Int) ∣ dt n R u - dt n R u' := by
  induction n with
  | zero => show (p : Int) ∣ 0 - 0; simp
  | succ n ih =>
    have := Int.dvd_add ih (Int.dvd_trans (h n) (Int.dvd_mul_left (R n : Int) _))
    rw [dt, dt]
    rwa [show dt n R u - dt n R u' + (R n : Int) * (u n - u' n) = dt n R u + (R n : Int) * u n - (dt n R u' + (R n : Int) * u' n) by rw [Int.mul_sub]; omega] at this
theorem dt_sub {n : Nat} {R : Nat → Nat} {u z : Nat → Int} : dt n R (fun j => u j - z j) = dt n R u - dt n R z := by
  induction n with
  | zero => rfl
  | succ n ih => rw [dt, dt, dt, ih, Int.mul_sub]; omega
theorem dt_split {a n : Nat} {R : Nat → Nat} {x : Nat → Int} : dt (a + n) R x = dt a R x + dt n (fun j => R (j + a)) (fun j => x (j + a)) := by
  induction n with
  | zero => show dt a R x = dt a R x + 0; omega
  | succ n ih =>
    show dt (a + n) R x + (R (a + n) : Int) * x (a + n) = _
    rw [ih, dt, Nat.add_comm a n]; omega
theorem Sol.rsp {p h n : Nat} {F : Nat → Nat → Nat} : Rsp p (fun y => iv (Sol p h n F y)) := by
  intro u u' hu
  refine iv_cg ?_
  constructor
  · intro g i hi
    have := Int.dvd_sub (g i hi) (dt_mod (n := n) (R := F i) hu)
    rwa [show dt n (F i) u - (dt n (F i) u - dt n (F i) u') = dt n (F i) u' by omega] at this
  · intro g i hi
    have := Int.dvd_add (g i hi) (dt_mod (n := n) (R := F i) hu)
    rwa [show dt n (F i) u' + (dt n (F i) u - dt n (F i) u') = dt n (F i) u by omega] at this
theorem Sol.sub {p h n : Nat} {F : Nat → Nat → Nat} {u z : Nat → Int} (hz : Sol p h n F z) : Sol p h n F u ↔ Sol p h n F (fun j => u j - z j) := by
  constructor
  · intro g i hi; rw [dt_sub]; exact Int.dvd_sub (g i hi) (hz i hi)
  · intro g i hi
    have := Int.dvd_add (g i hi) (hz i hi)
    rwa [dt_sub, show dt n (F i) u - dt n (F i) z + dt n (F i) z = dt n (F i) u by omega] at this
