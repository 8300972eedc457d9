/-! PURE: the class's rank -/
/-- rows below d in column c are cleared up to i -/
def Cl (p h w d c : Nat) (F : Nat → Nat → Nat) (i : Nat) (G : Nat → Nat → Nat) : Prop := (∀ i', i' ≤ d ∨ i ≤ i' → ∀ j, G i' j = F i' j) ∧ (∀ i', d < i' → i' < i → G i' c = 0) ∧ (∀ i' j, d ≤ i' → i' < h → j < c → G i' j = 0) ∧ ∀ x, Sol p h w G x ↔ Sol p h w F x
theorem md_0 {p : Nat} {z : Int} (h : z = 0) : md p z = 0 := by rw [h]; simp [md]
theorem Cl.step {p h w d c i : Nat} {F G : Nat → Nat → Nat} (hp : pr p) (hd : d < h) (hdi : d < i) (hi : i < h) (hc : c < w) (h1 : F d c ≠ 0) (h2 : F d c < p) (H : Cl p h w d c F i G) : Cl p h w d c F (i + 1) (fun i' j => if i' = i ∧ c ≤ j then md p (((F d c : Nat) : Int) * (G i j : Int) - ((F i c : Nat) : Int) * (G d j : Int)) else G i' j) := by
  have h7 := pr_le hp
  obtain ⟨k1, k2, k3, k4⟩ := H
  refine ⟨fun i' hi' j => ?_, fun i' a b => ?_, fun i' j a b e => ?_, fun x => ?_⟩
  · show (if i' = i ∧ c ≤ j then md p (((F d c : Nat) : Int) * (G i j : Int) - ((F i c : Nat) : Int) * (G d j : Int)) else G i' j) = _
    rw [if_neg (by omega)]
    exact k1 i' (by omega) j
  · show (if i' = i ∧ c ≤ c then md p (((F d c : Nat) : Int) * (G i c : Int) - ((F i c : Nat) : Int) * (G d c : Int)) else G i' c) = 0
    by_cases q : i' = i
    · rw [if_pos ⟨q, Nat.le_refl _⟩, k1 i (by omega) c, k1 d (by omega) c]
      exact md_0 (by rw [Int.mul_comm]; omega)
    · rw [if_neg (fun z => q z.1)]; exact k2 i' a (by omega)
  · show (if i' = i ∧ c ≤ j then md p (((F d c : Nat) : Int) * (G i j : Int) - ((F i c : Nat) : Int) * (G d j : Int)) else G i' j) = 0
    rw [if_neg (by omega)]
    exact k3 i' j a b e
  · rw [← k4 x]
    refine Sol.row (i := i) (d := d) (a := F d c) (b := ((F i c : Nat) : Int)) hi hd (by omega) (un_of hp h1 h2) (fun i' a b j hj => ?_) (fun j hj => ?_) x
    · exact if_neg (fun z => b z.1)
    · show (p : Int) ∣ ((if i = i ∧ c ≤ j then md p (((F d c : Nat) : Int) * (G i j : Int) - ((F i c : Nat) : Int) * (G d j : Int)) else G i j : Nat) : Int) - _
      by_cases q : c ≤ j
      · rw [if_pos ⟨rfl, q⟩]; exact md_dvd (by omega)
      · rw [if_neg (fun z => q z.2), k3 i j (by omega) hi (by omega), k3 d j (by omega) hd (by omega)]
        simp
theorem Cl.skip {p h w d c i : Nat} {F G : Nat → Nat → Nat} (hdi : d < i) (h1 : F i c = 0) (H : Cl p h w d c F i G) : Cl p h w d c F (i + 1) G := by
  obtain ⟨k1, k2, k3, k4⟩ := H
  refine ⟨fun i' hi' j => k1 i' (by omega) j, fun i' a b => ?_, k3, k4⟩
  by_cases q : i' = i
  · subst q; rw [k1 i' (by omega) c, h1]
  · exact k2 i' a (by omega)
theorem clear_ok {C : Mem} {p h w : Nat} {F : Nat → Nat → Nat} (hp : pr p) (hM : MC C p h w F) {d c : Nat} (hd : d < h) (hc : c < w) (hz : ∀ i' j, d ≤ i' → i' < h → j < c → F i' j = 0) (h1 : F d c ≠ 0) : ∃ C' G, Eq_clearBelow (nI d) (nI c) C = some C' ∧ (∀ x, x ≠ 24 → C' x = C x) ∧ MC C' p h w G ∧ Cl p h w d c F h G := by
  have h7 := pr_le hp
  have hm := hM
  obtain ⟨m1, m2, m3, m4, m5, m6⟩ := hm
  unfold Eq_clearBelow
  rw [at20, if_pos (ibn (by omega) (by omega)), ixn (by omega), (m6 d c hd hc).2, nI_1]
  obtain ⟨C', g1, g2⟩ := lp (fun m i M' => Eq_clearBelow_L17 m (nI d) (nI c) (nI (F d c)) (nI i) M') (fun M' => some M') h (fun i M' => (∀ x, x ≠ 24 → M' x = C x) ∧ d < i ∧ ∃ G, MC M' p h w G ∧ Cl p h w d c F i G) (fun m M' h' => by
      show Eq_clearBelow_L17 (m + 1) (nI d) (nI c) (nI (F d c)) (nI h) M' = _
      rw [Eq_clearBelow_L17, h'.1 23 (by omega), m2, if_pos (Int32.le_refl _)]) (fun m i M' hi h' => by
      show ∃ M1, _ ∧ Eq_clearBelow_L17 (m + 1) (nI d) (nI c) (nI (F d c)) (nI i) M' = Eq_clearBelow_L17 m (nI d) (nI c) (nI (F d c)) (nI (i + 1)) M1
      obtain ⟨q1, q2, G, q3, q4⟩ := h'
      have e : G i c = F i c := q4.1 i (by omega) c
      rw [Eq_clearBelow_L17, q1 23 (by omega), m2, if_neg (nI_ge hi (by omega)), at20, if_pos (ibn (by omega) (by omega)), ixn (by omega), (q3.2.2.2.2.2 i c hi hc).2, e]
      by_cases z : F i c = 0
      · rw [z, if_pos (show nI 0 = 0 from rfl), Eq_clearBelow_b118, nI_1]
        exact ⟨M', ⟨q1, by omega, G, q3, q4.skip q2 z⟩, rfl⟩
      · have b1 := (m6 i c hi hc).1
        have b2 := (m6 d c hd hc).1
        rw [if_neg (nI_ne0 (by omega) (by omega))]
        obtain ⟨C2, r1, r2, r3⟩ := clr_row (k17 := Eq_clearBelow_L17 m) hp q3 (i := i) (d := d) (c := c) (a := F d c) (b := F i c) hi hd (by omega) (by omega) (by omega) (by omega)
        rw [r1]
        exact ⟨C2, ⟨fun x hx => by rw [r2 x hx, q1 x hx], by omega, _, r3, q4.step hp hd q2 hi hc h1 b2⟩, rfl⟩) (h - (d + 1)) FU (d + 1) C (by omega) (FU_lt (by omega)) ⟨fun _ _ => rfl, by omega, F, hM, ⟨fun _ _ _ => rfl, fun i' a b => by omega, hz, fun _ => Iff.rfl⟩⟩
  obtain ⟨q1, q2, G, q3, q4⟩ := g1
  exact ⟨C', G, g2, q1, q3, q4⟩
theorem use_L {p h w : Nat} {F : Nat → Nat → Nat} (hp : pr p) : ∀ n c d C G, w - c < n → c ≤ w → MC C p h w G → (∀ x, Sol p h w G x ↔ Sol p h w F x) → Ech p h G c d → ∃ C' d', Eq_useUpForRank_L4 n (nI d) (nI c) C = some (nI d', C') ∧ (∀ x, x ≠ 24 → C' x = C x) ∧ d' ≤ w ∧ d' ≤ h ∧ ∀ x, cn p 0 w (fun y => iv (Sol p h w F y)) x = p ^ (w - d') := by
  have h7 := pr_le hp
  intro n
  induction n with
  | zero => intro c d C G h0; omega
  | succ n ih =>
    intro c d C G h0 hcw hM hS hE
    have hm := hM
    obtain ⟨m1, m2, m3, m4, m5, m6⟩ := hm
    have ed := hE.1
    have eh := hE.2.1
    have fin : ∀ d', Ech p h G w d' → ∀ x, cn p 0 w (fun y => iv (Sol p h w F y)) x = p ^ (w - d') := fun d' hh x => by
      rw [← hh.fin x]
      exact cn_cg (fun y _ => iv_cg (hS y).symm)
    rw [Eq_useUpForRank_L4, m3]
    by_cases e : c = w
    · subst e
      rw [if_pos (Int32.le_refl _)]
      exact ⟨C, d, rfl, fun _ _ => rfl, ed, eh, fin d hE⟩
    · rw [if_neg (nI_ge (show c < w by omega) (by omega)), m2]
      by_cases e2 : d = h
      · subst e2
        rw [if_pos (Int32.le_refl _)]
        have := hE.end (w - c)
        rw [show c + (w - c) = w by omega] at this
        exact ⟨C, d, rfl, fun _ _ => rfl, by omega, eh, fin d this⟩
      · rw [if_neg (nI_ge (show d < h by omega) (by omega))]
        obtain ⟨r, f1, f2⟩ := findP_ok (d := d) hM (c := c) (by omega) (by omega) FU d (show h - d < FU from FU_lt (by omega)) (Nat.le_refl _) (by omega) (fun i' a b => by omega)
        unfold Eq_findPivot
        rw [f1, bd_s]
        rcases f2 with ⟨rfl, z⟩ | ⟨q, q1, q2, rfl, q3⟩
        · rw [if_pos (by decide), Eq_useUpForRank_b47, nI_1]
          exact ih (c + 1) d C G (by omega) (by omega) hM hS (hE.no z)
        · rw [if_neg (show ¬ nI q < 0 from fun z => absurd (nI_pos' (n := q) (by omega)) (Int32.not_le.mpr z))]
          obtain ⟨C1, x1, x2, x3⟩ := exch_ok hM (a := d) (b := q) (c := c) (by omega) q1 (by omega)
          rw [x1, bv_s]
          have z0 := hE.2.2.1
          have sw : ∀ x, Sol p h w (fun i j => if c ≤ j then (if i = d then G q j else if i = q then G d j else G i j) else G i j) x ↔ Sol p h w G x := fun x => by
            refine Sol.swap (a := d) (b := q) (by omega) q1 (fun j hj => ?_) (fun j hj => ?_) (fun i hi n1 n2 j hj => ?_) x
            · show (if c ≤ j then (if d = d then G q j else if d = q then G d j else G d j) else G d j) = G q j
              by_cases k : c ≤ j
              · rw [if_pos k, if_pos rfl]
              · rw [if_neg k, z0 d (by omega) (by omega) j (by omega), z0 q q2 q1 j (by omega)]
            · show (if c ≤ j then (if q = d then G q j else if q = q then G d j else G q j) else G q j) = G d j
              by_cases k : c ≤ j
              · rw [if_pos k]
                by_cases k2 : q = d
                · rw [if_pos k2, k2]
                · rw [if_neg k2, if_pos rfl]
              · rw [if_neg k, z0 d (by omega) (by omega) j (by omega), z0 q q2 q1 j (by omega)]
            · show (if c ≤ j then (if i = d then G q j else if i = q then G d j else G i j) else G i j) = G i j
              rw [if_neg n1, if_neg n2]; split <;> rfl
          have zz : ∀ i' j, d ≤ i' → i' < h → j < c → (fun i j => if c ≤ j then (if i = d then G q j else if i = q then G d j else G i j) else G i j) i' j = 0 := fun i' j a b e => by
            show (if c ≤ j then (if i' = d then G q j else if i' = q then G d j else G i' j) else G i' j) = 0
            rw [if_neg (by omega)]; exact z0 i' a b j e
          have dd : (fun i j => if c ≤ j then (if i = d then G q j else if i = q then G d j else G i j) else G i j) d c = G q c := by
            show (if c ≤ c then (if d = d then G q c else if d = q then G d c else G d c) else G d c) = G q c
            rw [if_pos (Nat.le_refl _), if_pos rfl]
          obtain ⟨C2, G2, y1, y2, y3, y4⟩ := clear_ok hp x3 (d := d) (c := c) (by omega) (by omega) zz (fun z => q3 (dd.symm.trans z))
          rw [y1, bv_s, Eq_useUpForRank_b47, nI_1, nI_1]
          obtain ⟨l1, l2, l3, l4⟩ := y4
          have e5 : Ech p h G2 (c + 1) (d + 1) := by
            refine Ech.piv (by omega) (hE.to (fun i hi j hj => ?_) (fun i a b j e => l3 i j a b e)) (by omega) ?_ (fun i a b => l2 i a b)
            · rw [l1 i (by omega) j]
              show (if c ≤ j then (if i = d then G q j else if i = q then G d j else G i j) else G i j) = G i j
              rw [if_neg (by omega)]
            · rw [show G2 d c = G q c from (l1 d (by omega) c).trans dd]
              exact un_of hp q3 (m6 q c q1 (by omega)).1
          obtain ⟨C', d', w1, w2, w3⟩ := ih (c + 1) (d + 1) C2 G2 (by omega) (by omega) y3 (fun x => (l4 x).trans ((sw x).trans (hS x))) e5
          exact ⟨C', d', w1, fun x hx => by rw [w2 x hx, y2 x hx, x2 x hx], w3⟩
theorem use_ok {C : Mem} {p h w : Nat} {F : Nat → Nat → Nat} (hp : pr p) (hM : MC C p h w F) : ∃ C' d, Eq_useUpForRank C = some (nI d, C') ∧ (∀ x, x ≠ 24 → C' x = C x) ∧ d ≤ w ∧ d ≤ h ∧ ∀ x, cn p 0 w (fun y => iv (Sol p h w F y)) x = p ^ (w - d) :=
  use_L hp FU 0 0 C F (FU_lt (by have := hM.2.2.2.2.1; omega)) (by omega) hM (fun _ => Iff.rfl) Ech.zero
