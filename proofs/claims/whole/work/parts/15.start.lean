/-! THE START: two objects are made; their cells are the world -/
def M0l : List (Nat → Int32) := [(fun k => [0, 0, 0, 0, 0, 0, 0, 0, 0, 0].getD k 0), (fun k => [0, 0, 0, 0, 0, 0, 0, 0, 0, 0, 0, 0].getD k 0), (fun _ => 0), (fun k => [0, 7, 0, 0].getD k 0), (fun _ => 0), (fun k => [0, 7, 0, 0].getD k 0), (fun _ => 0), (fun _ => 0), (fun k => [0, 7, 0, 0].getD k 0), (fun _ => 0), (fun k => [0, 7, 0, 0].getD k 0), (fun _ => 0), (fun _ => 0), (fun _ => 0), (fun k => [0, 0, (-1)].getD k 0), (fun _ => 0), (fun k => [0, 0, (-1)].getD k 0), (fun _ => 0), (fun k => [0, 0, (-1)].getD k 0), (fun _ => 0), (fun k => [0, 0, (-1)].getD k 0), (fun _ => 0), (fun k => [0, 0, 0, 0, 0].getD k 0), (fun k => [0, 7, 0, 0].getD k 0), (fun _ => 0), (fun k => [0, 7, 0, 0].getD k 0), (fun _ => 0), (fun _ => 0), (fun _ => 0), (fun _ => 0), (fun _ => 0), (fun _ => 0), (fun k => [0, 0, 0, 0, 0, 0, 0, 0, 0, 0, 0, 0, 0, 0, 0, 0, 0, 0, 0, 0, 0, 0, 0, 0, 0, 0, 0, 0, 0, 0].getD k 0), (upd (fun _ => 0) (0 : Int32).toNatClampNeg 7), (fun _ => 0), (fun _ => 0), (fun _ => 0), (fun _ => 0), (fun _ => 0), (fun _ => 0), (fun _ => 0), (fun _ => 0), (fun _ => 0), (fun _ => 0), (fun _ => 0), (fun _ => 0), (upd (upd (upd (upd (fun _ => 0) (0 : Int32).toNatClampNeg (-4)) (1 : Int32).toNatClampNeg (-4)) (2 : Int32).toNatClampNeg (-4)) (3 : Int32).toNatClampNeg (-4)), (fun _ => 0), (fun _ => 0), (fun _ => 0)]
def M0 : Mem := fun i => M0l.getD i (fun _ => 0)
abbrev gW (hx0 hm0 : Nat) (ux um : (Nat → Nat) × (Nat → Nat)) (adK adV : Nat → Nat) : Nat → Nat := fun i => if i < 50 then [hx0, (ux.1 0), (ux.1 1), (ux.1 2), (ux.1 3), (ux.1 4), (ux.1 5), (ux.1 6), (ux.1 7), (ux.1 8), (ux.1 9), (ux.1 10), (ux.1 11), (ux.1 12), (ux.1 13), (ux.1 14), (ux.1 15), (ux.1 16), (ux.1 17), (ux.1 18), (ux.1 19), (ux.1 20), (ux.1 21), (ux.1 24), (ux.1 25), (ux.1 22), (ux.1 23), (ux.1 26), (ux.1 27), (ux.1 28), (ux.1 29), (ux.1 30), hm0, (um.1 0), (um.1 1), (um.1 2), (um.1 3), (um.1 4), (um.1 5), (um.1 6), (um.1 7), (um.1 8), (um.1 9), (um.1 10), (um.1 11), (um.1 12), (um.1 13), (um.1 14), (um.1 15), (um.1 16)].getD i 0 else if i < 110 then adK (i - 100) else adV (i - 110)
abbrev cW (ux um : (Nat → Nat) × (Nat → Nat)) : Nat → Nat := fun i => [0, 0, (ux.2 0), 0, (ux.2 1), 0, (ux.2 2), (ux.2 3), 0, (ux.2 4), 0, (ux.2 5), (ux.2 6), (ux.2 7), 0, (ux.2 8), 0, (ux.2 9), 0, (ux.2 10), 0, (ux.2 11), 0, 0, (ux.2 13), 0, (ux.2 12), (ux.2 14), (ux.2 15), (ux.2 16), (ux.2 17), (ux.2 18), 0, (um.2 0), (um.2 1), (um.2 2), (um.2 3), (um.2 4), (um.2 5), (um.2 6), (um.2 7), (um.2 8), (um.2 9), (um.2 10), (um.2 11), (um.2 12), (um.2 13), (um.2 14), (um.2 15), (um.2 16)].getD i 0
abbrev wW (hx0 hm0 : Nat) (ux um : (Nat → Nat) × (Nat → Nat)) : va_W := [(hx0, .inr (5, [.ref (ux.1 0), .ref (ux.1 4), .ref (ux.1 6), .ref (ux.1 11), .ref (ux.1 12), .ref (ux.1 21), .ref (ux.1 29), .ref (ux.1 30), .int 0, .int 0])), ((ux.1 0), .inr (3, [.ref (ux.1 1), .ref (ux.1 2), .int 0, .int 0, .int 0, .int 0, .int 0, .int 0, .int 0, .int 0, .int 0, .int 0])), ((ux.1 1), .inl ((ux.2 0), 160, .inl (fun _ => 0))), ((ux.1 2), .inr (1, [.ref (ux.1 3), .int 7, .int 0, .int 0])), ((ux.1 3), .inl ((ux.2 1), 32, .inl (fun _ => 0))), ((ux.1 4), .inr (1, [.ref (ux.1 5), .int 7, .int 0, .int 0])), ((ux.1 5), .inl ((ux.2 2), 32, .inl (fun _ => 0))), ((ux.1 6), .inl ((ux.2 3), 2, .inr (.inr (.inr (.inr (va_up (va_up (fun _ => none) (0 : Int32).toNatClampNeg (some (ux.1 7))) (1 : Int32).toNatClampNeg (some (ux.1 9)))))))), ((ux.1 7), .inr (1, [.ref (ux.1 8), .int 7, .int 0, .int 0])), ((ux.1 8), .inl ((ux.2 4), 32, .inl (fun _ => 0))), ((ux.1 9), .inr (1, [.ref (ux.1 10), .int 7, .int 0, .int 0])), ((ux.1 10), .inl ((ux.2 5), 32, .inl (fun _ => 0))), ((ux.1 11), .inl ((ux.2 6), 2, .inl (fun _ => 0))), ((ux.1 12), .inl ((ux.2 7), 4, .inr (.inr (.inr (.inr (va_up (va_up (va_up (va_up (fun _ => none) (0 : Int32).toNatClampNeg (some (ux.1 13))) (1 : Int32).toNatClampNeg (some (ux.1 15))) (2 : Int32).toNatClampNeg (some (ux.1 17))) (3 : Int32).toNatClampNeg (some (ux.1 19)))))))), ((ux.1 13), .inr (2, [.ref (ux.1 14), .int 0, .int (-1)])), ((ux.1 14), .inl ((ux.2 8), 40, .inl (fun _ => 0))), ((ux.1 15), .inr (2, [.ref (ux.1 16), .int 0, .int (-1)])), ((ux.1 16), .inl ((ux.2 9), 40, .inl (fun _ => 0))), ((ux.1 17), .inr (2, [.ref (ux.1 18), .int 0, .int (-1)])), ((ux.1 18), .inl ((ux.2 10), 40, .inl (fun _ => 0))), ((ux.1 19), .inr (2, [.ref (ux.1 20), .int 0, .int (-1)])), ((ux.1 20), .inl ((ux.2 11), 40, .inl (fun _ => 0))), ((ux.1 21), .inr (4, [.ref (ux.1 24), .ref (ux.1 22), .ref (ux.1 26), .ref (ux.1 27), .ref (ux.1 28)])), ((ux.1 24), .inr (0, [.ref (ux.1 25), .int 7, .int 0, .int 0])), ((ux.1 25), .inl ((ux.2 13), 480, .inl (fun _ => 0))), ((ux.1 22), .inr (1, [.ref (ux.1 23), .int 7, .int 0, .int 0])), ((ux.1 23), .inl ((ux.2 12), 32, .inl (fun _ => 0))), ((ux.1 26), .inl ((ux.2 14), 5, .inl (fun _ => 0))), ((ux.1 27), .inl ((ux.2 15), 5, .inl (fun _ => 0))), ((ux.1 28), .inl ((ux.2 16), 4, .inl (fun _ => 0))), ((ux.1 29), .inl ((ux.2 17), 45, .inl (fun _ => 0))), ((ux.1 30), .inl ((ux.2 18), 45, .inl (fun _ => 0))), (hm0, .inr (6, [.ref (um.1 0), .ref (um.1 1), .ref (um.1 2), .ref (um.1 3), .int 0, .int 0, .ref (um.1 4), .int 0, .int 0, .int 0, .int 0, .int 0, .int 0, .int 0, .ref (um.1 5), .int 0, .int 0, .int 0, .ref (um.1 6), .ref (um.1 7), .ref (um.1 8), .ref (um.1 9), .ref (um.1 10), .ref (um.1 11), .ref (um.1 12), .ref (um.1 13), .ref (um.1 14), .ref (um.1 15), .int 0, .ref (um.1 16)])), ((um.1 0), .inl ((um.2 0), 35, .inl (upd (fun _ => 0) (0 : Int32).toNatClampNeg 7))), ((um.1 1), .inl ((um.2 1), 70, .inl (fun _ => 0))), ((um.1 2), .inl ((um.2 2), 2, .inl (fun _ => 0))), ((um.1 3), .inl ((um.2 3), 35, .inl (fun _ => 0))), ((um.1 4), .inl ((um.2 4), 160, .inl (fun _ => 0))), ((um.1 5), .inl ((um.2 5), 504, .inl (fun _ => 0))), ((um.1 6), .inl ((um.2 6), 5, .inl (fun _ => 0))), ((um.1 7), .inl ((um.2 7), 5, .inl (fun _ => 0))), ((um.1 8), .inl ((um.2 8), 5, .inl (fun _ => 0))), ((um.1 9), .inl ((um.2 9), 4, .inl (fun _ => 0))), ((um.1 10), .inl ((um.2 10), 35, .inl (fun _ => 0))), ((um.1 11), .inl ((um.2 11), 45, .inl (fun _ => 0))), ((um.1 12), .inl ((um.2 12), 45, .inl (fun _ => 0))), ((um.1 13), .inl ((um.2 13), 4, .inl (upd (upd (upd (upd (fun _ => 0) (0 : Int32).toNatClampNeg (-4)) (1 : Int32).toNatClampNeg (-4)) (2 : Int32).toNatClampNeg (-4)) (3 : Int32).toNatClampNeg (-4)))), ((um.1 14), .inl ((um.2 14), 4, .inl (fun _ => 0))), ((um.1 15), .inl ((um.2 15), 160, .inl (fun _ => 0))), ((um.1 16), .inl ((um.2 16), 35, .inl (fun _ => 0)))]
theorem rW7 {hx0 hm0 : Nat} {ux um : (Nat → Nat) × (Nat → Nat)} {adK adV : Nat → Nat} : (va_up (va_up (fun _ => none) (0 : Int32).toNatClampNeg (some (ux.1 7))) (1 : Int32).toNatClampNeg (some (ux.1 9))) = (fun k => ((rf 7).getD k none).map (gW hx0 hm0 ux um adK adV)) := by
  funext k
  match k with
  | 0 => rfl
  | 1 => rfl
  | k + 2 => rfl
theorem rW13 {hx0 hm0 : Nat} {ux um : (Nat → Nat) × (Nat → Nat)} {adK adV : Nat → Nat} : (va_up (va_up (va_up (va_up (fun _ => none) (0 : Int32).toNatClampNeg (some (ux.1 13))) (1 : Int32).toNatClampNeg (some (ux.1 15))) (2 : Int32).toNatClampNeg (some (ux.1 17))) (3 : Int32).toNatClampNeg (some (ux.1 19))) = (fun k => ((rf 13).getD k none).map (gW hx0 hm0 ux um adK adV)) := by
  funext k
  match k with
  | 0 => rfl
  | 1 => rfl
  | 2 => rfl
  | 3 => rfl
  | k + 4 => rfl
theorem ceW0 {dC : Nat → ClassId} {dI : Nat → Nat → Nat} {hx0 hm0 : Nat} {ux um : (Nat → Nat) × (Nat → Nat)} {adK adV : Nat → Nat} : ce ((dC, dI), gW hx0 hm0 ux um adK adV, cW ux um) M0 0 = .inr (5, [.ref (ux.1 0), .ref (ux.1 4), .ref (ux.1 6), .ref (ux.1 11), .ref (ux.1 12), .ref (ux.1 21), .ref (ux.1 29), .ref (ux.1 30), .int 0, .int 0]) := ce_ob (ci := 5) rfl (by decide)
theorem ceW1 {dC : Nat → ClassId} {dI : Nat → Nat → Nat} {hx0 hm0 : Nat} {ux um : (Nat → Nat) × (Nat → Nat)} {adK adV : Nat → Nat} : ce ((dC, dI), gW hx0 hm0 ux um adK adV, cW ux um) M0 1 = .inr (3, [.ref (ux.1 1), .ref (ux.1 2), .int 0, .int 0, .int 0, .int 0, .int 0, .int 0, .int 0, .int 0, .int 0, .int 0]) := ce_ob (ci := 3) rfl (by decide)
theorem ceW2 {dC : Nat → ClassId} {dI : Nat → Nat → Nat} {hx0 hm0 : Nat} {ux um : (Nat → Nat) × (Nat → Nat)} {adK adV : Nat → Nat} : ce ((dC, dI), gW hx0 hm0 ux um adK adV, cW ux um) M0 2 = .inl ((ux.2 0), 160, .inl (fun _ => 0)) := ce_ar (by decide) (by decide)
theorem ceW3 {dC : Nat → ClassId} {dI : Nat → Nat → Nat} {hx0 hm0 : Nat} {ux um : (Nat → Nat) × (Nat → Nat)} {adK adV : Nat → Nat} : ce ((dC, dI), gW hx0 hm0 ux um adK adV, cW ux um) M0 3 = .inr (1, [.ref (ux.1 3), .int 7, .int 0, .int 0]) := ce_ob (ci := 1) rfl (by decide)
theorem ceW4 {dC : Nat → ClassId} {dI : Nat → Nat → Nat} {hx0 hm0 : Nat} {ux um : (Nat → Nat) × (Nat → Nat)} {adK adV : Nat → Nat} : ce ((dC, dI), gW hx0 hm0 ux um adK adV, cW ux um) M0 4 = .inl ((ux.2 1), 32, .inl (fun _ => 0)) := ce_ar (by decide) (by decide)
theorem ceW5 {dC : Nat → ClassId} {dI : Nat → Nat → Nat} {hx0 hm0 : Nat} {ux um : (Nat → Nat) × (Nat → Nat)} {adK adV : Nat → Nat} : ce ((dC, dI), gW hx0 hm0 ux um adK adV, cW ux um) M0 5 = .inr (1, [.ref (ux.1 5), .int 7, .int 0, .int 0]) := ce_ob (ci := 1) rfl (by decide)
theorem ceW6 {dC : Nat → ClassId} {dI : Nat → Nat → Nat} {hx0 hm0 : Nat} {ux um : (Nat → Nat) × (Nat → Nat)} {adK adV : Nat → Nat} : ce ((dC, dI), gW hx0 hm0 ux um adK adV, cW ux um) M0 6 = .inl ((ux.2 2), 32, .inl (fun _ => 0)) := ce_ar (by decide) (by decide)
theorem ceW7 {dC : Nat → ClassId} {dI : Nat → Nat → Nat} {hx0 hm0 : Nat} {ux um : (Nat → Nat) × (Nat → Nat)} {adK adV : Nat → Nat} : ce ((dC, dI), gW hx0 hm0 ux um adK adV, cW ux um) M0 7 = .inl ((ux.2 3), 2, .inr (.inr (.inr (.inr (va_up (va_up (fun _ => none) (0 : Int32).toNatClampNeg (some (ux.1 7))) (1 : Int32).toNatClampNeg (some (ux.1 9))))))) := by
  rw [rW7 (hx0 := hx0) (hm0 := hm0) (ux := ux) (um := um) (adK := adK) (adV := adV)]
  exact ce_rf (by decide)
theorem ceW8 {dC : Nat → ClassId} {dI : Nat → Nat → Nat} {hx0 hm0 : Nat} {ux um : (Nat → Nat) × (Nat → Nat)} {adK adV : Nat → Nat} : ce ((dC, dI), gW hx0 hm0 ux um adK adV, cW ux um) M0 8 = .inr (1, [.ref (ux.1 8), .int 7, .int 0, .int 0]) := ce_ob (ci := 1) rfl (by decide)
theorem ceW9 {dC : Nat → ClassId} {dI : Nat → Nat → Nat} {hx0 hm0 : Nat} {ux um : (Nat → Nat) × (Nat → Nat)} {adK adV : Nat → Nat} : ce ((dC, dI), gW hx0 hm0 ux um adK adV, cW ux um) M0 9 = .inl ((ux.2 4), 32, .inl (fun _ => 0)) := ce_ar (by decide) (by decide)
theorem ceW10 {dC : Nat → ClassId} {dI : Nat → Nat → Nat} {hx0 hm0 : Nat} {ux um : (Nat → Nat) × (Nat → Nat)} {adK adV : Nat → Nat} : ce ((dC, dI), gW hx0 hm0 ux um adK adV, cW ux um) M0 10 = .inr (1, [.ref (ux.1 10), .int 7, .int 0, .int 0]) := ce_ob (ci := 1) rfl (by decide)
theorem ceW11 {dC : Nat → ClassId} {dI : Nat → Nat → Nat} {hx0 hm0 : Nat} {ux um : (Nat → Nat) × (Nat → Nat)} {adK adV : Nat → Nat} : ce ((dC, dI), gW hx0 hm0 ux um adK adV, cW ux um) M0 11 = .inl ((ux.2 5), 32, .inl (fun _ => 0)) := ce_ar (by decide) (by decide)
theorem ceW12 {dC : Nat → ClassId} {dI : Nat → Nat → Nat} {hx0 hm0 : Nat} {ux um : (Nat → Nat) × (Nat → Nat)} {adK adV : Nat → Nat} : ce ((dC, dI), gW hx0 hm0 ux um adK adV, cW ux um) M0 12 = .inl ((ux.2 6), 2, .inl (fun _ => 0)) := ce_ar (by decide) (by decide)
theorem ceW13 {dC : Nat → ClassId} {dI : Nat → Nat → Nat} {hx0 hm0 : Nat} {ux um : (Nat → Nat) × (Nat → Nat)} {adK adV : Nat → Nat} : ce ((dC, dI), gW hx0 hm0 ux um adK adV, cW ux um) M0 13 = .inl ((ux.2 7), 4, .inr (.inr (.inr (.inr (va_up (va_up (va_up (va_up (fun _ => none) (0 : Int32).toNatClampNeg (some (ux.1 13))) (1 : Int32).toNatClampNeg (some (ux.1 15))) (2 : Int32).toNatClampNeg (some (ux.1 17))) (3 : Int32).toNatClampNeg (some (ux.1 19))))))) := by
  rw [rW13 (hx0 := hx0) (hm0 := hm0) (ux := ux) (um := um) (adK := adK) (adV := adV)]
  exact ce_rf (by decide)
theorem ceW14 {dC : Nat → ClassId} {dI : Nat → Nat → Nat} {hx0 hm0 : Nat} {ux um : (Nat → Nat) × (Nat → Nat)} {adK adV : Nat → Nat} : ce ((dC, dI), gW hx0 hm0 ux um adK adV, cW ux um) M0 14 = .inr (2, [.ref (ux.1 14), .int 0, .int (-1)]) := ce_ob (ci := 2) rfl (by decide)
theorem ceW15 {dC : Nat → ClassId} {dI : Nat → Nat → Nat} {hx0 hm0 : Nat} {ux um : (Nat → Nat) × (Nat → Nat)} {adK adV : Nat → Nat} : ce ((dC, dI), gW hx0 hm0 ux um adK adV, cW ux um) M0 15 = .inl ((ux.2 8), 40, .inl (fun _ => 0)) := ce_ar (by decide) (by decide)
theorem ceW16 {dC : Nat → ClassId} {dI : Nat → Nat → Nat} {hx0 hm0 : Nat} {ux um : (Nat → Nat) × (Nat → Nat)} {adK adV : Nat → Nat} : ce ((dC, dI), gW hx0 hm0 ux um adK adV, cW ux um) M0 16 = .inr (2, [.ref (ux.1 16), .int 0, .int (-1)]) := ce_ob (ci := 2) rfl (by decide)
theorem ceW17 {dC : Nat → ClassId} {dI : Nat → Nat → Nat} {hx0 hm0 : Nat} {ux um : (Nat → Nat) × (Nat → Nat)} {adK adV : Nat → Nat} : ce ((dC, dI), gW hx0 hm0 ux um adK adV, cW ux um) M0 17 = .inl ((ux.2 9), 40, .inl (fun _ => 0)) := ce_ar (by decide) (by decide)
theorem ceW18 {dC : Nat → ClassId} {dI : Nat → Nat → Nat} {hx0 hm0 : Nat} {ux um : (Nat → Nat) × (Nat → Nat)} {adK adV : Nat → Nat} : ce ((dC, dI), gW hx0 hm0 ux um adK adV, cW ux um) M0 18 = .inr (2, [.ref (ux.1 18), .int 0, .int (-1)]) := ce_ob (ci := 2) rfl (by decide)
theorem ceW19 {dC : Nat → ClassId} {dI : Nat → Nat → Nat} {hx0 hm0 : Nat} {ux um : (Nat → Nat) × (Nat → Nat)} {adK adV : Nat → Nat} : ce ((dC, dI), gW hx0 hm0 ux um adK adV, cW ux um) M0 19 = .inl ((ux.2 10), 40, .inl (fun _ => 0)) := ce_ar (by decide) (by decide)
theorem ceW20 {dC : Nat → ClassId} {dI : Nat → Nat → Nat} {hx0 hm0 : Nat} {ux um : (Nat → Nat) × (Nat → Nat)} {adK adV : Nat → Nat} : ce ((dC, dI), gW hx0 hm0 ux um adK adV, cW ux um) M0 20 = .inr (2, [.ref (ux.1 20), .int 0, .int (-1)]) := ce_ob (ci := 2) rfl (by decide)
theorem ceW21 {dC : Nat → ClassId} {dI : Nat → Nat → Nat} {hx0 hm0 : Nat} {ux um : (Nat → Nat) × (Nat → Nat)} {adK adV : Nat → Nat} : ce ((dC, dI), gW hx0 hm0 ux um adK adV, cW ux um) M0 21 = .inl ((ux.2 11), 40, .inl (fun _ => 0)) := ce_ar (by decide) (by decide)
theorem ceW22 {dC : Nat → ClassId} {dI : Nat → Nat → Nat} {hx0 hm0 : Nat} {ux um : (Nat → Nat) × (Nat → Nat)} {adK adV : Nat → Nat} : ce ((dC, dI), gW hx0 hm0 ux um adK adV, cW ux um) M0 22 = .inr (4, [.ref (ux.1 24), .ref (ux.1 22), .ref (ux.1 26), .ref (ux.1 27), .ref (ux.1 28)]) := ce_ob (ci := 4) rfl (by decide)
theorem ceW23 {dC : Nat → ClassId} {dI : Nat → Nat → Nat} {hx0 hm0 : Nat} {ux um : (Nat → Nat) × (Nat → Nat)} {adK adV : Nat → Nat} : ce ((dC, dI), gW hx0 hm0 ux um adK adV, cW ux um) M0 23 = .inr (0, [.ref (ux.1 25), .int 7, .int 0, .int 0]) := ce_ob (ci := 0) rfl (by decide)
theorem ceW24 {dC : Nat → ClassId} {dI : Nat → Nat → Nat} {hx0 hm0 : Nat} {ux um : (Nat → Nat) × (Nat → Nat)} {adK adV : Nat → Nat} : ce ((dC, dI), gW hx0 hm0 ux um adK adV, cW ux um) M0 24 = .inl ((ux.2 13), 480, .inl (fun _ => 0)) := ce_ar (by decide) (by decide)
theorem ceW25 {dC : Nat → ClassId} {dI : Nat → Nat → Nat} {hx0 hm0 : Nat} {ux um : (Nat → Nat) × (Nat → Nat)} {adK adV : Nat → Nat} : ce ((dC, dI), gW hx0 hm0 ux um adK adV, cW ux um) M0 25 = .inr (1, [.ref (ux.1 23), .int 7, .int 0, .int 0]) := ce_ob (ci := 1) rfl (by decide)
theorem ceW26 {dC : Nat → ClassId} {dI : Nat → Nat → Nat} {hx0 hm0 : Nat} {ux um : (Nat → Nat) × (Nat → Nat)} {adK adV : Nat → Nat} : ce ((dC, dI), gW hx0 hm0 ux um adK adV, cW ux um) M0 26 = .inl ((ux.2 12), 32, .inl (fun _ => 0)) := ce_ar (by decide) (by decide)
theorem ceW27 {dC : Nat → ClassId} {dI : Nat → Nat → Nat} {hx0 hm0 : Nat} {ux um : (Nat → Nat) × (Nat → Nat)} {adK adV : Nat → Nat} : ce ((dC, dI), gW hx0 hm0 ux um adK adV, cW ux um) M0 27 = .inl ((ux.2 14), 5, .inl (fun _ => 0)) := ce_ar (by decide) (by decide)
theorem ceW28 {dC : Nat → ClassId} {dI : Nat → Nat → Nat} {hx0 hm0 : Nat} {ux um : (Nat → Nat) × (Nat → Nat)} {adK adV : Nat → Nat} : ce ((dC, dI), gW hx0 hm0 ux um adK adV, cW ux um) M0 28 = .inl ((ux.2 15), 5, .inl (fun _ => 0)) := ce_ar (by decide) (by decide)
theorem ceW29 {dC : Nat → ClassId} {dI : Nat → Nat → Nat} {hx0 hm0 : Nat} {ux um : (Nat → Nat) × (Nat → Nat)} {adK adV : Nat → Nat} : ce ((dC, dI), gW hx0 hm0 ux um adK adV, cW ux um) M0 29 = .inl ((ux.2 16), 4, .inl (fun _ => 0)) := ce_ar (by decide) (by decide)
theorem ceW30 {dC : Nat → ClassId} {dI : Nat → Nat → Nat} {hx0 hm0 : Nat} {ux um : (Nat → Nat) × (Nat → Nat)} {adK adV : Nat → Nat} : ce ((dC, dI), gW hx0 hm0 ux um adK adV, cW ux um) M0 30 = .inl ((ux.2 17), 45, .inl (fun _ => 0)) := ce_ar (by decide) (by decide)
theorem ceW31 {dC : Nat → ClassId} {dI : Nat → Nat → Nat} {hx0 hm0 : Nat} {ux um : (Nat → Nat) × (Nat → Nat)} {adK adV : Nat → Nat} : ce ((dC, dI), gW hx0 hm0 ux um adK adV, cW ux um) M0 31 = .inl ((ux.2 18), 45, .inl (fun _ => 0)) := ce_ar (by decide) (by decide)
theorem ceW32 {dC : Nat → ClassId} {dI : Nat → Nat → Nat} {hx0 hm0 : Nat} {ux um : (Nat → Nat) × (Nat → Nat)} {adK adV : Nat → Nat} : ce ((dC, dI), gW hx0 hm0 ux um adK adV, cW ux um) M0 32 = .inr (6, [.ref (um.1 0), .ref (um.1 1), .ref (um.1 2), .ref (um.1 3), .int 0, .int 0, .ref (um.1 4), .int 0, .int 0, .int 0, .int 0, .int 0, .int 0, .int 0, .ref (um.1 5), .int 0, .int 0, .int 0, .ref (um.1 6), .ref (um.1 7), .ref (um.1 8), .ref (um.1 9), .ref (um.1 10), .ref (um.1 11), .ref (um.1 12), .ref (um.1 13), .ref (um.1 14), .ref (um.1 15), .int 0, .ref (um.1 16)]) := by
  rw [ce_ob (ci := 6) rfl (by decide)]
  refine congrArg (fun z => (Sum.inr (6, z) : va_E)) (List.ext_getElem? (fun k => ?_))
  match k with
  | 0 => exact (fl_at (r := some 33) rfl).trans rfl
  | 1 => exact (fl_at (r := some 34) rfl).trans rfl
  | 2 => exact (fl_at (r := some 35) rfl).trans rfl
  | 3 => exact (fl_at (r := some 36) rfl).trans rfl
  | 4 => exact (fl_at (r := none) rfl).trans rfl
  | 5 => exact (fl_at (r := none) rfl).trans rfl
  | 6 => exact (fl_at (r := some 37) rfl).trans rfl
  | 7 => exact (fl_at (r := none) rfl).trans rfl
  | 8 => exact (fl_at (r := none) rfl).trans rfl
  | 9 => exact (fl_at (r := none) rfl).trans rfl
  | 10 => exact (fl_at (r := none) rfl).trans rfl
  | 11 => exact (fl_at (r := none) rfl).trans rfl
  | 12 => exact (fl_at (r := none) rfl).trans rfl
  | 13 => exact (fl_at (r := none) rfl).trans rfl
  | 14 => exact (fl_at (r := some 38) rfl).trans rfl
  | 15 => exact (fl_at (r := none) rfl).trans rfl
  | 16 => exact (fl_at (r := none) rfl).trans rfl
  | 17 => exact (fl_at (r := none) rfl).trans rfl
  | 18 => exact (fl_at (r := some 39) rfl).trans rfl
  | 19 => exact (fl_at (r := some 40) rfl).trans rfl
  | 20 => exact (fl_at (r := some 41) rfl).trans rfl
  | 21 => exact (fl_at (r := some 42) rfl).trans rfl
  | 22 => exact (fl_at (r := some 43) rfl).trans rfl
  | 23 => exact (fl_at (r := some 44) rfl).trans rfl
  | 24 => exact (fl_at (r := some 45) rfl).trans rfl
  | 25 => exact (fl_at (r := some 46) rfl).trans rfl
  | 26 => exact (fl_at (r := some 47) rfl).trans rfl
  | 27 => exact (fl_at (r := some 48) rfl).trans rfl
  | 28 => exact (fl_at (r := none) rfl).trans rfl
  | 29 => exact (fl_at (r := some 49) rfl).trans rfl
  | k + 30 =>
    simp only [fl, List.getElem?_mapIdx]
    rfl
theorem ceW33 {dC : Nat → ClassId} {dI : Nat → Nat → Nat} {hx0 hm0 : Nat} {ux um : (Nat → Nat) × (Nat → Nat)} {adK adV : Nat → Nat} : ce ((dC, dI), gW hx0 hm0 ux um adK adV, cW ux um) M0 33 = .inl ((um.2 0), 35, .inl (upd (fun _ => 0) (0 : Int32).toNatClampNeg 7)) := ce_ar (by decide) (by decide)
theorem ceW34 {dC : Nat → ClassId} {dI : Nat → Nat → Nat} {hx0 hm0 : Nat} {ux um : (Nat → Nat) × (Nat → Nat)} {adK adV : Nat → Nat} : ce ((dC, dI), gW hx0 hm0 ux um adK adV, cW ux um) M0 34 = .inl ((um.2 1), 70, .inl (fun _ => 0)) := ce_ar (by decide) (by decide)
theorem ceW35 {dC : Nat → ClassId} {dI : Nat → Nat → Nat} {hx0 hm0 : Nat} {ux um : (Nat → Nat) × (Nat → Nat)} {adK adV : Nat → Nat} : ce ((dC, dI), gW hx0 hm0 ux um adK adV, cW ux um) M0 35 = .inl ((um.2 2), 2, .inl (fun _ => 0)) := ce_ar (by decide) (by decide)
theorem ceW36 {dC : Nat → ClassId} {dI : Nat → Nat → Nat} {hx0 hm0 : Nat} {ux um : (Nat → Nat) × (Nat → Nat)} {adK adV : Nat → Nat} : ce ((dC, dI), gW hx0 hm0 ux um adK adV, cW ux um) M0 36 = .inl ((um.2 3), 35, .inl (fun _ => 0)) := ce_ar (by decide) (by decide)
theorem ceW37 {dC : Nat → ClassId} {dI : Nat → Nat → Nat} {hx0 hm0 : Nat} {ux um : (Nat → Nat) × (Nat → Nat)} {adK adV : Nat → Nat} : ce ((dC, dI), gW hx0 hm0 ux um adK adV, cW ux um) M0 37 = .inl ((um.2 4), 160, .inl (fun _ => 0)) := ce_ar (by decide) (by decide)
theorem ceW38 {dC : Nat → ClassId} {dI : Nat → Nat → Nat} {hx0 hm0 : Nat} {ux um : (Nat → Nat) × (Nat → Nat)} {adK adV : Nat → Nat} : ce ((dC, dI), gW hx0 hm0 ux um adK adV, cW ux um) M0 38 = .inl ((um.2 5), 504, .inl (fun _ => 0)) := ce_ar (by decide) (by decide)
theorem ceW39 {dC : Nat → ClassId} {dI : Nat → Nat → Nat} {hx0 hm0 : Nat} {ux um : (Nat → Nat) × (Nat → Nat)} {adK adV : Nat → Nat} : ce ((dC, dI), gW hx0 hm0 ux um adK adV, cW ux um) M0 39 = .inl ((um.2 6), 5, .inl (fun _ => 0)) := ce_ar (by decide) (by decide)
theorem ceW40 {dC : Nat → ClassId} {dI : Nat → Nat → Nat} {hx0 hm0 : Nat} {ux um : (Nat → Nat) × (Nat → Nat)} {adK adV : Nat → Nat} : ce ((dC, dI), gW hx0 hm0 ux um adK adV, cW ux um) M0 40 = .inl ((um.2 7), 5, .inl (fun _ => 0)) := ce_ar (by decide) (by decide)
theorem ceW41 {dC : Nat → ClassId} {dI : Nat → Nat → Nat} {hx0 hm0 : Nat} {ux um : (Nat → Nat) × (Nat → Nat)} {adK adV : Nat → Nat} : ce ((dC, dI), gW hx0 hm0 ux um adK adV, cW ux um) M0 41 = .inl ((um.2 8), 5, .inl (fun _ => 0)) := ce_ar (by decide) (by decide)
theorem ceW42 {dC : Nat → ClassId} {dI : Nat → Nat → Nat} {hx0 hm0 : Nat} {ux um : (Nat → Nat) × (Nat → Nat)} {adK adV : Nat → Nat} : ce ((dC, dI), gW hx0 hm0 ux um adK adV, cW ux um) M0 42 = .inl ((um.2 9), 4, .inl (fun _ => 0)) := ce_ar (by decide) (by decide)
theorem ceW43 {dC : Nat → ClassId} {dI : Nat → Nat → Nat} {hx0 hm0 : Nat} {ux um : (Nat → Nat) × (Nat → Nat)} {adK adV : Nat → Nat} : ce ((dC, dI), gW hx0 hm0 ux um adK adV, cW ux um) M0 43 = .inl ((um.2 10), 35, .inl (fun _ => 0)) := ce_ar (by decide) (by decide)
theorem ceW44 {dC : Nat → ClassId} {dI : Nat → Nat → Nat} {hx0 hm0 : Nat} {ux um : (Nat → Nat) × (Nat → Nat)} {adK adV : Nat → Nat} : ce ((dC, dI), gW hx0 hm0 ux um adK adV, cW ux um) M0 44 = .inl ((um.2 11), 45, .inl (fun _ => 0)) := ce_ar (by decide) (by decide)
theorem ceW45 {dC : Nat → ClassId} {dI : Nat → Nat → Nat} {hx0 hm0 : Nat} {ux um : (Nat → Nat) × (Nat → Nat)} {adK adV : Nat → Nat} : ce ((dC, dI), gW hx0 hm0 ux um adK adV, cW ux um) M0 45 = .inl ((um.2 12), 45, .inl (fun _ => 0)) := ce_ar (by decide) (by decide)
theorem ceW46 {dC : Nat → ClassId} {dI : Nat → Nat → Nat} {hx0 hm0 : Nat} {ux um : (Nat → Nat) × (Nat → Nat)} {adK adV : Nat → Nat} : ce ((dC, dI), gW hx0 hm0 ux um adK adV, cW ux um) M0 46 = .inl ((um.2 13), 4, .inl (upd (upd (upd (upd (fun _ => 0) (0 : Int32).toNatClampNeg (-4)) (1 : Int32).toNatClampNeg (-4)) (2 : Int32).toNatClampNeg (-4)) (3 : Int32).toNatClampNeg (-4))) := ce_ar (by decide) (by decide)
theorem ceW47 {dC : Nat → ClassId} {dI : Nat → Nat → Nat} {hx0 hm0 : Nat} {ux um : (Nat → Nat) × (Nat → Nat)} {adK adV : Nat → Nat} : ce ((dC, dI), gW hx0 hm0 ux um adK adV, cW ux um) M0 47 = .inl ((um.2 14), 4, .inl (fun _ => 0)) := ce_ar (by decide) (by decide)
theorem ceW48 {dC : Nat → ClassId} {dI : Nat → Nat → Nat} {hx0 hm0 : Nat} {ux um : (Nat → Nat) × (Nat → Nat)} {adK adV : Nat → Nat} : ce ((dC, dI), gW hx0 hm0 ux um adK adV, cW ux um) M0 48 = .inl ((um.2 15), 160, .inl (fun _ => 0)) := ce_ar (by decide) (by decide)
theorem ceW49 {dC : Nat → ClassId} {dI : Nat → Nat → Nat} {hx0 hm0 : Nat} {ux um : (Nat → Nat) × (Nat → Nat)} {adK adV : Nat → Nat} : ce ((dC, dI), gW hx0 hm0 ux um adK adV, cW ux um) M0 49 = .inl ((um.2 16), 35, .inl (fun _ => 0)) := ce_ar (by decide) (by decide)
set_option maxRecDepth 100000 in
set_option maxHeartbeats 4000000 in
theorem wW_at {dC : Nat → ClassId} {dI : Nat → Nat → Nat} {hx0 hm0 : Nat} {ux um : (Nat → Nat) × (Nat → Nat)} {adK adV : Nat → Nat} : ∀ i, i < NC → (wW hx0 hm0 ux um)[i]? = some (gW hx0 hm0 ux um adK adV i, ce ((dC, dI), gW hx0 hm0 ux um adK adV, cW ux um) M0 i) := by
  intro i hi
  match i, hi with
  | 0, _ => rw [ceW0]; rfl
  | 1, _ => rw [ceW1]; rfl
  | 2, _ => rw [ceW2]; rfl
  | 3, _ => rw [ceW3]; rfl
  | 4, _ => rw [ceW4]; rfl
  | 5, _ => rw [ceW5]; rfl
  | 6, _ => rw [ceW6]; rfl
  | 7, _ => rw [ceW7]; rfl
  | 8, _ => rw [ceW8]; rfl
  | 9, _ => rw [ceW9]; rfl
  | 10, _ => rw [ceW10]; rfl
  | 11, _ => rw [ceW11]; rfl
  | 12, _ => rw [ceW12]; rfl
  | 13, _ => rw [ceW13]; rfl
  | 14, _ => rw [ceW14]; rfl
  | 15, _ => rw [ceW15]; rfl
  | 16, _ => rw [ceW16]; rfl
  | 17, _ => rw [ceW17]; rfl
  | 18, _ => rw [ceW18]; rfl
  | 19, _ => rw [ceW19]; rfl
  | 20, _ => rw [ceW20]; rfl
  | 21, _ => rw [ceW21]; rfl
  | 22, _ => rw [ceW22]; rfl
  | 23, _ => rw [ceW23]; rfl
  | 24, _ => rw [ceW24]; rfl
  | 25, _ => rw [ceW25]; rfl
  | 26, _ => rw [ceW26]; rfl
  | 27, _ => rw [ceW27]; rfl
  | 28, _ => rw [ceW28]; rfl
  | 29, _ => rw [ceW29]; rfl
  | 30, _ => rw [ceW30]; rfl
  | 31, _ => rw [ceW31]; rfl
  | 32, _ => rw [ceW32]; rfl
  | 33, _ => rw [ceW33]; rfl
  | 34, _ => rw [ceW34]; rfl
  | 35, _ => rw [ceW35]; rfl
  | 36, _ => rw [ceW36]; rfl
  | 37, _ => rw [ceW37]; rfl
  | 38, _ => rw [ceW38]; rfl
  | 39, _ => rw [ceW39]; rfl
  | 40, _ => rw [ceW40]; rfl
  | 41, _ => rw [ceW41]; rfl
  | 42, _ => rw [ceW42]; rfl
  | 43, _ => rw [ceW43]; rfl
  | 44, _ => rw [ceW44]; rfl
  | 45, _ => rw [ceW45]; rfl
  | 46, _ => rw [ceW46]; rfl
  | 47, _ => rw [ceW47]; rfl
  | 48, _ => rw [ceW48]; rfl
  | 49, _ => rw [ceW49]; rfl
  | n + 50, h => exact absurd h (by unfold NC; omega)
theorem wW_P {dC : Nat → ClassId} {dI : Nat → Nat → Nat} {hx0 hm0 : Nat} {ux um : (Nat → Nat) × (Nat → Nat)} {adK adV : Nat → Nat} {H : Heap} (h : va_P (dC, dI) vwCl (wW hx0 hm0 ux um) H) : va_P (dC, dI) vwCl (wo ((dC, dI), gW hx0 hm0 ux um adK adV, cW ux um) M0) H := fun i q hq => by
  obtain ⟨hi, rfl⟩ := wo_inv hq
  exact h i _ (wW_at i hi)
theorem wW_D {dC : Nat → ClassId} {dI : Nat → Nat → Nat} {hx0 hm0 : Nat} {ux um : (Nat → Nat) × (Nat → Nat)} {adK adV : Nat → Nat} {A : Nat → Prop} (h : va_D A (wW hx0 hm0 ux um)) : va_D A (wo ((dC, dI), gW hx0 hm0 ux um adK adV, cW ux um) M0) := by
  refine ⟨fun i j x y hx hy e => ?_, fun i q hq => ?_⟩
  · obtain ⟨hi, rfl⟩ := wo_inv hx
    obtain ⟨hj, rfl⟩ := wo_inv hy
    exact h.1 i j _ _ (wW_at (dC := dC) (dI := dI) (adK := adK) (adV := adV) i hi) (wW_at (dC := dC) (dI := dI) (adK := adK) (adV := adV) j hj) e
  · obtain ⟨hi, rfl⟩ := wo_inv hq
    exact h.2 i _ (wW_at (dC := dC) (dI := dI) (adK := adK) (adV := adV) i hi)
set_option maxRecDepth 100000 in
set_option maxHeartbeats 4000000 in
theorem aW {dC : Nat → ClassId} {dI : Nat → Nat → Nat} {hx0 hm0 : Nat} {ux um : (Nat → Nat) × (Nat → Nat)}  {s : State} (hK : va_K (dC, dI) vwCl [((ux.2 0), .byte), ((ux.2 1), .int), ((ux.2 2), .int), ((ux.2 3), .object RX1), ((ux.2 4), .int), ((ux.2 5), .int), ((ux.2 6), .boolean), ((ux.2 7), .object RX2), ((ux.2 8), .int), ((ux.2 9), .int), ((ux.2 10), .int), ((ux.2 11), .int), ((ux.2 12), .int), ((ux.2 13), .int), ((ux.2 14), .int), ((ux.2 15), .int), ((ux.2 16), .int), ((ux.2 17), .int), ((ux.2 18), .int), ((um.2 0), .int), ((um.2 1), .int), ((um.2 2), .boolean), ((um.2 3), .int), ((um.2 4), .int), ((um.2 5), .int), ((um.2 6), .int), ((um.2 7), .int), ((um.2 8), .int), ((um.2 9), .int), ((um.2 10), .int), ((um.2 11), .int), ((um.2 12), .int), ((um.2 13), .int), ((um.2 14), .int), ((um.2 15), .int), ((um.2 16), .int)] s) : ∀ i, i < NC → 10 ≤ kd i → ArrOfT s (cW ux um i) (tyA i) ∧ va_RA s (cW ux um i) (tyA i) := by
  intro i hi hk
  match i, hi, hk with
  | 0, _, h => exact absurd h (by decide)
  | 1, _, h => exact absurd h (by decide)
  | 2, _, _ => exact hK.2 0 _ rfl
  | 3, _, h => exact absurd h (by decide)
  | 4, _, _ => exact hK.2 1 _ rfl
  | 5, _, h => exact absurd h (by decide)
  | 6, _, _ => exact hK.2 2 _ rfl
  | 7, _, _ => exact hK.2 3 _ rfl
  | 8, _, h => exact absurd h (by decide)
  | 9, _, _ => exact hK.2 4 _ rfl
  | 10, _, h => exact absurd h (by decide)
  | 11, _, _ => exact hK.2 5 _ rfl
  | 12, _, _ => exact hK.2 6 _ rfl
  | 13, _, _ => exact hK.2 7 _ rfl
  | 14, _, h => exact absurd h (by decide)
  | 15, _, _ => exact hK.2 8 _ rfl
  | 16, _, h => exact absurd h (by decide)
  | 17, _, _ => exact hK.2 9 _ rfl
  | 18, _, h => exact absurd h (by decide)
  | 19, _, _ => exact hK.2 10 _ rfl
  | 20, _, h => exact absurd h (by decide)
  | 21, _, _ => exact hK.2 11 _ rfl
  | 22, _, h => exact absurd h (by decide)
  | 23, _, h => exact absurd h (by decide)
  | 24, _, _ => exact hK.2 13 _ rfl
  | 25, _, h => exact absurd h (by decide)
  | 26, _, _ => exact hK.2 12 _ rfl
  | 27, _, _ => exact hK.2 14 _ rfl
  | 28, _, _ => exact hK.2 15 _ rfl
  | 29, _, _ => exact hK.2 16 _ rfl
  | 30, _, _ => exact hK.2 17 _ rfl
  | 31, _, _ => exact hK.2 18 _ rfl
  | 32, _, h => exact absurd h (by decide)
  | 33, _, _ => exact hK.2 19 _ rfl
  | 34, _, _ => exact hK.2 20 _ rfl
  | 35, _, _ => exact hK.2 21 _ rfl
  | 36, _, _ => exact hK.2 22 _ rfl
  | 37, _, _ => exact hK.2 23 _ rfl
  | 38, _, _ => exact hK.2 24 _ rfl
  | 39, _, _ => exact hK.2 25 _ rfl
  | 40, _, _ => exact hK.2 26 _ rfl
  | 41, _, _ => exact hK.2 27 _ rfl
  | 42, _, _ => exact hK.2 28 _ rfl
  | 43, _, _ => exact hK.2 29 _ rfl
  | 44, _, _ => exact hK.2 30 _ rfl
  | 45, _, _ => exact hK.2 31 _ rfl
  | 46, _, _ => exact hK.2 32 _ rfl
  | 47, _, _ => exact hK.2 33 _ rfl
  | 48, _, _ => exact hK.2 34 _ rfl
  | 49, _, _ => exact hK.2 35 _ rfl
  | n + 50, h, _ => exact absurd h (by unfold NC; omega)
theorem ig_of {G : GG} {A : Nat → Prop} {M : Mem} (h : va_D A (wo G M)) : IG G := fun i j hi hj e => h.1 i j _ _ (wo_at hi) (wo_at hj) e
theorem ag_of {G : GG} {A : Nat → Prop} {M : Mem} (h : va_D A (wo G M)) : ∀ q, AG G q → A q := fun q ⟨i, hi, e⟩ => by rw [e]; exact h.2 i _ (wo_at hi)
theorem gW_K {hx0 hm0 : Nat} {ux um : (Nat → Nat) × (Nat → Nat)} {adK adV : Nat → Nat} {i : Nat} (hi : i < 5) : gW hx0 hm0 ux um adK adV (100 + i) = adK i := by
  show (if 100 + i < 50 then _ else if 100 + i < 110 then adK (100 + i - 100) else adV (100 + i - 110)) = adK i
  rw [if_neg (by omega), if_pos (by omega), show 100 + i - 100 = i by omega]
theorem gW_V {hx0 hm0 : Nat} {ux um : (Nat → Nat) × (Nat → Nat)} {adK adV : Nat → Nat} (i : Nat) : gW hx0 hm0 ux um adK adV (110 + i) = adV i := by
  show (if 110 + i < 50 then _ else if 110 + i < 110 then adK (110 + i - 100) else adV (110 + i - 110)) = adV i
  rw [if_neg (by omega), if_neg (by omega), show 110 + i - 110 = i by omega]
def smT (i : Nat) : Term := Term.string RX3 (sidx i)
theorem sm_ex : ∀ i, i < 5 → Cond.exactly (smT i) "java/lang/String" ∈ flatC (Jvm.Cond.and given_1 narrow_1) := by decide +kernel
theorem sm_co : ∀ i, i < 5 → Cond.eq (.field (smT i) "java/lang/String" "coder" "B") (.int 0) ∈ flatC (Jvm.Cond.and given_1 narrow_1) := by decide +kernel
theorem sm_ar : ∀ i, i < 5 → Cond.arrayOf (.field (smT i) "java/lang/String" "value" "[B") .byte ∈ flatC (Jvm.Cond.and given_1 narrow_1) := by decide +kernel
theorem sm_le : ∀ i, i < 5 → Cond.eq (.length (.field (smT i) "java/lang/String" "value" "[B")) (.int (Int32.ofNat (stl.getD i 0))) ∈ flatC (Jvm.Cond.and given_1 narrow_1) := by decide +kernel
theorem sm_el : ∀ i, i < 5 → ∀ j, j < stl.getD i 0 → Cond.eq (.elem (.field (smT i) "java/lang/String" "value" "[B") (.int (Int32.ofNat j))) (.int ((stx.getD i []).getD j 0)) ∈ flatC (Jvm.Cond.and given_1 narrow_1) := by decide +kernel
theorem sm_ne : ∀ i, i < 5 → ∀ j, j < 5 → i ≠ j → Cond.not (Cond.eq (smT i) (smT j)) ∈ flatC (Jvm.Cond.and given_1 narrow_1) ∨ Cond.not (Cond.eq (smT j) (smT i)) ∈ flatC (Jvm.Cond.and given_1 narrow_1) := by decide +kernel
theorem sm_cp : Cond.eq (Term.static "java/lang/String" "COMPACT_STRINGS" "Z") (Term.int 1) ∈ flatC (Jvm.Cond.and given_1 narrow_1) := by decide +kernel
theorem sm_si : Cond.isRef (Term.static "jdk/internal/util/Preconditions" "SIOOBE_FORMATTER" "Ljava/util/function/BiFunction;") ∈ flatC (Jvm.Cond.and given_1 narrow_1) := by decide +kernel
theorem sm_ref : ∀ i, i < 5 → Cond.stringRef RX3 (sidx i) (stt i) ∈ lw_tbl := by decide +kernel
theorem sm_l1 : Cond.laysStatic "java/lang/String" "COMPACT_STRINGS" "Z" ∈ lw_tbl ∧ Cond.initialized "java/lang/String" ∈ lw_tbl ∧ Cond.laysStatic "jdk/internal/util/Preconditions" "SIOOBE_FORMATTER" "Ljava/util/function/BiFunction;" ∈ lw_tbl ∧ Cond.initialized "jdk/internal/util/Preconditions" ∈ lw_tbl := by decide +kernel
theorem sm_ao : Cond.arrayOver (.object RX1) ∈ lw_tbl ∧ Cond.arrayOver (.object RX2) ∈ lw_tbl := by decide +kernel
