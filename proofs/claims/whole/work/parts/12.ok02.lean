set_option maxHeartbeats 4000000 in
set_option maxRecDepth 100000 in
theorem Pa_flip_L16_ok {X : XX} {G : GG} (C : Cx X G cX1_flip 4 RX1 1 23 none) {M' : Mem} (hQ : Rt X G none M') {k2 : Nat → Int32 → Mem → Option Mem} {k9 : Nat → Int32 → Int32 → Mem → Option Mem} (H2 : ∀ (v0 : Nat) (v1 : Int32) (M : Mem), isP v0 = true → k2 v0 v1 M = some M' → V X G 4 M 2 [some (.ref (G.2.1 v0)), some (.int v1), none, none] []) (H9 : ∀ (v0 : Nat) (v1 : Int32) (v2 : Int32) (M : Mem), isP v0 = true → k9 v0 v1 v2 M = some M' → V X G 4 M 9 [some (.ref (G.2.1 v0)), some (.int v1), some (.int v2), none] []) : ∀ (n : Nat) (v0 : Nat) (v1 : Int32) (v2 : Int32) (v3 : Int32) (M : Mem), isP v0 = true → Pa_flip_L16 k2 k9 n v0 v1 v2 v3 M = some M' → V X G 4 M 16 [some (.ref (G.2.1 v0)), some (.int v1), some (.int v2), some (.int v3)] [] := by
  intro n
  induction n with
  | zero =>
    intro v0 v1 v2 v3 M g0 h
    simp [Pa_flip_L16] at h
  | succ n ih =>
    intro v0 v1 v2 v3 M g0 h
    rw [Pa_flip_L16] at h
    refine v_iload_n C dX1_flip_16 rfl ?_
    refine v_iload_n C dX1_flip_17 rfl ?_
    refine v_icmp_ge (tgt := 43) C dX1_flip_18 (by decide) (fun q => ?_) (fun q => ?_)
    · replace h := hT q h
      refine v_iinc (v := 1) C dX1_flip_43 rfl (by decide) (by decide) rfl ?_
      refine v_goto (tgt := 9) C dX1_flip_46 (by decide) ?_
      exact v_weak [true, true, true, false] (H9 _ _ _ _ g0 h)
    · replace h := hF q h
      refine v_aload_n C dX1_flip_21 rfl ?_
      refine v_iload_n C dX1_flip_22 rfl ?_
      refine v_iload_n C dX1_flip_23 rfl ?_
      refine v_iload_n C dX1_flip_24 rfl ?_
      obtain ⟨r3, M1, c2, h⟩ := hB h
      refine v_callSi C (Pa_spot_ok (xl X) C.ig c2) ml_X1_49 mb_X1_spot ms_X1_spot rfl rfl (Nat.le_of_ble_eq_true rfl) (by decide) (by decide) dX1_flip_25 ?_
      refine v_iload_n C dX1_flip_28 rfl ?_
      refine v_iload_n C dX1_flip_29 rfl ?_
      refine v_iload_n C dX1_flip_30 rfl ?_
      obtain ⟨r6, M4, c5, h⟩ := hB h
      refine v_callSi C (Pa_spot_ok (xl X) C.ig c5) ml_X1_49 mb_X1_spot ms_X1_spot rfl rfl (Nat.le_of_ble_eq_true rfl) (by decide) (by decide) dX1_flip_31 ?_
      obtain ⟨M7, c8, h⟩ := hV h
      refine v_callVv C (Pa_exchangeSpots_ok (xl X) C.ig c8) ml_X1_78 mb_X1_exchangeSpots mv_X1_exchangeSpots g0 rfl rfl (Nat.le_of_ble_eq_true rfl) (by decide) (by decide) dX1_flip_34 ?_
      refine v_iinc (v := 1) C dX1_flip_37 rfl (by decide) (by decide) rfl ?_
      refine v_goto (tgt := 16) C dX1_flip_40 (by decide) ?_
      exact v_weak [true, true, true, true] (ih _ _ _ _ _ g0 h)
set_option maxHeartbeats 4000000 in
set_option maxRecDepth 100000 in
theorem Pa_flip_L9_ok {X : XX} {G : GG} (C : Cx X G cX1_flip 4 RX1 1 23 none) {M' : Mem} (hQ : Rt X G none M') {k2 : Nat → Int32 → Mem → Option Mem} (H2 : ∀ (v0 : Nat) (v1 : Int32) (M : Mem), isP v0 = true → k2 v0 v1 M = some M' → V X G 4 M 2 [some (.ref (G.2.1 v0)), some (.int v1), none, none] []) : ∀ (n : Nat) (v0 : Nat) (v1 : Int32) (v2 : Int32) (M : Mem), isP v0 = true → Pa_flip_L9 k2 n v0 v1 v2 M = some M' → V X G 4 M 9 [some (.ref (G.2.1 v0)), some (.int v1), some (.int v2), none] [] := by
  intro n
  induction n with
  | zero =>
    intro v0 v1 v2 M g0 h
    simp [Pa_flip_L9] at h
  | succ n ih =>
    intro v0 v1 v2 M g0 h
    rw [Pa_flip_L9] at h
    refine v_iload_n C dX1_flip_9 rfl ?_
    refine v_iconst (v := 4) C dX1_flip_10 (by decide) ?_
    refine v_icmp_ge (tgt := 49) C dX1_flip_11 (by decide) (fun q => ?_) (fun q => ?_)
    · replace h := hT q h
      refine v_iinc (v := 1) C dX1_flip_49 rfl (by decide) (by decide) rfl ?_
      refine v_goto (tgt := 2) C dX1_flip_52 (by decide) ?_
      exact v_weak [true, true, false, false] (H2 _ _ _ g0 h)
    · replace h := hF q h
      refine v_iconst (v := 0) C dX1_flip_14 (by decide) ?_
      refine v_istore_n C dX1_flip_15 (by decide) rfl ?_
      exact v_weak [true, true, true, true] (Pa_flip_L16_ok C hQ H2 ih _ _ _ _ _ _ g0 h)
set_option maxHeartbeats 4000000 in
set_option maxRecDepth 100000 in
theorem Pa_flip_L2_ok {X : XX} {G : GG} (C : Cx X G cX1_flip 4 RX1 1 23 none) {M' : Mem} (hQ : Rt X G none M')   : ∀ (n : Nat) (v0 : Nat) (v1 : Int32) (M : Mem), isP v0 = true → Pa_flip_L2 n v0 v1 M = some M' → V X G 4 M 2 [some (.ref (G.2.1 v0)), some (.int v1), none, none] [] := by
  intro n
  induction n with
  | zero =>
    intro v0 v1 M g0 h
    simp [Pa_flip_L2] at h
  | succ n ih =>
    intro v0 v1 M g0 h
    rw [Pa_flip_L2] at h
    refine v_iload_n C dX1_flip_2 rfl ?_
    refine v_iconst (v := 2) C dX1_flip_3 (by decide) ?_
    refine v_icmp_ge (tgt := 55) C dX1_flip_4 (by decide) (fun q => ?_) (fun q => ?_)
    · replace h := hT q h
      refine v_aload_n C dX1_flip_55 rfl ?_
      refine v_geti C fk_X1_25 (intP2 g0) dX1_flip_56 ?_
      refine v_istore_n C dX1_flip_59 (by decide) rfl ?_
      refine v_aload_n C dX1_flip_60 rfl ?_
      refine v_aload_n C dX1_flip_61 rfl ?_
      refine v_geti C fk_X1_28 (intP3 g0) dX1_flip_62 ?_
      refine v_puti C fk_X1_25 (intP2 g0) dX1_flip_65 ?_
      refine v_aload_n C dX1_flip_68 rfl ?_
      refine v_iload_n C dX1_flip_69 rfl ?_
      refine v_puti C fk_X1_28 (intP3 g0) dX1_flip_70 ?_
      obtain rfl := hRv h
      exact v_vret C hQ dX1_flip_73
    · replace h := hF q h
      refine v_iconst (v := 0) C dX1_flip_7 (by decide) ?_
      refine v_istore_n C dX1_flip_8 (by decide) rfl ?_
      exact v_weak [true, true, true, false] (Pa_flip_L9_ok C hQ ih _ _ _ _ _ g0 h)
set_option maxHeartbeats 4000000 in
set_option maxRecDepth 100000 in
theorem Pa_flip_ok (l : Launch) {G : GG} (hI : IG G) {M M' : Mem} {v0 : Nat} (h : Pa_flip v0 M = some M') : Sp l G yX1_flip cX1_flip 4 none 1 23 [.ref (G.2.1 v0)] M none M' := by
  unfold Pa_flip at h
  obtain ⟨g0, h⟩ := hG h
  refine sp_intro [some (.ref (G.2.1 v0)), none, none, none] hI (by decide) (Nat.le_of_ble_eq_true rfl) (fun _ hq => hq) (fun X _ C hQ => ?_)
  refine v_iconst (v := 0) C dX1_flip_0 (by decide) ?_
  refine v_istore_n C dX1_flip_1 (by decide) rfl ?_
  exact v_weak [true, true, false, false] (Pa_flip_L2_ok C hQ _ _ _ _ g0 h)
set_option maxHeartbeats 4000000 in
set_option maxRecDepth 100000 in
theorem Pa_shift_L2_ok {X : XX} {G : GG} (C : Cx X G cX1_shift 2 RX1 1 22 none) {M' : Mem} (hQ : Rt X G none M')   : ∀ (n : Nat) (v0 : Nat) (v1 : Int32) (M : Mem), isP v0 = true → Pa_shift_L2 n v0 v1 M = some M' → V X G 2 M 2 [some (.ref (G.2.1 v0)), some (.int v1)] [] := by
  intro n
  induction n with
  | zero =>
    intro v0 v1 M g0 h
    simp [Pa_shift_L2] at h
  | succ n ih =>
    intro v0 v1 M g0 h
    rw [Pa_shift_L2] at h
    refine v_iload_n C dX1_shift_2 rfl ?_
    refine v_bipush (v := 16) C dX1_shift_3 (by decide) ?_
    refine v_icmp_ge (tgt := 43) C dX1_shift_5 (by decide) (fun q => ?_) (fun q => ?_)
    · replace h := hT q h
      obtain rfl := hRv h
      exact v_vret C hQ dX1_shift_43
    · replace h := hF q h
      refine v_aload_n C dX1_shift_8 rfl ?_
      refine v_getr C fk_X1_11 (refP g0) dX1_shift_9 ?_
      refine v_iload_n C dX1_shift_12 rfl ?_
      refine v_aload_n C dX1_shift_13 rfl ?_
      refine v_getr C fk_X1_11 (refP g0) dX1_shift_14 ?_
      refine v_iload_n C dX1_shift_17 rfl ?_
      obtain ⟨q1, h⟩ := hG h
      refine v_iald C (arrP g0) q1 dX1_shift_18 ?_
      refine v_aload_n C dX1_shift_19 rfl ?_
      refine v_getr C fk_X1_11 (refP g0) dX1_shift_20 ?_
      refine v_bipush (v := 16) C dX1_shift_23 (by decide) ?_
      refine v_iload_n C dX1_shift_25 rfl ?_
      refine v_iadd C dX1_shift_26 ?_
      obtain ⟨q2, h⟩ := hG h
      refine v_iald C (arrP g0) q2 dX1_shift_27 ?_
      refine v_isub C dX1_shift_28 ?_
      refine v_aload_n C dX1_shift_29 rfl ?_
      refine v_geti C fk_X1_15 (intP1 g0) dX1_shift_30 ?_
      obtain ⟨r5, M3, c4, h⟩ := hB h
      refine v_callSi C (Pf_reduce_ok (xl X) C.ig c4) ml_X1_71 mb_X5_reduce ms_X5_reduce rfl rfl (Nat.le_of_ble_eq_true rfl) (by decide) (by decide) dX1_shift_33 ?_
      obtain ⟨q6, h⟩ := hG h
      refine v_iast C (arrP g0) q6 dX1_shift_36 ?_
      refine v_iinc (v := 1) C dX1_shift_37 rfl (by decide) (by decide) rfl ?_
      refine v_goto (tgt := 2) C dX1_shift_40 (by decide) ?_
      exact v_weak [true, true] (ih _ _ _ g0 h)
set_option maxHeartbeats 4000000 in
set_option maxRecDepth 100000 in
theorem Pa_shift_ok (l : Launch) {G : GG} (hI : IG G) {M M' : Mem} {v0 : Nat} (h : Pa_shift v0 M = some M') : Sp l G yX1_shift cX1_shift 2 none 1 22 [.ref (G.2.1 v0)] M none M' := by
  unfold Pa_shift at h
  obtain ⟨g0, h⟩ := hG h
  refine sp_intro [some (.ref (G.2.1 v0)), none] hI (by decide) (Nat.le_of_ble_eq_true rfl) (fun _ hq => hq) (fun X _ C hQ => ?_)
  refine v_iconst (v := 0) C dX1_shift_0 (by decide) ?_
  refine v_istore_n C dX1_shift_1 (by decide) rfl ?_
  exact v_weak [true, true] (Pa_shift_L2_ok C hQ _ _ _ _ g0 h)
set_option maxHeartbeats 4000000 in
set_option maxRecDepth 100000 in
theorem Pa_placesNotZero_b22_ok {X : XX} {G : GG} (C : Cx X G cX1_placesNotZero 3 RX1 0 0 (some .int)) {r : Int32} {M' : Mem} (hQ : Rt X G (some (.int r)) M') {k4 : Nat → Int32 → Int32 → Mem → Option (Int32 × Mem)} (H4 : ∀ (v0 : Nat) (v1 : Int32) (v2 : Int32) (M : Mem), isP v0 = true → k4 v0 v1 v2 M = some (r, M') → V X G 3 M 4 [some (.ref (G.2.1 v0)), some (.int v1), some (.int v2)] []) {v0 : Nat} {v1 : Int32} {v2 : Int32} {M : Mem} (g0 : isP v0 = true) (h : Pa_placesNotZero_b22 k4 v0 v1 v2 M = some (r, M')) : V X G 3 M 22 [some (.ref (G.2.1 v0)), some (.int v1), some (.int v2)] [] := by
  unfold Pa_placesNotZero_b22 at h
  refine v_iinc (v := 1) C dX1_placesNotZero_22 rfl (by decide) (by decide) rfl ?_
  refine v_goto (tgt := 4) C dX1_placesNotZero_25 (by decide) ?_
  exact v_weak [true, true, true] (H4 _ _ _ _ g0 h)
set_option maxHeartbeats 4000000 in
set_option maxRecDepth 100000 in
theorem Pa_placesNotZero_L4_ok {X : XX} {G : GG} (C : Cx X G cX1_placesNotZero 3 RX1 0 0 (some .int)) {r : Int32} {M' : Mem} (hQ : Rt X G (some (.int r)) M')   : ∀ (n : Nat) (v0 : Nat) (v1 : Int32) (v2 : Int32) (M : Mem), isP v0 = true → Pa_placesNotZero_L4 n v0 v1 v2 M = some (r, M') → V X G 3 M 4 [some (.ref (G.2.1 v0)), some (.int v1), some (.int v2)] [] := by
  intro n
  induction n with
  | zero =>
    intro v0 v1 v2 M g0 h
    simp [Pa_placesNotZero_L4] at h
  | succ n ih =>
    intro v0 v1 v2 M g0 h
    rw [Pa_placesNotZero_L4] at h
    refine v_iload_n C dX1_placesNotZero_4 rfl ?_
    refine v_bipush (v := 32) C dX1_placesNotZero_5 (by decide) ?_
    refine v_icmp_ge (tgt := 28) C dX1_placesNotZero_7 (by decide) (fun q => ?_) (fun q => ?_)
    · replace h := hT q h
      refine v_iload_n C dX1_placesNotZero_28 rfl ?_
      obtain ⟨rfl, rfl⟩ := hR h
      exact v_iret C hQ dX1_placesNotZero_29
    · replace h := hF q h
      refine v_aload_n C dX1_placesNotZero_10 rfl ?_
      refine v_getr C fk_X1_11 (refP g0) dX1_placesNotZero_11 ?_
      refine v_iload_n C dX1_placesNotZero_14 rfl ?_
      obtain ⟨q1, h⟩ := hG h
      refine v_iald C (arrP g0) q1 dX1_placesNotZero_15 ?_
      refine v_if_eq (tgt := 22) C dX1_placesNotZero_16 (by decide) (fun q => ?_) (fun q => ?_)
      · replace h := hT q h
        exact v_weak [true, true, true] (Pa_placesNotZero_b22_ok C hQ ih g0 h)
      · replace h := hF q h
        refine v_iinc (v := 1) C dX1_placesNotZero_19 rfl (by decide) (by decide) rfl ?_
        exact v_weak [true, true, true] (Pa_placesNotZero_b22_ok C hQ ih g0 h)
set_option maxHeartbeats 4000000 in
set_option maxRecDepth 100000 in
theorem Pa_placesNotZero_ok (l : Launch) {G : GG} (hI : IG G) {M M' : Mem} {v0 : Nat} {r : Int32} (h : Pa_placesNotZero v0 M = some (r, M')) : Sp l G yX1_placesNotZero cX1_placesNotZero 3 (some .int) 0 0 [.ref (G.2.1 v0)] M (some (.int r)) M' := by
  unfold Pa_placesNotZero at h
  obtain ⟨g0, h⟩ := hG h
  refine sp_intro [some (.ref (G.2.1 v0)), none, none] hI (by decide) (Nat.le_of_ble_eq_true rfl) (fun _ hq => hq) (fun X _ C hQ => ?_)
  refine v_iconst (v := 0) C dX1_placesNotZero_0 (by decide) ?_
  refine v_istore_n C dX1_placesNotZero_1 (by decide) rfl ?_
  refine v_iconst (v := 0) C dX1_placesNotZero_2 (by decide) ?_
  refine v_istore_n C dX1_placesNotZero_3 (by decide) rfl ?_
  exact v_weak [true, true, true] (Pa_placesNotZero_L4_ok C hQ _ _ _ _ _ g0 h)
set_option maxHeartbeats 4000000 in
set_option maxRecDepth 100000 in
theorem Pa_sumOf_L4_ok {X : XX} {G : GG} (C : Cx X G cX1_sumOf 4 RX1 0 0 (some .int)) {r : Int32} {M' : Mem} (hQ : Rt X G (some (.int r)) M')   : ∀ (n : Nat) (v0 : Nat) (v1 : Int32) (v2 : Int32) (v3 : Int32) (M : Mem), isP v0 = true → Pa_sumOf_L4 n v0 v1 v2 v3 M = some (r, M') → V X G 4 M 4 [some (.ref (G.2.1 v0)), some (.int v1), some (.int v2), some (.int v3)] [] := by
  intro n
  induction n with
  | zero =>
    intro v0 v1 v2 v3 M g0 h
    simp [Pa_sumOf_L4] at h
  | succ n ih =>
    intro v0 v1 v2 v3 M g0 h
    rw [Pa_sumOf_L4] at h
    refine v_iload_n C dX1_sumOf_4 rfl ?_
    refine v_bipush (v := 16) C dX1_sumOf_5 (by decide) ?_
    refine v_icmp_ge (tgt := 30) C dX1_sumOf_7 (by decide) (fun q => ?_) (fun q => ?_)
    · replace h := hT q h
      refine v_iload_n C dX1_sumOf_30 rfl ?_
      obtain ⟨rfl, rfl⟩ := hR h
      exact v_iret C hQ dX1_sumOf_31
    · replace h := hF q h
      refine v_iload_n C dX1_sumOf_10 rfl ?_
      refine v_aload_n C dX1_sumOf_11 rfl ?_
      refine v_getr C fk_X1_11 (refP g0) dX1_sumOf_12 ?_
      refine v_iload_n C dX1_sumOf_15 rfl ?_
      refine v_bipush (v := 16) C dX1_sumOf_16 (by decide) ?_
      refine v_imul C dX1_sumOf_18 ?_
      refine v_iload_n C dX1_sumOf_19 rfl ?_
      refine v_iadd C dX1_sumOf_20 ?_
      obtain ⟨q1, h⟩ := hG h
      refine v_iald C (arrP g0) q1 dX1_sumOf_21 ?_
      refine v_iadd C dX1_sumOf_22 ?_
      refine v_istore_n C dX1_sumOf_23 (by decide) rfl ?_
      refine v_iinc (v := 1) C dX1_sumOf_24 rfl (by decide) (by decide) rfl ?_
      refine v_goto (tgt := 4) C dX1_sumOf_27 (by decide) ?_
      exact v_weak [true, true, true, true] (ih _ _ _ _ _ g0 h)
set_option maxHeartbeats 4000000 in
set_option maxRecDepth 100000 in
theorem Pa_sumOf_ok (l : Launch) {G : GG} (hI : IG G) {M M' : Mem} {v0 : Nat} {v1 : Int32} {r : Int32} (h : Pa_sumOf v0 v1 M = some (r, M')) : Sp l G yX1_sumOf cX1_sumOf 4 (some .int) 0 0 [.ref (G.2.1 v0), .int v1] M (some (.int r)) M' := by
  unfold Pa_sumOf at h
  obtain ⟨g0, h⟩ := hG h
  refine sp_intro [some (.ref (G.2.1 v0)), some (.int v1), none, none] hI (by decide) (Nat.le_of_ble_eq_true rfl) (fun _ hq => hq) (fun X _ C hQ => ?_)
  refine v_iconst (v := 0) C dX1_sumOf_0 (by decide) ?_
  refine v_istore_n C dX1_sumOf_1 (by decide) rfl ?_
  refine v_iconst (v := 0) C dX1_sumOf_2 (by decide) ?_
  refine v_istore_n C dX1_sumOf_3 (by decide) rfl ?_
  exact v_weak [true, true, true, true] (Pa_sumOf_L4_ok C hQ _ _ _ _ _ _ g0 h)
set_option maxHeartbeats 4000000 in
set_option maxRecDepth 100000 in
theorem Se_isNothing_ok (l : Launch) {G : GG} (hI : IG G) {M M' : Mem} {v0 : Nat} {r : Int32} (h : Se_isNothing v0 M = some (r, M')) : Sp l G yX2_isNothing cX2_isNothing 1 (some .boolean) 0 0 [.ref (G.2.1 v0)] M (some (.int r)) M' := by
  unfold Se_isNothing at h
  obtain ⟨g0, h⟩ := hG h
  refine sp_intro [some (.ref (G.2.1 v0))] hI (by decide) (Nat.le_of_ble_eq_true rfl) (fun _ hq => hq) (fun X _ C hQ => ?_)
  refine v_aload_n C dX2_isNothing_0 rfl ?_
  refine v_geti C fk_X2_15 (intS2 g0) dX2_isNothing_1 ?_
  refine v_iconst (v := (-1)) C dX2_isNothing_4 (by decide) ?_
  refine v_icmp_ne (tgt := 12) C dX2_isNothing_5 (by decide) (fun q => ?_) (fun q => ?_)
  · replace h := hF q h
    refine v_iconst (v := 0) C dX2_isNothing_12 (by decide) ?_
    obtain ⟨rfl, rfl⟩ := hR h
    exact v_zret C hQ rfl dX2_isNothing_13
  · replace h := hT q h
    refine v_iconst (v := 1) C dX2_isNothing_8 (by decide) ?_
    refine v_goto (tgt := 13) C dX2_isNothing_9 (by decide) ?_
    obtain ⟨rfl, rfl⟩ := hR h
    exact v_zret C hQ rfl dX2_isNothing_13
set_option maxHeartbeats 4000000 in
set_option maxRecDepth 100000 in
theorem Se_makeNew_ok (l : Launch) {G : GG} (hI : IG G) {M M' : Mem} {v0 : Nat} {v1 : Int32} {v2 : Int32} (h : Se_makeNew v0 v1 v2 M = some M') : Sp l G yX2_makeNew cX2_makeNew 3 none 1 23 [.ref (G.2.1 v0), .int v1, .int v2] M none M' := by
  unfold Se_makeNew at h
  obtain ⟨g0, h⟩ := hG h
  refine sp_intro [some (.ref (G.2.1 v0)), some (.int v1), some (.int v2)] hI (by decide) (Nat.le_of_ble_eq_true rfl) (fun _ hq => hq) (fun X _ C hQ => ?_)
  refine v_aload_n C dX2_makeNew_0 rfl ?_
  refine v_getr C fk_X2_9 (refS g0) dX2_makeNew_1 ?_
  refine v_iconst (v := 0) C dX2_makeNew_4 (by decide) ?_
  obtain ⟨M1, c2, h⟩ := hV h
  refine v_callSv C (Ja_fill_ok (xl X) C.ig c2) ml_X2_19 mb_J7_fill_53178 ms_J7_fill_53178 rfl rfl (Nat.le_of_ble_eq_true rfl) (by decide) (by decide) dX2_makeNew_5 ?_
  refine v_aload_n C dX2_makeNew_8 rfl ?_
  refine v_iload_n C dX2_makeNew_9 rfl ?_
  refine v_puti C fk_X2_25 (intS1 g0) dX2_makeNew_10 ?_
  refine v_aload_n C dX2_makeNew_13 rfl ?_
  refine v_iload_n C dX2_makeNew_14 rfl ?_
  refine v_bipush (v := 40) C dX2_makeNew_15 (by decide) ?_
  refine v_mmin C (tT 677 (by decide +kernel) rfl) w_mmin (by decide) (Nat.le_of_ble_eq_true rfl) dX2_makeNew_17 ?_
  refine v_puti C fk_X2_15 (intS2 g0) dX2_makeNew_20 ?_
  obtain rfl := hRv h
  exact v_vret C hQ dX2_makeNew_23
set_option maxHeartbeats 4000000 in
set_option maxRecDepth 100000 in
theorem Se_findAt_ok (l : Launch) {G : GG} (hI : IG G) {M M' : Mem} {v0 : Nat} {v1 : Int32} {r : Int32} (h : Se_findAt v0 v1 M = some (r, M')) : Sp l G yX2_findAt cX2_findAt 2 (some .int) 1 20 [.ref (G.2.1 v0), .int v1] M (some (.int r)) M' := by
  unfold Se_findAt at h
  obtain ⟨g0, h⟩ := hG h
  refine sp_intro [some (.ref (G.2.1 v0)), some (.int v1)] hI (by decide) (Nat.le_of_ble_eq_true rfl) (fun _ hq => hq) (fun X _ C hQ => ?_)
  refine v_aload_n C dX2_findAt_0 rfl ?_
  obtain ⟨r3, M1, c2, h⟩ := hB h
  refine v_callVi C (Se_isNothing_ok (xl X) C.ig c2) ml_X2_34 mb_X2_isNothing mv_X2_isNothing g0 rfl rfl (Nat.le_of_ble_eq_true rfl) (by decide) (by decide) dX2_findAt_1 ?_
  refine v_if_eq (tgt := 9) C dX2_findAt_4 (by decide) (fun q => ?_) (fun q => ?_)
  · replace h := hT q h
    refine v_iload_n C dX2_findAt_9 rfl ?_
    refine v_if_lt (tgt := 21) C dX2_findAt_10 (by decide) (fun q => ?_) (fun q => ?_)
    · replace h := hT q h
      refine v_iconst (v := 2) C dX2_findAt_21 (by decide) ?_
      refine v_goto (tgt := 26) C dX2_findAt_22 (by decide) ?_
      obtain ⟨rfl, rfl⟩ := hR h
      exact v_iret C hQ dX2_findAt_26
    · replace h := hF q h
      refine v_iload_n C dX2_findAt_13 rfl ?_
      refine v_aload_n C dX2_findAt_14 rfl ?_
      refine v_geti C fk_X2_15 (intS2 g0) dX2_findAt_15 ?_
      refine v_icmp_lt (tgt := 25) C dX2_findAt_18 (by decide) (fun q => ?_) (fun q => ?_)
      · replace h := hT q h
        refine v_iconst (v := 0) C dX2_findAt_25 (by decide) ?_
        obtain ⟨rfl, rfl⟩ := hR h
        exact v_iret C hQ dX2_findAt_26
      · replace h := hF q h
        refine v_iconst (v := 2) C dX2_findAt_21 (by decide) ?_
        refine v_goto (tgt := 26) C dX2_findAt_22 (by decide) ?_
        obtain ⟨rfl, rfl⟩ := hR h
        exact v_iret C hQ dX2_findAt_26
  · replace h := hF q h
    refine v_iconst (v := 1) C dX2_findAt_7 (by decide) ?_
    obtain ⟨rfl, rfl⟩ := hR h
    exact v_iret C hQ dX2_findAt_8
set_option maxHeartbeats 4000000 in
set_option maxRecDepth 100000 in
theorem Se_findFour_ok (l : Launch) {G : GG} (hI : IG G) {M M' : Mem} {v0 : Nat} {v1 : Int32} {v2 : Int32} {r : Int32} (h : Se_findFour v0 v1 v2 M = some (r, M')) : Sp l G yX2_findFour cX2_findFour 3 (some .int) 1 20 [.ref (G.2.1 v0), .int v1, .int v2] M (some (.int r)) M' := by
  unfold Se_findFour at h
  obtain ⟨g0, h⟩ := hG h
  refine sp_intro [some (.ref (G.2.1 v0)), some (.int v1), some (.int v2)] hI (by decide) (Nat.le_of_ble_eq_true rfl) (fun _ hq => hq) (fun X _ C hQ => ?_)
  refine v_aload_n C dX2_findFour_0 rfl ?_
  obtain ⟨r3, M1, c2, h⟩ := hB h
  refine v_callVi C (Se_isNothing_ok (xl X) C.ig c2) ml_X2_34 mb_X2_isNothing mv_X2_isNothing g0 rfl rfl (Nat.le_of_ble_eq_true rfl) (by decide) (by decide) dX2_findFour_1 ?_
  refine v_if_eq (tgt := 9) C dX2_findFour_4 (by decide) (fun q => ?_) (fun q => ?_)
  · replace h := hT q h
    refine v_iload_n C dX2_findFour_9 rfl ?_
    refine v_aload_n C dX2_findFour_10 rfl ?_
    refine v_geti C fk_X2_25 (intS1 g0) dX2_findFour_11 ?_
    refine v_icmp_eq (tgt := 19) C dX2_findFour_14 (by decide) (fun q => ?_) (fun q => ?_)
    · replace h := hT q h
      refine v_iload_n C dX2_findFour_19 rfl ?_
      refine v_if_lt (tgt := 33) C dX2_findFour_20 (by decide) (fun q => ?_) (fun q => ?_)
      · replace h := hT q h
        refine v_iconst (v := 2) C dX2_findFour_33 (by decide) ?_
        refine v_goto (tgt := 38) C dX2_findFour_34 (by decide) ?_
        obtain ⟨rfl, rfl⟩ := hR h
        exact v_iret C hQ dX2_findFour_38
      · replace h := hF q h
        refine v_iload_n C dX2_findFour_23 rfl ?_
        refine v_aload_n C dX2_findFour_24 rfl ?_
        refine v_geti C fk_X2_15 (intS2 g0) dX2_findFour_25 ?_
        refine v_iconst (v := 4) C dX2_findFour_28 (by decide) ?_
        refine v_isub C dX2_findFour_29 ?_
        refine v_icmp_le (tgt := 37) C dX2_findFour_30 (by decide) (fun q => ?_) (fun q => ?_)
        · replace h := hT q h
          refine v_iconst (v := 0) C dX2_findFour_37 (by decide) ?_
          obtain ⟨rfl, rfl⟩ := hR h
          exact v_iret C hQ dX2_findFour_38
        · replace h := hF q h
          refine v_iconst (v := 2) C dX2_findFour_33 (by decide) ?_
          refine v_goto (tgt := 38) C dX2_findFour_34 (by decide) ?_
          obtain ⟨rfl, rfl⟩ := hR h
          exact v_iret C hQ dX2_findFour_38
    · replace h := hF q h
      refine v_iconst (v := 3) C dX2_findFour_17 (by decide) ?_
      obtain ⟨rfl, rfl⟩ := hR h
      exact v_iret C hQ dX2_findFour_18
  · replace h := hF q h
    refine v_iconst (v := 1) C dX2_findFour_7 (by decide) ?_
    obtain ⟨rfl, rfl⟩ := hR h
    exact v_iret C hQ dX2_findFour_8
set_option maxHeartbeats 4000000 in
set_option maxRecDepth 100000 in
theorem Se_cellAt_ok (l : Launch) {G : GG} (hI : IG G) {M M' : Mem} {v0 : Nat} {v1 : Int32} {r : Int32} (h : Se_cellAt v0 v1 M = some (r, M')) : Sp l G yX2_cellAt cX2_cellAt 2 (some .int) 2 41 [.ref (G.2.1 v0), .int v1] M (some (.int r)) M' := by
  unfold Se_cellAt at h
  obtain ⟨g0, h⟩ := hG h
  refine sp_intro [some (.ref (G.2.1 v0)), some (.int v1)] hI (by decide) (Nat.le_of_ble_eq_true rfl) (fun _ hq => hq) (fun X _ C hQ => ?_)
  refine v_aload_n C dX2_cellAt_0 rfl ?_
  refine v_iload_n C dX2_cellAt_1 rfl ?_
  obtain ⟨r3, M1, c2, h⟩ := hB h
  refine v_callVi C (Se_findAt_ok (xl X) C.ig c2) ml_X2_38 mb_X2_findAt mv_X2_findAt g0 rfl rfl (Nat.le_of_ble_eq_true rfl) (by decide) (by decide) dX2_cellAt_2 ?_
  refine v_if_ne (tgt := 17) C dX2_cellAt_5 (by decide) (fun q => ?_) (fun q => ?_)
  · replace h := hF q h
    refine v_iconst (v := 0) C dX2_cellAt_17 (by decide) ?_
    obtain ⟨rfl, rfl⟩ := hR h
    exact v_iret C hQ dX2_cellAt_18
  · replace h := hT q h
    refine v_aload_n C dX2_cellAt_8 rfl ?_
    refine v_getr C fk_X2_9 (refS g0) dX2_cellAt_9 ?_
    refine v_iload_n C dX2_cellAt_12 rfl ?_
    obtain ⟨q4, h⟩ := hG h
    refine v_iald C (arrS g0) q4 dX2_cellAt_13 ?_
    refine v_goto (tgt := 18) C dX2_cellAt_14 (by decide) ?_
    obtain ⟨rfl, rfl⟩ := hR h
    exact v_iret C hQ dX2_cellAt_18
set_option maxHeartbeats 4000000 in
set_option maxRecDepth 100000 in
theorem Se_putCell_b39_ok {X : XX} {G : GG} (C : Cx X G cX2_putCell 3 RX2 2 41 none) {M' : Mem} (hQ : Rt X G none M')   {s0 : Nat} {s1 : Int32} {s2 : Int32} {M : Mem} (gs0 : ga s0 10 40 = true) (h : Se_putCell_b39 s0 s1 s2 M = some M') : V X G 3 M 39 [none, none, none] [.int s2, .int s1, .ref (G.2.1 s0)] := by
  unfold Se_putCell_b39 at h
  obtain ⟨q1, h⟩ := hG h
  refine v_iast C (gs0) q1 dX2_putCell_39 ?_
  obtain rfl := hRv h
  exact v_vret C hQ dX2_putCell_40
set_option maxHeartbeats 4000000 in
set_option maxRecDepth 100000 in
theorem Se_putCell_ok (l : Launch) {G : GG} (hI : IG G) {M M' : Mem} {v0 : Nat} {v1 : Int32} {v2 : Int32} (h : Se_putCell v0 v1 v2 M = some M') : Sp l G yX2_putCell cX2_putCell 3 none 2 41 [.ref (G.2.1 v0), .int v1, .int v2] M none M' := by
  unfold Se_putCell at h
  obtain ⟨g0, h⟩ := hG h
  refine sp_intro [some (.ref (G.2.1 v0)), some (.int v1), some (.int v2)] hI (by decide) (Nat.le_of_ble_eq_true rfl) (fun _ hq => hq) (fun X _ C hQ => ?_)
  refine v_aload_n C dX2_putCell_0 rfl ?_
  refine v_iload_n C dX2_putCell_1 rfl ?_
  obtain ⟨r3, M1, c2, h⟩ := hB h
  refine v_callVi C (Se_findAt_ok (xl X) C.ig c2) ml_X2_38 mb_X2_findAt mv_X2_findAt g0 rfl rfl (Nat.le_of_ble_eq_true rfl) (by decide) (by decide) dX2_putCell_2 ?_
  refine v_if_ne (tgt := 40) C dX2_putCell_5 (by decide) (fun q => ?_) (fun q => ?_)
  · replace h := hF q h
    obtain rfl := hRv h
    exact v_vret C hQ dX2_putCell_40
  · replace h := hT q h
    refine v_aload_n C dX2_putCell_8 rfl ?_
    refine v_getr C fk_X2_9 (refS g0) dX2_putCell_9 ?_
    refine v_iload_n C dX2_putCell_12 rfl ?_
    refine v_aload_n C dX2_putCell_13 rfl ?_
    refine v_geti C fk_X2_25 (intS1 g0) dX2_putCell_14 ?_
    refine v_if_ne (tgt := 25) C dX2_putCell_17 (by decide) (fun q => ?_) (fun q => ?_)
    · replace h := hF q h
      refine v_aload_n C dX2_putCell_25 rfl ?_
      refine v_geti C fk_X2_25 (intS1 g0) dX2_putCell_26 ?_
      refine v_iconst (v := 1) C dX2_putCell_29 (by decide) ?_
      refine v_icmp_ne (tgt := 38) C dX2_putCell_30 (by decide) (fun q => ?_) (fun q => ?_)
      · replace h := hF q h
        refine v_iload_n C dX2_putCell_38 rfl ?_
        exact v_weak [false, false, false] (Se_putCell_b39_ok C hQ (arrS g0) h)
      · replace h := hT q h
        refine v_iload_n C dX2_putCell_33 rfl ?_
        refine v_i2s C dX2_putCell_34 ?_
        refine v_goto (tgt := 39) C dX2_putCell_35 (by decide) ?_
        exact v_weak [false, false, false] (Se_putCell_b39_ok C hQ (arrS g0) h)
    · replace h := hT q h
      refine v_iload_n C dX2_putCell_20 rfl ?_
      refine v_i2b C dX2_putCell_21 ?_
      refine v_goto (tgt := 39) C dX2_putCell_22 (by decide) ?_
      exact v_weak [false, false, false] (Se_putCell_b39_ok C hQ (arrS g0) h)
set_option maxHeartbeats 4000000 in
set_option maxRecDepth 100000 in
theorem Tr_addByte_ok (l : Launch) {G : GG} (hI : IG G) {M M' : Mem} {v1 : Int32} {r : Int32} (h : Tr_addByte v1 M = some (r, M')) : Sp l G yX3_addByte cX3_addByte 2 (some .boolean) 0 0 [.ref (G.2.1 1), .int v1] M (some (.int r)) M' := by
  unfold Tr_addByte at h
  refine sp_intro [some (.ref (G.2.1 1)), some (.int v1)] hI (by decide) (Nat.le_of_ble_eq_true rfl) (fun _ hq => hq) (fun X _ C hQ => ?_)
  refine v_aload_n C dX3_addByte_0 rfl ?_
  refine v_geti C fk_X3_22 rfl dX3_addByte_1 ?_
  refine v_sipush (v := 160) C dX3_addByte_4 (by decide) ?_
  refine v_icmp_lt (tgt := 12) C dX3_addByte_7 (by decide) (fun q => ?_) (fun q => ?_)
  · replace h := hT q h
    refine v_aload_n C dX3_addByte_12 rfl ?_
    refine v_getr (j := 2) C fk_X3_9 rfl dX3_addByte_13 ?_
    refine v_aload_n C dX3_addByte_16 rfl ?_
    refine v_geti C fk_X3_22 rfl dX3_addByte_17 ?_
    refine v_iload_n C dX3_addByte_20 rfl ?_
    refine v_i2b C dX3_addByte_21 ?_
    obtain ⟨q1, h⟩ := hG h
    refine v_bast C rfl q1 dX3_addByte_22 ?_
    refine v_aload_n C dX3_addByte_23 rfl ?_
    refine v_dup C dX3_addByte_24 rfl ?_
    refine v_geti C fk_X3_22 rfl dX3_addByte_25 ?_
    refine v_iconst (v := 1) C dX3_addByte_28 (by decide) ?_
    refine v_iadd C dX3_addByte_29 ?_
    refine v_puti C fk_X3_22 rfl dX3_addByte_30 ?_
    refine v_iconst (v := 1) C dX3_addByte_33 (by decide) ?_
    obtain ⟨rfl, rfl⟩ := hR h
    exact v_zret C hQ rfl dX3_addByte_34
  · replace h := hF q h
    refine v_iconst (v := 0) C dX3_addByte_10 (by decide) ?_
    obtain ⟨rfl, rfl⟩ := hR h
    exact v_zret C hQ rfl dX3_addByte_11
set_option maxHeartbeats 4000000 in
set_option maxRecDepth 100000 in
theorem Tr_endOfRun_L5_ok {X : XX} {G : GG} (C : Cx X G cX3_endOfRun 4 RX3 0 0 (some .int)) {r : Int32} {M' : Mem} (hQ : Rt X G (some (.int r)) M')   : ∀ (n : Nat) (v1 : Int32) (v2 : Int32) (v3 : Int32) (M : Mem), Tr_endOfRun_L5 n v1 v2 v3 M = some (r, M') → V X G 4 M 5 [some (.ref (G.2.1 1)), some (.int v1), some (.int v2), some (.int v3)] [] := by
  intro n
  induction n with
  | zero =>
    intro v1 v2 v3 M h
    simp [Tr_endOfRun_L5] at h
  | succ n ih =>
    intro v1 v2 v3 M h
    rw [Tr_endOfRun_L5] at h
    refine v_iload_n C dX3_endOfRun_5 rfl ?_
    refine v_aload_n C dX3_endOfRun_6 rfl ?_
    refine v_geti C fk_X3_22 rfl dX3_endOfRun_7 ?_
    refine v_icmp_ge (tgt := 39) C dX3_endOfRun_10 (by decide) (fun q => ?_) (fun q => ?_)
    · replace h := hT q h
      refine v_iload_n C dX3_endOfRun_39 rfl ?_
      obtain ⟨rfl, rfl⟩ := hR h
      exact v_iret C hQ dX3_endOfRun_40
    · replace h := hF q h
      refine v_aload_n C dX3_endOfRun_13 rfl ?_
      refine v_getr (j := 2) C fk_X3_9 rfl dX3_endOfRun_14 ?_
      refine v_iload_n C dX3_endOfRun_17 rfl ?_
      obtain ⟨q1, h⟩ := hG h
      refine v_bald C rfl q1 dX3_endOfRun_18 ?_
      refine v_iload_n C dX3_endOfRun_19 rfl ?_
      refine v_icmp_lt (tgt := 39) C dX3_endOfRun_20 (by decide) (fun q => ?_) (fun q => ?_)
      · replace h := hT q h
        refine v_iload_n C dX3_endOfRun_39 rfl ?_
        obtain ⟨rfl, rfl⟩ := hR h
        exact v_iret C hQ dX3_endOfRun_40
      · replace h := hF q h
        refine v_aload_n C dX3_endOfRun_23 rfl ?_
        refine v_getr (j := 2) C fk_X3_9 rfl dX3_endOfRun_24 ?_
        refine v_iload_n C dX3_endOfRun_27 rfl ?_
        obtain ⟨q2, h⟩ := hG h
        refine v_bald C rfl q2 dX3_endOfRun_28 ?_
        refine v_iload_n C dX3_endOfRun_29 rfl ?_
        refine v_icmp_gt (tgt := 39) C dX3_endOfRun_30 (by decide) (fun q => ?_) (fun q => ?_)
        · replace h := hT q h
          refine v_iload_n C dX3_endOfRun_39 rfl ?_
          obtain ⟨rfl, rfl⟩ := hR h
          exact v_iret C hQ dX3_endOfRun_40
        · replace h := hF q h
          refine v_iinc (v := 1) C dX3_endOfRun_33 rfl (by decide) (by decide) rfl ?_
          refine v_goto (tgt := 5) C dX3_endOfRun_36 (by decide) ?_
          exact v_weak [true, true, true, true] (ih _ _ _ _ h)
set_option maxHeartbeats 4000000 in
set_option maxRecDepth 100000 in
theorem Tr_endOfRun_ok (l : Launch) {G : GG} (hI : IG G) {M M' : Mem} {v1 : Int32} {v2 : Int32} {r : Int32} (h : Tr_endOfRun v1 v2 M = some (r, M')) : Sp l G yX3_endOfRun cX3_endOfRun 4 (some .int) 0 0 [.ref (G.2.1 1), .int v1, .int v2] M (some (.int r)) M' := by
  unfold Tr_endOfRun at h
  refine sp_intro [some (.ref (G.2.1 1)), some (.int v1), some (.int v2), none] hI (by decide) (Nat.le_of_ble_eq_true rfl) (fun _ hq => hq) (fun X _ C hQ => ?_)
  refine v_aload_n C dX3_endOfRun_0 rfl ?_
  refine v_geti C fk_X3_26 rfl dX3_endOfRun_1 ?_
  refine v_istore_n C dX3_endOfRun_4 (by decide) rfl ?_
  exact v_weak [true, true, true, true] (Tr_endOfRun_L5_ok C hQ _ _ _ _ _ h)
set_option maxHeartbeats 4000000 in
set_option maxRecDepth 100000 in
theorem Tr_takeNumber_L10_ok {X : XX} {G : GG} (C : Cx X G cX3_takeNumber 2 RX3 0 0 (some .boolean)) {r : Int32} {M' : Mem} (hQ : Rt X G (some (.int r)) M')   : ∀ (n : Nat) (v1 : Int32) (M : Mem), Tr_takeNumber_L10 n v1 M = some (r, M') → V X G 2 M 10 [some (.ref (G.2.1 1)), some (.int v1)] [] := by
  intro n
  induction n with
  | zero =>
    intro v1 M h
    simp [Tr_takeNumber_L10] at h
  | succ n ih =>
    intro v1 M h
    rw [Tr_takeNumber_L10] at h
    refine v_iload_n C dX3_takeNumber_10 rfl ?_
    refine v_aload_n C dX3_takeNumber_11 rfl ?_
    refine v_geti C fk_X3_26 rfl dX3_takeNumber_12 ?_
    refine v_icmp_ge (tgt := 45) C dX3_takeNumber_15 (by decide) (fun q => ?_) (fun q => ?_)
    · replace h := hT q h
      refine v_iconst (v := 1) C dX3_takeNumber_45 (by decide) ?_
      obtain ⟨rfl, rfl⟩ := hR h
      exact v_zret C hQ rfl dX3_takeNumber_46
    · replace h := hF q h
      refine v_aload_n C dX3_takeNumber_18 rfl ?_
      refine v_bipush (v := 10) C dX3_takeNumber_19 (by decide) ?_
      refine v_aload_n C dX3_takeNumber_21 rfl ?_
      refine v_geti C fk_X3_82 rfl dX3_takeNumber_22 ?_
      refine v_imul C dX3_takeNumber_25 ?_
      refine v_aload_n C dX3_takeNumber_26 rfl ?_
      refine v_getr (j := 2) C fk_X3_9 rfl dX3_takeNumber_27 ?_
      refine v_iload_n C dX3_takeNumber_30 rfl ?_
      obtain ⟨q1, h⟩ := hG h
      refine v_bald C rfl q1 dX3_takeNumber_31 ?_
      refine v_iadd C dX3_takeNumber_32 ?_
      refine v_bipush (v := 48) C dX3_takeNumber_33 (by decide) ?_
      refine v_isub C dX3_takeNumber_35 ?_
      refine v_puti C fk_X3_82 rfl dX3_takeNumber_36 ?_
      refine v_iinc (v := 1) C dX3_takeNumber_39 rfl (by decide) (by decide) rfl ?_
      refine v_goto (tgt := 10) C dX3_takeNumber_42 (by decide) ?_
      exact v_weak [true, true] (ih _ _ h)
set_option maxHeartbeats 4000000 in
set_option maxRecDepth 100000 in
theorem Tr_takeNumber_ok (l : Launch) {G : GG} (hI : IG G) {M M' : Mem}  {r : Int32} (h : Tr_takeNumber M = some (r, M')) : Sp l G yX3_takeNumber cX3_takeNumber 2 (some .boolean) 0 0 [.ref (G.2.1 1)] M (some (.int r)) M' := by
  unfold Tr_takeNumber at h
  refine sp_intro [some (.ref (G.2.1 1)), none] hI (by decide) (Nat.le_of_ble_eq_true rfl) (fun _ hq => hq) (fun X _ C hQ => ?_)
  refine v_aload_n C dX3_takeNumber_0 rfl ?_
  refine v_iconst (v := 0) C dX3_takeNumber_1 (by decide) ?_
  refine v_puti C fk_X3_82 rfl dX3_takeNumber_2 ?_
  refine v_aload_n C dX3_takeNumber_5 rfl ?_
  refine v_geti C fk_X3_69 rfl dX3_takeNumber_6 ?_
  refine v_istore_n C dX3_takeNumber_9 (by decide) rfl ?_
  exact v_weak [true, true] (Tr_takeNumber_L10_ok C hQ _ _ _ h)
set_option maxHeartbeats 4000000 in
set_option maxRecDepth 100000 in
theorem Tr_stopAt_ok (l : Launch) {G : GG} (hI : IG G) {M M' : Mem} {v1 : Int32} {v2 : Int32} {r : Int32} (h : Tr_stopAt v1 v2 M = some (r, M')) : Sp l G yX3_stopAt cX3_stopAt 3 (some .boolean) 0 0 [.ref (G.2.1 1), .int v1, .int v2] M (some (.int r)) M' := by
  unfold Tr_stopAt at h
  refine sp_intro [some (.ref (G.2.1 1)), some (.int v1), some (.int v2)] hI (by decide) (Nat.le_of_ble_eq_true rfl) (fun _ hq => hq) (fun X _ C hQ => ?_)
  refine v_aload_n C dX3_stopAt_0 rfl ?_
  refine v_iload_n C dX3_stopAt_1 rfl ?_
  refine v_puti C fk_X3_36 rfl dX3_stopAt_2 ?_
  refine v_aload_n C dX3_stopAt_5 rfl ?_
  refine v_iload_n C dX3_stopAt_6 rfl ?_
  refine v_puti C fk_X3_39 rfl dX3_stopAt_7 ?_
  refine v_iconst (v := 0) C dX3_stopAt_10 (by decide) ?_
  obtain ⟨rfl, rfl⟩ := hR h
  exact v_zret C hQ rfl dX3_stopAt_11
set_option maxHeartbeats 4000000 in
set_option maxRecDepth 100000 in
theorem Tr_readToken_b138_ok {X : XX} {G : GG} (C : Cx X G cX3_readToken 2 RX3 1 23 (some .boolean)) {r : Int32} {M' : Mem} (hQ : Rt X G (some (.int r)) M')   {v1 : Int32} {M : Mem}  (h : Tr_readToken_b138 v1 M = some (r, M')) : V X G 2 M 138 [some (.ref (G.2.1 1)), some (.int v1)] [] := by
  unfold Tr_readToken_b138 at h
  refine v_iload_n C dX3_readToken_138 rfl ?_
  refine v_bipush (v := 59) C dX3_readToken_139 (by decide) ?_
  refine v_icmp_ne (tgt := 161) C dX3_readToken_141 (by decide) (fun q => ?_) (fun q => ?_)
  · replace h := hF q h
    refine v_aload_n C dX3_readToken_161 rfl ?_
    refine v_iconst (v := 1) C dX3_readToken_162 (by decide) ?_
    refine v_aload_n C dX3_readToken_163 rfl ?_
    refine v_geti C fk_X3_69 rfl dX3_readToken_164 ?_
    obtain ⟨r3, M1, c2, h⟩ := hB h
    refine v_callVi C (Tr_stopAt_ok (xl X) C.ig c2) ml_X3_61 mb_X3_stopAt mv_X3_stopAt rfl rfl rfl (Nat.le_of_ble_eq_true rfl) (by decide) (by decide) dX3_readToken_167 ?_
    obtain ⟨q4, h⟩ := hG h
    obtain ⟨rfl, rfl⟩ := hR h
    exact v_zret C hQ q4 dX3_readToken_170
  · replace h := hT q h
    refine v_aload_n C dX3_readToken_144 rfl ?_
    refine v_iconst (v := 3) C dX3_readToken_145 (by decide) ?_
    refine v_puti C fk_X3_52 rfl dX3_readToken_146 ?_
    refine v_aload_n C dX3_readToken_149 rfl ?_
    refine v_dup C dX3_readToken_150 rfl ?_
    refine v_geti C fk_X3_26 rfl dX3_readToken_151 ?_
    refine v_iconst (v := 1) C dX3_readToken_154 (by decide) ?_
    refine v_iadd C dX3_readToken_155 ?_
    refine v_puti C fk_X3_26 rfl dX3_readToken_156 ?_
    refine v_iconst (v := 1) C dX3_readToken_159 (by decide) ?_
    obtain ⟨rfl, rfl⟩ := hR h
    exact v_zret C hQ rfl dX3_readToken_160
set_option maxHeartbeats 4000000 in
set_option maxRecDepth 100000 in
theorem Tr_readToken_b79_ok {X : XX} {G : GG} (C : Cx X G cX3_readToken 2 RX3 1 23 (some .boolean)) {r : Int32} {M' : Mem} (hQ : Rt X G (some (.int r)) M')   {v1 : Int32} {M : Mem}  (h : Tr_readToken_b79 v1 M = some (r, M')) : V X G 2 M 79 [some (.ref (G.2.1 1)), some (.int v1)] [] := by
  unfold Tr_readToken_b79 at h
  refine v_iload_n C dX3_readToken_79 rfl ?_
  refine v_bipush (v := 48) C dX3_readToken_80 (by decide) ?_
  refine v_icmp_lt (tgt := 138) C dX3_readToken_82 (by decide) (fun q => ?_) (fun q => ?_)
  · replace h := hT q h
    exact v_weak [true, true] (Tr_readToken_b138_ok C hQ h)
  · replace h := hF q h
    refine v_iload_n C dX3_readToken_85 rfl ?_
    refine v_bipush (v := 57) C dX3_readToken_86 (by decide) ?_
    refine v_icmp_gt (tgt := 138) C dX3_readToken_88 (by decide) (fun q => ?_) (fun q => ?_)
    · replace h := hT q h
      exact v_weak [true, true] (Tr_readToken_b138_ok C hQ h)
    · replace h := hF q h
      refine v_aload_n C dX3_readToken_91 rfl ?_
      refine v_iconst (v := 2) C dX3_readToken_92 (by decide) ?_
      refine v_puti C fk_X3_52 rfl dX3_readToken_93 ?_
      refine v_aload_n C dX3_readToken_96 rfl ?_
      refine v_aload_n C dX3_readToken_97 rfl ?_
      refine v_bipush (v := 48) C dX3_readToken_98 (by decide) ?_
      refine v_bipush (v := 57) C dX3_readToken_100 (by decide) ?_
      obtain ⟨r3, M1, c2, h⟩ := hB h
      refine v_callVi C (Tr_endOfRun_ok (xl X) C.ig c2) ml_X3_108 mb_X3_endOfRun mv_X3_endOfRun rfl rfl rfl (Nat.le_of_ble_eq_true rfl) (by decide) (by decide) dX3_readToken_102 ?_
      refine v_puti C fk_X3_26 rfl dX3_readToken_105 ?_
      refine v_aload_n C dX3_readToken_108 rfl ?_
      refine v_geti C fk_X3_26 rfl dX3_readToken_109 ?_
      refine v_aload_n C dX3_readToken_112 rfl ?_
      refine v_geti C fk_X3_69 rfl dX3_readToken_113 ?_
      refine v_isub C dX3_readToken_116 ?_
      refine v_iconst (v := 2) C dX3_readToken_117 (by decide) ?_
      refine v_icmp_gt (tgt := 128) C dX3_readToken_118 (by decide) (fun q => ?_) (fun q => ?_)
      · replace h := hT q h
        refine v_aload_n C dX3_readToken_128 rfl ?_
        refine v_iconst (v := 1) C dX3_readToken_129 (by decide) ?_
        refine v_aload_n C dX3_readToken_130 rfl ?_
        refine v_geti C fk_X3_69 rfl dX3_readToken_131 ?_
        obtain ⟨r6, M4, c5, h⟩ := hB h
        refine v_callVi C (Tr_stopAt_ok (xl X) C.ig c5) ml_X3_61 mb_X3_stopAt mv_X3_stopAt rfl rfl rfl (Nat.le_of_ble_eq_true rfl) (by decide) (by decide) dX3_readToken_134 ?_
        obtain ⟨q7, h⟩ := hG h
        obtain ⟨rfl, rfl⟩ := hR h
        exact v_zret C hQ q7 dX3_readToken_137
      · replace h := hF q h
        refine v_aload_n C dX3_readToken_121 rfl ?_
        obtain ⟨r10, M8, c9, h⟩ := hB h
        refine v_callVi C (Tr_takeNumber_ok (xl X) C.ig c9) ml_X3_112 mb_X3_takeNumber mv_X3_takeNumber rfl rfl rfl (Nat.le_of_ble_eq_true rfl) (by decide) (by decide) dX3_readToken_122 ?_
        refine v_goto (tgt := 137) C dX3_readToken_125 (by decide) ?_
        obtain ⟨q11, h⟩ := hG h
        obtain ⟨rfl, rfl⟩ := hR h
        exact v_zret C hQ q11 dX3_readToken_137
set_option maxHeartbeats 4000000 in
set_option maxRecDepth 100000 in
theorem Tr_readToken_ok (l : Launch) {G : GG} (hI : IG G) {M M' : Mem}  {r : Int32} (h : Tr_readToken M = some (r, M')) : Sp l G yX3_readToken cX3_readToken 2 (some .boolean) 1 23 [.ref (G.2.1 1)] M (some (.int r)) M' := by
  unfold Tr_readToken at h
  refine sp_intro [some (.ref (G.2.1 1)), none] hI (by decide) (Nat.le_of_ble_eq_true rfl) (fun _ hq => hq) (fun X _ C hQ => ?_)
  refine v_aload_n C dX3_readToken_0 rfl ?_
  refine v_aload_n C dX3_readToken_1 rfl ?_
  refine v_bipush (v := 32) C dX3_readToken_2 (by decide) ?_
  refine v_bipush (v := 32) C dX3_readToken_4 (by decide) ?_
  obtain ⟨r3, M1, c2, h⟩ := hB h
  refine v_callVi C (Tr_endOfRun_ok (xl X) C.ig c2) ml_X3_108 mb_X3_endOfRun mv_X3_endOfRun rfl rfl rfl (Nat.le_of_ble_eq_true rfl) (by decide) (by decide) dX3_readToken_6 ?_
  refine v_puti C fk_X3_26 rfl dX3_readToken_9 ?_
  refine v_aload_n C dX3_readToken_12 rfl ?_
  refine v_aload_n C dX3_readToken_13 rfl ?_
  refine v_geti C fk_X3_26 rfl dX3_readToken_14 ?_
  refine v_puti C fk_X3_69 rfl dX3_readToken_17 ?_
  refine v_aload_n C dX3_readToken_20 rfl ?_
  refine v_geti C fk_X3_26 rfl dX3_readToken_21 ?_
  refine v_aload_n C dX3_readToken_24 rfl ?_
  refine v_geti C fk_X3_22 rfl dX3_readToken_25 ?_
  refine v_icmp_lt (tgt := 38) C dX3_readToken_28 (by decide) (fun q => ?_) (fun q => ?_)
  · replace h := hT q h
    refine v_aload_n C dX3_readToken_38 rfl ?_
    refine v_getr (j := 2) C fk_X3_9 rfl dX3_readToken_39 ?_
    refine v_aload_n C dX3_readToken_42 rfl ?_
    refine v_geti C fk_X3_26 rfl dX3_readToken_43 ?_
    obtain ⟨q4, h⟩ := hG h
    refine v_bald C rfl q4 dX3_readToken_46 ?_
    refine v_istore_n C dX3_readToken_47 (by decide) rfl ?_
    refine v_iload_n C dX3_readToken_48 rfl ?_
    refine v_bipush (v := 97) C dX3_readToken_49 (by decide) ?_
    refine v_icmp_lt (tgt := 79) C dX3_readToken_51 (by decide) (fun q => ?_) (fun q => ?_)
    · replace h := hT q h
      exact v_weak [true, true] (Tr_readToken_b79_ok C hQ h)
    · replace h := hF q h
      refine v_iload_n C dX3_readToken_54 rfl ?_
      refine v_bipush (v := 122) C dX3_readToken_55 (by decide) ?_
      refine v_icmp_gt (tgt := 79) C dX3_readToken_57 (by decide) (fun q => ?_) (fun q => ?_)
      · replace h := hT q h
        exact v_weak [true, true] (Tr_readToken_b79_ok C hQ h)
      · replace h := hF q h
        refine v_aload_n C dX3_readToken_60 rfl ?_
        refine v_iconst (v := 1) C dX3_readToken_61 (by decide) ?_
        refine v_puti C fk_X3_52 rfl dX3_readToken_62 ?_
        refine v_aload_n C dX3_readToken_65 rfl ?_
        refine v_aload_n C dX3_readToken_66 rfl ?_
        refine v_bipush (v := 97) C dX3_readToken_67 (by decide) ?_
        refine v_bipush (v := 122) C dX3_readToken_69 (by decide) ?_
        obtain ⟨r7, M5, c6, h⟩ := hB h
        refine v_callVi C (Tr_endOfRun_ok (xl X) C.ig c6) ml_X3_108 mb_X3_endOfRun mv_X3_endOfRun rfl rfl rfl (Nat.le_of_ble_eq_true rfl) (by decide) (by decide) dX3_readToken_71 ?_
        refine v_puti C fk_X3_26 rfl dX3_readToken_74 ?_
        refine v_iconst (v := 1) C dX3_readToken_77 (by decide) ?_
        obtain ⟨rfl, rfl⟩ := hR h
        exact v_zret C hQ rfl dX3_readToken_78
  · replace h := hF q h
    refine v_aload_n C dX3_readToken_31 rfl ?_
    refine v_iconst (v := 0) C dX3_readToken_32 (by decide) ?_
    refine v_puti C fk_X3_52 rfl dX3_readToken_33 ?_
    refine v_iconst (v := 1) C dX3_readToken_36 (by decide) ?_
    obtain ⟨rfl, rfl⟩ := hR h
    exact v_zret C hQ rfl dX3_readToken_37
set_option maxHeartbeats 4000000 in
set_option maxRecDepth 100000 in
theorem Tr_nameIs_L20_ok {X : XX} {G : GG} (C : Cx X G cX3_nameIs 3 RX3 4 85 (some .boolean)) {r : Int32} {M' : Mem} (hQ : Rt X G (some (.int r)) M')   : ∀ (n : Nat) (v1 : Nat) (v2 : Int32) (M : Mem), isT v1 = true → Tr_nameIs_L20 n v1 v2 M = some (r, M') → V X G 3 M 20 [some (.ref (G.2.1 1)), some (.ref (G.2.1 v1)), some (.int v2)] [] := by
  intro n
  induction n with
  | zero =>
    intro v1 v2 M g1 h
    simp [Tr_nameIs_L20] at h
  | succ n ih =>
    intro v1 v2 M g1 h
    rw [Tr_nameIs_L20] at h
    refine v_iload_n C dX3_nameIs_20 rfl ?_
    refine v_aload_n C dX3_nameIs_21 rfl ?_
    refine v_slen C g1 ml_X3_128 (by decide) (by decide) (Nat.le_of_ble_eq_true rfl) dX3_nameIs_22 ?_
    refine v_icmp_ge (tgt := 55) C dX3_nameIs_25 (by decide) (fun q => ?_) (fun q => ?_)
    · replace h := hT q h
      refine v_iconst (v := 1) C dX3_nameIs_55 (by decide) ?_
      obtain ⟨rfl, rfl⟩ := hR h
      exact v_zret C hQ rfl dX3_nameIs_56
    · replace h := hF q h
      refine v_aload_n C dX3_nameIs_28 rfl ?_
      refine v_getr (j := 2) C fk_X3_9 rfl dX3_nameIs_29 ?_
      refine v_aload_n C dX3_nameIs_32 rfl ?_
      refine v_geti C fk_X3_69 rfl dX3_nameIs_33 ?_
      refine v_iload_n C dX3_nameIs_36 rfl ?_
      refine v_iadd C dX3_nameIs_37 ?_
      obtain ⟨q1, h⟩ := hG h
      refine v_bald C rfl q1 dX3_nameIs_38 ?_
      refine v_aload_n C dX3_nameIs_39 rfl ?_
      refine v_iload_n C dX3_nameIs_40 rfl ?_
      obtain ⟨q2, h⟩ := hG h
      refine v_scha C g1 q2 ml_X3_133 (by decide) (by decide) (Nat.le_of_ble_eq_true rfl) dX3_nameIs_41 ?_
      refine v_icmp_eq (tgt := 49) C dX3_nameIs_44 (by decide) (fun q => ?_) (fun q => ?_)
      · replace h := hT q h
        refine v_iinc (v := 1) C dX3_nameIs_49 rfl (by decide) (by decide) rfl ?_
        refine v_goto (tgt := 20) C dX3_nameIs_52 (by decide) ?_
        exact v_weak [true, true, true] (ih _ _ _ g1 h)
      · replace h := hF q h
        refine v_iconst (v := 0) C dX3_nameIs_47 (by decide) ?_
        obtain ⟨rfl, rfl⟩ := hR h
        exact v_zret C hQ rfl dX3_nameIs_48
set_option maxHeartbeats 4000000 in
set_option maxRecDepth 100000 in
theorem Tr_nameIs_ok (l : Launch) {G : GG} (hI : IG G) {M M' : Mem} {v1 : Nat} {r : Int32} (h : Tr_nameIs v1 M = some (r, M')) : Sp l G yX3_nameIs cX3_nameIs 3 (some .boolean) 4 85 [.ref (G.2.1 1), .ref (G.2.1 v1)] M (some (.int r)) M' := by
  unfold Tr_nameIs at h
  obtain ⟨g1, h⟩ := hG h
  refine sp_intro [some (.ref (G.2.1 1)), some (.ref (G.2.1 v1)), none] hI (by decide) (Nat.le_of_ble_eq_true rfl) (fun _ hq => hq) (fun X _ C hQ => ?_)
  refine v_aload_n C dX3_nameIs_0 rfl ?_
  refine v_geti C fk_X3_26 rfl dX3_nameIs_1 ?_
  refine v_aload_n C dX3_nameIs_4 rfl ?_
  refine v_geti C fk_X3_69 rfl dX3_nameIs_5 ?_
  refine v_isub C dX3_nameIs_8 ?_
  refine v_aload_n C dX3_nameIs_9 rfl ?_
  refine v_slen C g1 ml_X3_128 (by decide) (by decide) (Nat.le_of_ble_eq_true rfl) dX3_nameIs_10 ?_
  refine v_icmp_eq (tgt := 18) C dX3_nameIs_13 (by decide) (fun q => ?_) (fun q => ?_)
  · replace h := hT q h
    refine v_iconst (v := 0) C dX3_nameIs_18 (by decide) ?_
    refine v_istore_n C dX3_nameIs_19 (by decide) rfl ?_
    exact v_weak [true, true, true] (Tr_nameIs_L20_ok C hQ _ _ _ _ g1 h)
  · replace h := hF q h
    refine v_iconst (v := 0) C dX3_nameIs_16 (by decide) ?_
    obtain ⟨rfl, rfl⟩ := hR h
    exact v_zret C hQ rfl dX3_nameIs_17
set_option maxHeartbeats 4000000 in
set_option maxRecDepth 100000 in
theorem Tr_lineOfName_ok (l : Launch) {G : GG} (hI : IG G) {M M' : Mem}  {r : Int32} (h : Tr_lineOfName M = some (r, M')) : Sp l G yX3_lineOfName cX3_lineOfName 1 (some .int) 5 107 [.ref (G.2.1 1)] M (some (.int r)) M' := by
  unfold Tr_lineOfName at h
  refine sp_intro [some (.ref (G.2.1 1))] hI (by decide) (Nat.le_of_ble_eq_true rfl) (fun _ hq => hq) (fun X _ C hQ => ?_)
  refine v_aload_n C dX3_lineOfName_0 rfl ?_
  refine v_ldcs (i := 0) C (by decide) rfl dX3_lineOfName_1 ?_
  obtain ⟨r3, M1, c2, h⟩ := hB h
  refine v_callVi C (Tr_nameIs_ok (xl X) C.ig c2) ml_X3_116 mb_X3_nameIs mv_X3_nameIs rfl rfl rfl (Nat.le_of_ble_eq_true rfl) (by decide) (by decide) dX3_lineOfName_3 ?_
  refine v_if_eq (tgt := 11) C dX3_lineOfName_6 (by decide) (fun q => ?_) (fun q => ?_)
  · replace h := hT q h
    refine v_aload_n C dX3_lineOfName_11 rfl ?_
    refine v_ldcs (i := 1) C (by decide) rfl dX3_lineOfName_12 ?_
    obtain ⟨r6, M4, c5, h⟩ := hB h
    refine v_callVi C (Tr_nameIs_ok (xl X) C.ig c5) ml_X3_116 mb_X3_nameIs mv_X3_nameIs rfl rfl rfl (Nat.le_of_ble_eq_true rfl) (by decide) (by decide) dX3_lineOfName_14 ?_
    refine v_if_eq (tgt := 22) C dX3_lineOfName_17 (by decide) (fun q => ?_) (fun q => ?_)
    · replace h := hT q h
      refine v_aload_n C dX3_lineOfName_22 rfl ?_
      refine v_ldcs (i := 2) C (by decide) rfl dX3_lineOfName_23 ?_
      obtain ⟨r9, M7, c8, h⟩ := hB h
      refine v_callVi C (Tr_nameIs_ok (xl X) C.ig c8) ml_X3_116 mb_X3_nameIs mv_X3_nameIs rfl rfl rfl (Nat.le_of_ble_eq_true rfl) (by decide) (by decide) dX3_lineOfName_25 ?_
      refine v_if_eq (tgt := 33) C dX3_lineOfName_28 (by decide) (fun q => ?_) (fun q => ?_)
      · replace h := hT q h
        refine v_aload_n C dX3_lineOfName_33 rfl ?_
        refine v_ldcs (i := 3) C (by decide) rfl dX3_lineOfName_34 ?_
        obtain ⟨r12, M10, c11, h⟩ := hB h
        refine v_callVi C (Tr_nameIs_ok (xl X) C.ig c11) ml_X3_116 mb_X3_nameIs mv_X3_nameIs rfl rfl rfl (Nat.le_of_ble_eq_true rfl) (by decide) (by decide) dX3_lineOfName_36 ?_
        refine v_if_eq (tgt := 44) C dX3_lineOfName_39 (by decide) (fun q => ?_) (fun q => ?_)
        · replace h := hT q h
          refine v_aload_n C dX3_lineOfName_44 rfl ?_
          refine v_ldcs (i := 4) C (by decide) rfl dX3_lineOfName_45 ?_
          obtain ⟨r15, M13, c14, h⟩ := hB h
          refine v_callVi C (Tr_nameIs_ok (xl X) C.ig c14) ml_X3_116 mb_X3_nameIs mv_X3_nameIs rfl rfl rfl (Nat.le_of_ble_eq_true rfl) (by decide) (by decide) dX3_lineOfName_47 ?_
          refine v_if_eq (tgt := 57) C dX3_lineOfName_50 (by decide) (fun q => ?_) (fun q => ?_)
          · replace h := hT q h
            refine v_iconst (v := 0) C dX3_lineOfName_57 (by decide) ?_
            obtain ⟨rfl, rfl⟩ := hR h
            exact v_iret C hQ dX3_lineOfName_58
          · replace h := hF q h
            refine v_iconst (v := 5) C dX3_lineOfName_53 (by decide) ?_
            refine v_goto (tgt := 58) C dX3_lineOfName_54 (by decide) ?_
            obtain ⟨rfl, rfl⟩ := hR h
            exact v_iret C hQ dX3_lineOfName_58
        · replace h := hF q h
          refine v_iconst (v := 4) C dX3_lineOfName_42 (by decide) ?_
          obtain ⟨rfl, rfl⟩ := hR h
          exact v_iret C hQ dX3_lineOfName_43
      · replace h := hF q h
        refine v_iconst (v := 3) C dX3_lineOfName_31 (by decide) ?_
        obtain ⟨rfl, rfl⟩ := hR h
        exact v_iret C hQ dX3_lineOfName_32
    · replace h := hF q h
      refine v_iconst (v := 2) C dX3_lineOfName_20 (by decide) ?_
      obtain ⟨rfl, rfl⟩ := hR h
      exact v_iret C hQ dX3_lineOfName_21
  · replace h := hF q h
    refine v_iconst (v := 1) C dX3_lineOfName_9 (by decide) ?_
    obtain ⟨rfl, rfl⟩ := hR h
    exact v_iret C hQ dX3_lineOfName_10
