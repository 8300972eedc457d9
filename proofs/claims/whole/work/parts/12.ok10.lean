set_option maxHeartbeats 4000000 in
set_option maxRecDepth 100000 in
theorem Mo_dimension_ok (l : Launch) {G : GG} (hI : IG G) {M M' : Mem}  {r : Int32} (h : Mo_dimension M = some (r, M')) : Sp l G yX6_dimension cX6_dimension 1 (some .int) 3 71 [.ref (G.2.1 32)] M (some (.int r)) M' := by
  unfold Mo_dimension at h
  refine sp_intro [some (.ref (G.2.1 32))] hI (by decide) (Nat.le_of_ble_eq_true rfl) (fun _ hq => hq) (fun X _ C hQ => ?_)
  refine v_aload_n C dX6_dimension_0 rfl ?_
  refine v_geti C fk_X6_163 rfl dX6_dimension_1 ?_
  refine v_aload_n C dX6_dimension_4 rfl ?_
  refine v_aload_n C dX6_dimension_5 rfl ?_
  refine v_geti C fk_X6_163 rfl dX6_dimension_6 ?_
  obtain ⟨r3, M1, c2, h⟩ := hB h
  refine v_callVi C (Mo_rankOf_ok (xl X) C.ig c2) ml_X6_185 mb_X6_rankOf mv_X6_rankOf rfl rfl rfl (Nat.le_of_ble_eq_true rfl) (by decide) (by decide) dX6_dimension_9 ?_
  refine v_isub C dX6_dimension_12 ?_
  obtain ⟨rfl, rfl⟩ := hR h
  exact v_iret C hQ dX6_dimension_13
set_option maxHeartbeats 4000000 in
set_option maxRecDepth 100000 in
theorem Mo_nullsOf_b47_ok {X : XX} {G : GG} (C : Cx X G cX6_nullsOf 3 RX6 4 91 (some .int)) {r : Int32} {M' : Mem} (hQ : Rt X G (some (.int r)) M') {k18 : Int32 → Int32 → Mem → Option (Int32 × Mem)} (H18 : ∀ (v1 : Int32) (v2 : Int32) (M : Mem), k18 v1 v2 M = some (r, M') → V X G 3 M 18 [some (.ref (G.2.1 32)), some (.int v1), some (.int v2)] []) {v1 : Int32} {v2 : Int32} {s1 : Int32} {s2 : Int32} {s3 : Int32} {s4 : Int32} {M : Mem}  (h : Mo_nullsOf_b47 k18 v1 v2 s1 s2 s3 s4 M = some (r, M')) : V X G 3 M 47 [some (.ref (G.2.1 32)), some (.int v1), some (.int v2)] [.int s4, .int s3, .int s2, .int s1, .ref (G.2.1 32)] := by
  unfold Mo_nullsOf_b47 at h
  obtain ⟨M1, c2, h⟩ := hV h
  refine v_callVv C (Mo_adds_ok (xl X) C.ig c2) ml_X6_191 mb_X6_adds mv_X6_adds rfl rfl rfl (Nat.le_of_ble_eq_true rfl) (by decide) (by decide) dX6_nullsOf_47 ?_
  refine v_iinc (v := 1) C dX6_nullsOf_50 rfl (by decide) (by decide) rfl ?_
  refine v_goto (tgt := 18) C dX6_nullsOf_53 (by decide) ?_
  exact v_weak [true, true, true] (H18 _ _ _ h)
set_option maxHeartbeats 4000000 in
set_option maxRecDepth 100000 in
theorem Mo_nullsOf_L18_ok {X : XX} {G : GG} (C : Cx X G cX6_nullsOf 3 RX6 4 91 (some .int)) {r : Int32} {M' : Mem} (hQ : Rt X G (some (.int r)) M')   : ∀ (n : Nat) (v1 : Int32) (v2 : Int32) (M : Mem), Mo_nullsOf_L18 n v1 v2 M = some (r, M') → V X G 3 M 18 [some (.ref (G.2.1 32)), some (.int v1), some (.int v2)] [] := by
  intro n
  induction n with
  | zero =>
    intro v1 v2 M h
    simp [Mo_nullsOf_L18] at h
  | succ n ih =>
    intro v1 v2 M h
    rw [Mo_nullsOf_L18] at h
    refine v_iload_n C dX6_nullsOf_18 rfl ?_
    refine v_iload_n C dX6_nullsOf_19 rfl ?_
    refine v_icmp_gt (tgt := 56) C dX6_nullsOf_20 (by decide) (fun q => ?_) (fun q => ?_)
    · replace h := hT q h
      refine v_aload_n C dX6_nullsOf_56 rfl ?_
      obtain ⟨r3, M1, c2, h⟩ := hB h
      refine v_callVi C (Mo_dimension_ok (xl X) C.ig c2) ml_X6_194 mb_X6_dimension mv_X6_dimension rfl rfl rfl (Nat.le_of_ble_eq_true rfl) (by decide) (by decide) dX6_nullsOf_57 ?_
      obtain ⟨rfl, rfl⟩ := hR h
      exact v_iret C hQ dX6_nullsOf_60
    · replace h := hF q h
      refine v_aload_n C dX6_nullsOf_23 rfl ?_
      refine v_iload_n C dX6_nullsOf_24 rfl ?_
      refine v_iload_n C dX6_nullsOf_25 rfl ?_
      refine v_iconst (v := 1) C dX6_nullsOf_26 (by decide) ?_
      refine v_iconst (v := 0) C dX6_nullsOf_27 (by decide) ?_
      obtain ⟨M4, c5, h⟩ := hV h
      refine v_callVv C (Mo_adds_ok (xl X) C.ig c5) ml_X6_191 mb_X6_adds mv_X6_adds rfl rfl rfl (Nat.le_of_ble_eq_true rfl) (by decide) (by decide) dX6_nullsOf_28 ?_
      refine v_aload_n C dX6_nullsOf_31 rfl ?_
      refine v_iload_n C dX6_nullsOf_32 rfl ?_
      refine v_iconst (v := 1) C dX6_nullsOf_33 (by decide) ?_
      refine v_iadd C dX6_nullsOf_34 ?_
      refine v_iload_n C dX6_nullsOf_35 rfl ?_
      refine v_iconst (v := 0) C dX6_nullsOf_36 (by decide) ?_
      refine v_iload_n C dX6_nullsOf_37 rfl ?_
      refine v_iload_n C dX6_nullsOf_38 rfl ?_
      refine v_icmp_ne (tgt := 46) C dX6_nullsOf_39 (by decide) (fun q => ?_) (fun q => ?_)
      · replace h := hF q h
        refine v_iconst (v := (-1)) C dX6_nullsOf_46 (by decide) ?_
        exact v_weak [true, true, true] (Mo_nullsOf_b47_ok C hQ ih h)
      · replace h := hT q h
        refine v_iconst (v := 1) C dX6_nullsOf_42 (by decide) ?_
        refine v_goto (tgt := 47) C dX6_nullsOf_43 (by decide) ?_
        exact v_weak [true, true, true] (Mo_nullsOf_b47_ok C hQ ih h)
set_option maxHeartbeats 4000000 in
set_option maxRecDepth 100000 in
theorem Mo_nullsOf_ok (l : Launch) {G : GG} (hI : IG G) {M M' : Mem} {v1 : Int32} {r : Int32} (h : Mo_nullsOf v1 M = some (r, M')) : Sp l G yX6_nullsOf cX6_nullsOf 3 (some .int) 4 91 [.ref (G.2.1 32), .int v1] M (some (.int r)) M' := by
  unfold Mo_nullsOf at h
  refine sp_intro [some (.ref (G.2.1 32)), some (.int v1), none] hI (by decide) (Nat.le_of_ble_eq_true rfl) (fun _ hq => hq) (fun X _ C hQ => ?_)
  refine v_iload_n C dX6_nullsOf_0 rfl ?_
  refine v_if_ge (tgt := 6) C dX6_nullsOf_1 (by decide) (fun q => ?_) (fun q => ?_)
  · replace h := hT q h
    refine v_aload_n C dX6_nullsOf_6 rfl ?_
    refine v_iload_n C dX6_nullsOf_7 rfl ?_
    refine v_iconst (v := 2) C dX6_nullsOf_8 (by decide) ?_
    refine v_iadd C dX6_nullsOf_9 ?_
    refine v_iload_n C dX6_nullsOf_10 rfl ?_
    refine v_iconst (v := 1) C dX6_nullsOf_11 (by decide) ?_
    refine v_iadd C dX6_nullsOf_12 ?_
    obtain ⟨M1, c2, h⟩ := hV h
    refine v_callVv C (Mo_startsLarge_ok (xl X) C.ig c2) ml_X6_188 mb_X6_startsLarge mv_X6_startsLarge rfl rfl rfl (Nat.le_of_ble_eq_true rfl) (by decide) (by decide) dX6_nullsOf_13 ?_
    refine v_iconst (v := 0) C dX6_nullsOf_16 (by decide) ?_
    refine v_istore_n C dX6_nullsOf_17 (by decide) rfl ?_
    exact v_weak [true, true, true] (Mo_nullsOf_L18_ok C hQ _ _ _ _ h)
  · replace h := hF q h
    refine v_iconst (v := 0) C dX6_nullsOf_4 (by decide) ?_
    obtain ⟨rfl, rfl⟩ := hR h
    exact v_iret C hQ dX6_nullsOf_5
set_option maxHeartbeats 4000000 in
set_option maxRecDepth 100000 in
theorem Mo_findIndices_L7_ok {X : XX} {G : GG} (C : Cx X G cX6_findIndices 6 RX6 5 113 none) {M' : Mem} (hQ : Rt X G none M')   : ∀ (n : Nat) (v1 : Nat) (v2 : Int32) (v3 : Int32) (v4 : Int32) (M : Mem), isI v1 = true → Mo_findIndices_L7 n v1 v2 v3 v4 M = some M' → V X G 6 M 7 [some (.ref (G.2.1 32)), some (.ref (G.2.1 v1)), some (.int v2), some (.int v3), some (.int v4), none] [] := by
  intro n
  induction n with
  | zero =>
    intro v1 v2 v3 v4 M g1 h
    simp [Mo_findIndices_L7] at h
  | succ n ih =>
    intro v1 v2 v3 v4 M g1 h
    rw [Mo_findIndices_L7] at h
    refine v_iload C dX6_findIndices_7 rfl ?_
    refine v_iconst (v := 4) C dX6_findIndices_9 (by decide) ?_
    refine v_icmp_gt (tgt := 44) C dX6_findIndices_10 (by decide) (fun q => ?_) (fun q => ?_)
    · replace h := hT q h
      obtain rfl := hRv h
      exact v_vret C hQ dX6_findIndices_44
    · replace h := hF q h
      refine v_aload_n C dX6_findIndices_13 rfl ?_
      refine v_iload C dX6_findIndices_14 rfl ?_
      obtain ⟨r3, M1, c2, h⟩ := hB h
      refine v_callVi C (Mo_nullsOf_ok (xl X) C.ig c2) ml_X6_197 mb_X6_nullsOf mv_X6_nullsOf rfl rfl rfl (Nat.le_of_ble_eq_true rfl) (by decide) (by decide) dX6_findIndices_16 ?_
      refine v_istore C dX6_findIndices_19 (by decide) rfl ?_
      refine v_aload_n C dX6_findIndices_21 rfl ?_
      refine v_iload C dX6_findIndices_22 rfl ?_
      refine v_iload C dX6_findIndices_24 rfl ?_
      refine v_iconst (v := 2) C dX6_findIndices_26 (by decide) ?_
      refine v_iload_n C dX6_findIndices_27 rfl ?_
      refine v_imul C dX6_findIndices_28 ?_
      refine v_isub C dX6_findIndices_29 ?_
      refine v_iload_n C dX6_findIndices_30 rfl ?_
      refine v_iadd C dX6_findIndices_31 ?_
      obtain ⟨q4, h⟩ := hG h
      refine v_iast C (arrI g1) q4 dX6_findIndices_32 ?_
      refine v_iload_n C dX6_findIndices_33 rfl ?_
      refine v_istore_n C dX6_findIndices_34 (by decide) rfl ?_
      refine v_iload C dX6_findIndices_35 rfl ?_
      refine v_istore_n C dX6_findIndices_37 (by decide) rfl ?_
      refine v_iinc (v := 1) C dX6_findIndices_38 rfl (by decide) (by decide) rfl ?_
      refine v_goto (tgt := 7) C dX6_findIndices_41 (by decide) ?_
      exact v_weak [true, true, true, true, true, false] (ih _ _ _ _ _ g1 h)
set_option maxHeartbeats 4000000 in
set_option maxRecDepth 100000 in
theorem Mo_findIndices_ok (l : Launch) {G : GG} (hI : IG G) {M M' : Mem} {v1 : Nat} (h : Mo_findIndices v1 M = some M') : Sp l G yX6_findIndices cX6_findIndices 6 none 5 113 [.ref (G.2.1 32), .ref (G.2.1 v1)] M none M' := by
  unfold Mo_findIndices at h
  obtain ⟨g1, h⟩ := hG h
  refine sp_intro [some (.ref (G.2.1 32)), some (.ref (G.2.1 v1)), none, none, none, none] hI (by decide) (Nat.le_of_ble_eq_true rfl) (fun _ hq => hq) (fun X _ C hQ => ?_)
  refine v_iconst (v := 0) C dX6_findIndices_0 (by decide) ?_
  refine v_istore_n C dX6_findIndices_1 (by decide) rfl ?_
  refine v_iconst (v := 0) C dX6_findIndices_2 (by decide) ?_
  refine v_istore_n C dX6_findIndices_3 (by decide) rfl ?_
  refine v_iconst (v := 0) C dX6_findIndices_4 (by decide) ?_
  refine v_istore C dX6_findIndices_5 (by decide) rfl ?_
  exact v_weak [true, true, true, true, true, false] (Mo_findIndices_L7_ok C hQ _ _ _ _ _ _ g1 h)
set_option maxHeartbeats 4000000 in
set_option maxRecDepth 100000 in
theorem Mo_findAllIndices_ok (l : Launch) {G : GG} (hI : IG G) {M M' : Mem}  (h : Mo_findAllIndices M = some M') : Sp l G yX6_findAllIndices cX6_findAllIndices 1 none 6 138 [.ref (G.2.1 32)] M none M' := by
  unfold Mo_findAllIndices at h
  refine sp_intro [some (.ref (G.2.1 32))] hI (by decide) (Nat.le_of_ble_eq_true rfl) (fun _ hq => hq) (fun X _ C hQ => ?_)
  refine v_aload_n C dX6_findAllIndices_0 rfl ?_
  refine v_iconst (v := 0) C dX6_findAllIndices_1 (by decide) ?_
  refine v_putz C fk_X6_147 rfl rfl dX6_findAllIndices_2 ?_
  refine v_aload_n C dX6_findAllIndices_5 rfl ?_
  refine v_aload_n C dX6_findAllIndices_6 rfl ?_
  refine v_getr (j := 39) C fk_X6_29 rfl dX6_findAllIndices_7 ?_
  obtain ⟨M1, c2, h⟩ := hV h
  refine v_callVv C (Mo_findIndices_ok (xl X) C.ig c2) ml_X6_200 mb_X6_findIndices mv_X6_findIndices rfl rfl rfl (Nat.le_of_ble_eq_true rfl) (by decide) (by decide) dX6_findAllIndices_10 ?_
  refine v_aload_n C dX6_findAllIndices_13 rfl ?_
  refine v_iconst (v := 1) C dX6_findAllIndices_14 (by decide) ?_
  refine v_putz C fk_X6_147 rfl rfl dX6_findAllIndices_15 ?_
  refine v_aload_n C dX6_findAllIndices_18 rfl ?_
  refine v_aload_n C dX6_findAllIndices_19 rfl ?_
  refine v_getr (j := 40) C fk_X6_32 rfl dX6_findAllIndices_20 ?_
  obtain ⟨M3, c4, h⟩ := hV h
  refine v_callVv C (Mo_findIndices_ok (xl X) C.ig c4) ml_X6_200 mb_X6_findIndices mv_X6_findIndices rfl rfl rfl (Nat.le_of_ble_eq_true rfl) (by decide) (by decide) dX6_findAllIndices_23 ?_
  refine v_aload_n C dX6_findAllIndices_26 rfl ?_
  refine v_iconst (v := 0) C dX6_findAllIndices_27 (by decide) ?_
  refine v_putz C fk_X6_147 rfl rfl dX6_findAllIndices_28 ?_
  obtain rfl := hRv h
  exact v_vret C hQ dX6_findAllIndices_31
set_option maxHeartbeats 4000000 in
set_option maxRecDepth 100000 in
theorem Mo_manyOf_L4_ok {X : XX} {G : GG} (C : Cx X G cX6_manyOf 3 RX6 0 0 (some .int)) {r : Int32} {M' : Mem} (hQ : Rt X G (some (.int r)) M')   : ∀ (n : Nat) (v0 : Nat) (v1 : Int32) (v2 : Int32) (M : Mem), isI v0 = true → Mo_manyOf_L4 n v0 v1 v2 M = some (r, M') → V X G 3 M 4 [some (.ref (G.2.1 v0)), some (.int v1), some (.int v2)] [] := by
  intro n
  induction n with
  | zero =>
    intro v0 v1 v2 M g0 h
    simp [Mo_manyOf_L4] at h
  | succ n ih =>
    intro v0 v1 v2 M g0 h
    rw [Mo_manyOf_L4] at h
    refine v_iload_n C dX6_manyOf_4 rfl ?_
    refine v_iconst (v := 4) C dX6_manyOf_5 (by decide) ?_
    refine v_icmp_gt (tgt := 21) C dX6_manyOf_6 (by decide) (fun q => ?_) (fun q => ?_)
    · replace h := hT q h
      refine v_iload_n C dX6_manyOf_21 rfl ?_
      obtain ⟨rfl, rfl⟩ := hR h
      exact v_iret C hQ dX6_manyOf_22
    · replace h := hF q h
      refine v_iload_n C dX6_manyOf_9 rfl ?_
      refine v_aload_n C dX6_manyOf_10 rfl ?_
      refine v_iload_n C dX6_manyOf_11 rfl ?_
      obtain ⟨q1, h⟩ := hG h
      refine v_iald C (arrI g0) q1 dX6_manyOf_12 ?_
      refine v_iadd C dX6_manyOf_13 ?_
      refine v_istore_n C dX6_manyOf_14 (by decide) rfl ?_
      refine v_iinc (v := 1) C dX6_manyOf_15 rfl (by decide) (by decide) rfl ?_
      refine v_goto (tgt := 4) C dX6_manyOf_18 (by decide) ?_
      exact v_weak [true, true, true] (ih _ _ _ _ g0 h)
set_option maxHeartbeats 4000000 in
set_option maxRecDepth 100000 in
theorem Mo_manyOf_ok (l : Launch) {G : GG} (hI : IG G) {M M' : Mem} {v0 : Nat} {r : Int32} (h : Mo_manyOf v0 M = some (r, M')) : Sp l G yX6_manyOf cX6_manyOf 3 (some .int) 0 0 [.ref (G.2.1 v0)] M (some (.int r)) M' := by
  unfold Mo_manyOf at h
  obtain ⟨g0, h⟩ := hG h
  refine sp_intro [some (.ref (G.2.1 v0)), none, none] hI (by decide) (Nat.le_of_ble_eq_true rfl) (fun _ hq => hq) (fun X _ C hQ => ?_)
  refine v_iconst (v := 0) C dX6_manyOf_0 (by decide) ?_
  refine v_istore_n C dX6_manyOf_1 (by decide) rfl ?_
  refine v_iconst (v := 0) C dX6_manyOf_2 (by decide) ?_
  refine v_istore_n C dX6_manyOf_3 (by decide) rfl ?_
  exact v_weak [true, true, true] (Mo_manyOf_L4_ok C hQ _ _ _ _ _ g0 h)
set_option maxHeartbeats 4000000 in
set_option maxRecDepth 100000 in
theorem Mo_indexAt_L4_ok {X : XX} {G : GG} (C : Cx X G cX6_indexAt 4 RX6 0 0 (some .int)) {r : Int32} {M' : Mem} (hQ : Rt X G (some (.int r)) M')   : ∀ (n : Nat) (v0 : Nat) (v2 : Int32) (v3 : Int32) (M : Mem), isI v0 = true → Mo_indexAt_L4 n v0 v2 v3 M = some (r, M') → V X G 4 M 4 [some (.ref (G.2.1 v0)), none, some (.int v2), some (.int v3)] [] := by
  intro n
  induction n with
  | zero =>
    intro v0 v2 v3 M g0 h
    simp [Mo_indexAt_L4] at h
  | succ n ih =>
    intro v0 v2 v3 M g0 h
    rw [Mo_indexAt_L4] at h
    refine v_iload_n C dX6_indexAt_4 rfl ?_
    refine v_iconst (v := 4) C dX6_indexAt_5 (by decide) ?_
    refine v_icmp_gt (tgt := 30) C dX6_indexAt_6 (by decide) (fun q => ?_) (fun q => ?_)
    · replace h := hT q h
      refine v_bipush (v := (-4)) C dX6_indexAt_30 (by decide) ?_
      obtain ⟨rfl, rfl⟩ := hR h
      exact v_iret C hQ dX6_indexAt_32
    · replace h := hF q h
      refine v_iload_n C dX6_indexAt_9 rfl ?_
      refine v_aload_n C dX6_indexAt_10 rfl ?_
      refine v_iload_n C dX6_indexAt_11 rfl ?_
      obtain ⟨q1, h⟩ := hG h
      refine v_iald C (arrI g0) q1 dX6_indexAt_12 ?_
      refine v_icmp_ge (tgt := 18) C dX6_indexAt_13 (by decide) (fun q => ?_) (fun q => ?_)
      · replace h := hT q h
        refine v_iload_n C dX6_indexAt_18 rfl ?_
        refine v_aload_n C dX6_indexAt_19 rfl ?_
        refine v_iload_n C dX6_indexAt_20 rfl ?_
        obtain ⟨q2, h⟩ := hG h
        refine v_iald C (arrI g0) q2 dX6_indexAt_21 ?_
        refine v_isub C dX6_indexAt_22 ?_
        refine v_istore_n C dX6_indexAt_23 (by decide) rfl ?_
        refine v_iinc (v := 1) C dX6_indexAt_24 rfl (by decide) (by decide) rfl ?_
        refine v_goto (tgt := 4) C dX6_indexAt_27 (by decide) ?_
        exact v_weak [true, false, true, true] (ih _ _ _ _ g0 h)
      · replace h := hF q h
        refine v_iload_n C dX6_indexAt_16 rfl ?_
        obtain ⟨rfl, rfl⟩ := hR h
        exact v_iret C hQ dX6_indexAt_17
set_option maxHeartbeats 4000000 in
set_option maxRecDepth 100000 in
theorem Mo_indexAt_ok (l : Launch) {G : GG} (hI : IG G) {M M' : Mem} {v0 : Nat} {v1 : Int32} {r : Int32} (h : Mo_indexAt v0 v1 M = some (r, M')) : Sp l G yX6_indexAt cX6_indexAt 4 (some .int) 0 0 [.ref (G.2.1 v0), .int v1] M (some (.int r)) M' := by
  unfold Mo_indexAt at h
  obtain ⟨g0, h⟩ := hG h
  refine sp_intro [some (.ref (G.2.1 v0)), some (.int v1), none, none] hI (by decide) (Nat.le_of_ble_eq_true rfl) (fun _ hq => hq) (fun X _ C hQ => ?_)
  refine v_iload_n C dX6_indexAt_0 rfl ?_
  refine v_istore_n C dX6_indexAt_1 (by decide) rfl ?_
  refine v_iconst (v := 0) C dX6_indexAt_2 (by decide) ?_
  refine v_istore_n C dX6_indexAt_3 (by decide) rfl ?_
  exact v_weak [true, false, true, true] (Mo_indexAt_L4_ok C hQ _ _ _ _ _ g0 h)
set_option maxHeartbeats 4000000 in
set_option maxRecDepth 100000 in
theorem Mo_addsAt_b41_ok {X : XX} {G : GG} (C : Cx X G cX6_addsAt 5 RX6 3 73 none) {M' : Mem} (hQ : Rt X G none M')   {s1 : Int32} {s2 : Int32} {s3 : Int32} {s4 : Int32} {M : Mem}  (h : Mo_addsAt_b41 s1 s2 s3 s4 M = some M') : V X G 5 M 41 [none, none, none, none, none] [.int s4, .int s3, .int s2, .int s1, .ref (G.2.1 32)] := by
  unfold Mo_addsAt_b41 at h
  obtain ⟨M1, c2, h⟩ := hV h
  refine v_callVv C (Mo_adds_ok (xl X) C.ig c2) ml_X6_191 mb_X6_adds mv_X6_adds rfl rfl rfl (Nat.le_of_ble_eq_true rfl) (by decide) (by decide) dX6_addsAt_41 ?_
  obtain rfl := hRv h
  exact v_vret C hQ dX6_addsAt_44
set_option maxHeartbeats 4000000 in
set_option maxRecDepth 100000 in
theorem Mo_addsAt_b30_ok {X : XX} {G : GG} (C : Cx X G cX6_addsAt 5 RX6 3 73 none) {M' : Mem} (hQ : Rt X G none M')   {v3 : Int32} {v4 : Int32} {s1 : Int32} {s2 : Int32} {s3 : Int32} {M : Mem}  (h : Mo_addsAt_b30 v3 v4 s1 s2 s3 M = some M') : V X G 5 M 30 [none, none, none, some (.int v3), some (.int v4)] [.int s3, .int s2, .int s1, .ref (G.2.1 32)] := by
  unfold Mo_addsAt_b30 at h
  refine v_iload C dX6_addsAt_30 rfl ?_
  refine v_if_eq (tgt := 39) C dX6_addsAt_32 (by decide) (fun q => ?_) (fun q => ?_)
  · replace h := hT q h
    refine v_iload_n C dX6_addsAt_39 rfl ?_
    refine v_ineg C dX6_addsAt_40 ?_
    exact v_weak [false, false, false, false, false] (Mo_addsAt_b41_ok C hQ h)
  · replace h := hF q h
    refine v_iconst (v := 1) C dX6_addsAt_35 (by decide) ?_
    refine v_goto (tgt := 41) C dX6_addsAt_36 (by decide) ?_
    exact v_weak [false, false, false, false, false] (Mo_addsAt_b41_ok C hQ h)
set_option maxHeartbeats 4000000 in
set_option maxRecDepth 100000 in
theorem Mo_addsAt_b15_ok {X : XX} {G : GG} (C : Cx X G cX6_addsAt 5 RX6 3 73 none) {M' : Mem} (hQ : Rt X G none M')   {v1 : Int32} {v2 : Int32} {v3 : Int32} {s0 : Int32} {M : Mem}  (h : Mo_addsAt_b15 v1 v2 v3 s0 M = some M') : V X G 5 M 15 [some (.ref (G.2.1 32)), some (.int v1), some (.int v2), some (.int v3), none] [.int s0] := by
  unfold Mo_addsAt_b15 at h
  refine v_istore C dX6_addsAt_15 (by decide) rfl ?_
  refine v_aload_n C dX6_addsAt_17 rfl ?_
  refine v_iload_n C dX6_addsAt_18 rfl ?_
  refine v_iload_n C dX6_addsAt_19 rfl ?_
  refine v_iload C dX6_addsAt_20 rfl ?_
  refine v_if_eq (tgt := 29) C dX6_addsAt_22 (by decide) (fun q => ?_) (fun q => ?_)
  · replace h := hT q h
    refine v_iconst (v := 1) C dX6_addsAt_29 (by decide) ?_
    exact v_weak [false, false, false, true, true] (Mo_addsAt_b30_ok C hQ h)
  · replace h := hF q h
    refine v_iconst (v := 0) C dX6_addsAt_25 (by decide) ?_
    refine v_goto (tgt := 30) C dX6_addsAt_26 (by decide) ?_
    exact v_weak [false, false, false, true, true] (Mo_addsAt_b30_ok C hQ h)
set_option maxHeartbeats 4000000 in
set_option maxRecDepth 100000 in
theorem Mo_addsAt_ok (l : Launch) {G : GG} (hI : IG G) {M M' : Mem} {v1 : Int32} {v2 : Int32} {v3 : Int32} (h : Mo_addsAt v1 v2 v3 M = some M') : Sp l G yX6_addsAt cX6_addsAt 5 none 3 73 [.ref (G.2.1 32), .int v1, .int v2, .int v3] M none M' := by
  unfold Mo_addsAt at h
  refine sp_intro [some (.ref (G.2.1 32)), some (.int v1), some (.int v2), some (.int v3), none] hI (by decide) (Nat.le_of_ble_eq_true rfl) (fun _ hq => hq) (fun X _ C hQ => ?_)
  refine v_iload_n C dX6_addsAt_0 rfl ?_
  refine v_aload_n C dX6_addsAt_1 rfl ?_
  refine v_getr (j := 33) C fk_X6_7 rfl dX6_addsAt_2 ?_
  refine v_iconst (v := 0) C dX6_addsAt_5 (by decide) ?_
  refine v_iald_k (k := 0) (n := 35) C rfl rfl (by decide) dX6_addsAt_6 ?_
  refine v_icmp_ne (tgt := 14) C dX6_addsAt_7 (by decide) (fun q => ?_) (fun q => ?_)
  · replace h := hF q h
    refine v_iconst (v := 0) C dX6_addsAt_14 (by decide) ?_
    exact v_weak [true, true, true, true, false] (Mo_addsAt_b15_ok C hQ h)
  · replace h := hT q h
    refine v_iconst (v := 1) C dX6_addsAt_10 (by decide) ?_
    refine v_goto (tgt := 15) C dX6_addsAt_11 (by decide) ?_
    exact v_weak [true, true, true, true, false] (Mo_addsAt_b15_ok C hQ h)
set_option maxHeartbeats 4000000 in
set_option maxRecDepth 100000 in
theorem Mo_chainsOf_b73_ok {X : XX} {G : GG} (C : Cx X G cX6_chainsOf 5 RX6 4 97 (some .int)) {r : Int32} {M' : Mem} (hQ : Rt X G (some (.int r)) M') {k25 : Int32 → Int32 → Int32 → Int32 → Mem → Option (Int32 × Mem)} (H25 : ∀ (v1 : Int32) (v2 : Int32) (v3 : Int32) (v4 : Int32) (M : Mem), k25 v1 v2 v3 v4 M = some (r, M') → V X G 5 M 25 [some (.ref (G.2.1 32)), some (.int v1), some (.int v2), some (.int v3), some (.int v4)] []) {v1 : Int32} {v2 : Int32} {v3 : Int32} {v4 : Int32} {M : Mem}  (h : Mo_chainsOf_b73 k25 v1 v2 v3 v4 M = some (r, M')) : V X G 5 M 73 [some (.ref (G.2.1 32)), some (.int v1), some (.int v2), some (.int v3), some (.int v4)] [] := by
  unfold Mo_chainsOf_b73 at h
  refine v_iinc (v := 1) C dX6_chainsOf_73 rfl (by decide) (by decide) rfl ?_
  refine v_goto (tgt := 25) C dX6_chainsOf_76 (by decide) ?_
  exact v_weak [true, true, true, true, true] (H25 _ _ _ _ _ h)
set_option maxHeartbeats 4000000 in
set_option maxRecDepth 100000 in
theorem Mo_chainsOf_b70_ok {X : XX} {G : GG} (C : Cx X G cX6_chainsOf 5 RX6 4 97 (some .int)) {r : Int32} {M' : Mem} (hQ : Rt X G (some (.int r)) M') {k25 : Int32 → Int32 → Int32 → Int32 → Mem → Option (Int32 × Mem)} (H25 : ∀ (v1 : Int32) (v2 : Int32) (v3 : Int32) (v4 : Int32) (M : Mem), k25 v1 v2 v3 v4 M = some (r, M') → V X G 5 M 25 [some (.ref (G.2.1 32)), some (.int v1), some (.int v2), some (.int v3), some (.int v4)] []) {v1 : Int32} {v2 : Int32} {v3 : Int32} {v4 : Int32} {s1 : Int32} {s2 : Int32} {s3 : Int32} {s4 : Int32} {M : Mem}  (h : Mo_chainsOf_b70 k25 v1 v2 v3 v4 s1 s2 s3 s4 M = some (r, M')) : V X G 5 M 70 [some (.ref (G.2.1 32)), some (.int v1), some (.int v2), some (.int v3), some (.int v4)] [.int s4, .int s3, .int s2, .int s1, .ref (G.2.1 32)] := by
  unfold Mo_chainsOf_b70 at h
  obtain ⟨M1, c2, h⟩ := hV h
  refine v_callVv C (Mo_adds_ok (xl X) C.ig c2) ml_X6_191 mb_X6_adds mv_X6_adds rfl rfl rfl (Nat.le_of_ble_eq_true rfl) (by decide) (by decide) dX6_chainsOf_70 ?_
  exact v_weak [true, true, true, true, true] (Mo_chainsOf_b73_ok C hQ H25 h)
set_option maxHeartbeats 4000000 in
set_option maxRecDepth 100000 in
theorem Mo_chainsOf_b61_ok {X : XX} {G : GG} (C : Cx X G cX6_chainsOf 5 RX6 4 97 (some .int)) {r : Int32} {M' : Mem} (hQ : Rt X G (some (.int r)) M') {k25 : Int32 → Int32 → Int32 → Int32 → Mem → Option (Int32 × Mem)} (H25 : ∀ (v1 : Int32) (v2 : Int32) (v3 : Int32) (v4 : Int32) (M : Mem), k25 v1 v2 v3 v4 M = some (r, M') → V X G 5 M 25 [some (.ref (G.2.1 32)), some (.int v1), some (.int v2), some (.int v3), some (.int v4)] []) {v1 : Int32} {v2 : Int32} {v3 : Int32} {v4 : Int32} {s1 : Int32} {s2 : Int32} {s3 : Int32} {M : Mem}  (h : Mo_chainsOf_b61 k25 v1 v2 v3 v4 s1 s2 s3 M = some (r, M')) : V X G 5 M 61 [some (.ref (G.2.1 32)), some (.int v1), some (.int v2), some (.int v3), some (.int v4)] [.int s3, .int s2, .int s1, .ref (G.2.1 32)] := by
  unfold Mo_chainsOf_b61 at h
  refine v_iload_n C dX6_chainsOf_61 rfl ?_
  refine v_if_eq (tgt := 69) C dX6_chainsOf_62 (by decide) (fun q => ?_) (fun q => ?_)
  · replace h := hT q h
    refine v_iconst (v := (-1)) C dX6_chainsOf_69 (by decide) ?_
    exact v_weak [true, true, true, true, true] (Mo_chainsOf_b70_ok C hQ H25 h)
  · replace h := hF q h
    refine v_iconst (v := 0) C dX6_chainsOf_65 (by decide) ?_
    refine v_goto (tgt := 70) C dX6_chainsOf_66 (by decide) ?_
    exact v_weak [true, true, true, true, true] (Mo_chainsOf_b70_ok C hQ H25 h)
set_option maxHeartbeats 4000000 in
set_option maxRecDepth 100000 in
theorem Mo_chainsOf_L25_ok {X : XX} {G : GG} (C : Cx X G cX6_chainsOf 5 RX6 4 97 (some .int)) {r : Int32} {M' : Mem} (hQ : Rt X G (some (.int r)) M')   : ∀ (n : Nat) (v1 : Int32) (v2 : Int32) (v3 : Int32) (v4 : Int32) (M : Mem), Mo_chainsOf_L25 n v1 v2 v3 v4 M = some (r, M') → V X G 5 M 25 [some (.ref (G.2.1 32)), some (.int v1), some (.int v2), some (.int v3), some (.int v4)] [] := by
  intro n
  induction n with
  | zero =>
    intro v1 v2 v3 v4 M h
    simp [Mo_chainsOf_L25] at h
  | succ n ih =>
    intro v1 v2 v3 v4 M h
    rw [Mo_chainsOf_L25] at h
    refine v_iload C dX6_chainsOf_25 rfl ?_
    refine v_iload_n C dX6_chainsOf_27 rfl ?_
    refine v_icmp_ge (tgt := 79) C dX6_chainsOf_28 (by decide) (fun q => ?_) (fun q => ?_)
    · replace h := hT q h
      refine v_aload_n C dX6_chainsOf_79 rfl ?_
      obtain ⟨r3, M1, c2, h⟩ := hB h
      refine v_callVi C (Mo_dimension_ok (xl X) C.ig c2) ml_X6_194 mb_X6_dimension mv_X6_dimension rfl rfl rfl (Nat.le_of_ble_eq_true rfl) (by decide) (by decide) dX6_chainsOf_80 ?_
      obtain ⟨rfl, rfl⟩ := hR h
      exact v_iret C hQ dX6_chainsOf_83
    · replace h := hF q h
      refine v_aload_n C dX6_chainsOf_31 rfl ?_
      refine v_iload C dX6_chainsOf_32 rfl ?_
      refine v_iload C dX6_chainsOf_34 rfl ?_
      refine v_iload_n C dX6_chainsOf_36 rfl ?_
      obtain ⟨M4, c5, h⟩ := hV h
      refine v_callVv C (Mo_addsAt_ok (xl X) C.ig c5) ml_X6_204 mb_X6_addsAt mv_X6_addsAt rfl rfl rfl (Nat.le_of_ble_eq_true rfl) (by decide) (by decide) dX6_chainsOf_37 ?_
      refine v_iload C dX6_chainsOf_40 rfl ?_
      refine v_if_le (tgt := 73) C dX6_chainsOf_42 (by decide) (fun q => ?_) (fun q => ?_)
      · replace h := hT q h
        exact v_weak [true, true, true, true, true] (Mo_chainsOf_b73_ok C hQ ih h)
      · replace h := hF q h
        refine v_aload_n C dX6_chainsOf_45 rfl ?_
        refine v_iload C dX6_chainsOf_46 rfl ?_
        refine v_iload C dX6_chainsOf_48 rfl ?_
        refine v_iconst (v := 1) C dX6_chainsOf_50 (by decide) ?_
        refine v_isub C dX6_chainsOf_51 ?_
        refine v_iload_n C dX6_chainsOf_52 rfl ?_
        refine v_if_eq (tgt := 60) C dX6_chainsOf_53 (by decide) (fun q => ?_) (fun q => ?_)
        · replace h := hT q h
          refine v_iconst (v := 0) C dX6_chainsOf_60 (by decide) ?_
          exact v_weak [true, true, true, true, true] (Mo_chainsOf_b61_ok C hQ ih h)
        · replace h := hF q h
          refine v_iconst (v := (-1)) C dX6_chainsOf_56 (by decide) ?_
          refine v_goto (tgt := 61) C dX6_chainsOf_57 (by decide) ?_
          exact v_weak [true, true, true, true, true] (Mo_chainsOf_b61_ok C hQ ih h)
set_option maxHeartbeats 4000000 in
set_option maxRecDepth 100000 in
theorem Mo_chainsOf_b15_ok {X : XX} {G : GG} (C : Cx X G cX6_chainsOf 5 RX6 4 97 (some .int)) {r : Int32} {M' : Mem} (hQ : Rt X G (some (.int r)) M')   {v1 : Int32} {v2 : Int32} {s0 : Int32} {M : Mem}  (h : Mo_chainsOf_b15 v1 v2 s0 M = some (r, M')) : V X G 5 M 15 [some (.ref (G.2.1 32)), some (.int v1), some (.int v2), none, none] [.int s0] := by
  unfold Mo_chainsOf_b15 at h
  refine v_istore_n C dX6_chainsOf_15 (by decide) rfl ?_
  refine v_aload_n C dX6_chainsOf_16 rfl ?_
  refine v_iload_n C dX6_chainsOf_17 rfl ?_
  refine v_iload_n C dX6_chainsOf_18 rfl ?_
  obtain ⟨M1, c2, h⟩ := hV h
  refine v_callVv C (Mo_startsLarge_ok (xl X) C.ig c2) ml_X6_188 mb_X6_startsLarge mv_X6_startsLarge rfl rfl rfl (Nat.le_of_ble_eq_true rfl) (by decide) (by decide) dX6_chainsOf_19 ?_
  refine v_iconst (v := 0) C dX6_chainsOf_22 (by decide) ?_
  refine v_istore C dX6_chainsOf_23 (by decide) rfl ?_
  exact v_weak [true, true, true, true, true] (Mo_chainsOf_L25_ok C hQ _ _ _ _ _ _ h)
set_option maxHeartbeats 4000000 in
set_option maxRecDepth 100000 in
theorem Mo_chainsOf_ok (l : Launch) {G : GG} (hI : IG G) {M M' : Mem} {v1 : Int32} {v2 : Int32} {r : Int32} (h : Mo_chainsOf v1 v2 M = some (r, M')) : Sp l G yX6_chainsOf cX6_chainsOf 5 (some .int) 4 97 [.ref (G.2.1 32), .int v1, .int v2] M (some (.int r)) M' := by
  unfold Mo_chainsOf at h
  refine sp_intro [some (.ref (G.2.1 32)), some (.int v1), some (.int v2), none, none] hI (by decide) (Nat.le_of_ble_eq_true rfl) (fun _ hq => hq) (fun X _ C hQ => ?_)
  refine v_iload_n C dX6_chainsOf_0 rfl ?_
  refine v_aload_n C dX6_chainsOf_1 rfl ?_
  refine v_getr (j := 33) C fk_X6_7 rfl dX6_chainsOf_2 ?_
  refine v_iconst (v := 0) C dX6_chainsOf_5 (by decide) ?_
  refine v_iald_k (k := 0) (n := 35) C rfl rfl (by decide) dX6_chainsOf_6 ?_
  refine v_icmp_ne (tgt := 14) C dX6_chainsOf_7 (by decide) (fun q => ?_) (fun q => ?_)
  · replace h := hF q h
    refine v_iconst (v := 0) C dX6_chainsOf_14 (by decide) ?_
    exact v_weak [true, true, true, false, false] (Mo_chainsOf_b15_ok C hQ h)
  · replace h := hT q h
    refine v_iconst (v := 1) C dX6_chainsOf_10 (by decide) ?_
    refine v_goto (tgt := 15) C dX6_chainsOf_11 (by decide) ?_
    exact v_weak [true, true, true, false, false] (Mo_chainsOf_b15_ok C hQ h)
set_option maxHeartbeats 4000000 in
set_option maxRecDepth 100000 in
theorem Mo_findLong_L13_ok {X : XX} {G : GG} (C : Cx X G cX6_findLong 6 RX6 5 121 none) {M' : Mem} (hQ : Rt X G none M')   : ∀ (n : Nat) (v1 : Int32) (v2 : Int32) (v3 : Int32) (v4 : Int32) (M : Mem), Mo_findLong_L13 n v1 v2 v3 v4 M = some M' → V X G 6 M 13 [some (.ref (G.2.1 32)), some (.int v1), some (.int v2), some (.int v3), some (.int v4), none] [] := by
  intro n
  induction n with
  | zero =>
    intro v1 v2 v3 v4 M h
    simp [Mo_findLong_L13] at h
  | succ n ih =>
    intro v1 v2 v3 v4 M h
    rw [Mo_findLong_L13] at h
    refine v_iload C dX6_findLong_13 rfl ?_
    refine v_iconst (v := 4) C dX6_findLong_15 (by decide) ?_
    refine v_icmp_gt (tgt := 50) C dX6_findLong_16 (by decide) (fun q => ?_) (fun q => ?_)
    · replace h := hT q h
      obtain rfl := hRv h
      exact v_vret C hQ dX6_findLong_50
    · replace h := hF q h
      refine v_aload_n C dX6_findLong_19 rfl ?_
      refine v_iload_n C dX6_findLong_20 rfl ?_
      refine v_iload C dX6_findLong_21 rfl ?_
      obtain ⟨r3, M1, c2, h⟩ := hB h
      refine v_callVi C (Mo_chainsOf_ok (xl X) C.ig c2) ml_X6_211 mb_X6_chainsOf mv_X6_chainsOf rfl rfl rfl (Nat.le_of_ble_eq_true rfl) (by decide) (by decide) dX6_findLong_23 ?_
      refine v_istore C dX6_findLong_26 (by decide) rfl ?_
      refine v_aload_n C dX6_findLong_28 rfl ?_
      refine v_getr (j := 41) C fk_X6_35 rfl dX6_findLong_29 ?_
      refine v_iload C dX6_findLong_32 rfl ?_
      refine v_iload C dX6_findLong_34 rfl ?_
      refine v_iload_n C dX6_findLong_36 rfl ?_
      refine v_isub C dX6_findLong_37 ?_
      refine v_iload_n C dX6_findLong_38 rfl ?_
      refine v_isub C dX6_findLong_39 ?_
      obtain ⟨q4, h⟩ := hG h
      refine v_iast C rfl q4 dX6_findLong_40 ?_
      refine v_iload C dX6_findLong_41 rfl ?_
      refine v_istore_n C dX6_findLong_43 (by decide) rfl ?_
      refine v_iinc (v := 1) C dX6_findLong_44 rfl (by decide) (by decide) rfl ?_
      refine v_goto (tgt := 13) C dX6_findLong_47 (by decide) ?_
      exact v_weak [true, true, true, true, true, false] (ih _ _ _ _ _ h)
set_option maxHeartbeats 4000000 in
set_option maxRecDepth 100000 in
theorem Mo_findLong_ok (l : Launch) {G : GG} (hI : IG G) {M M' : Mem} {v1 : Int32} (h : Mo_findLong v1 M = some M') : Sp l G yX6_findLong cX6_findLong 6 none 5 121 [.ref (G.2.1 32), .int v1] M none M' := by
  unfold Mo_findLong at h
  refine sp_intro [some (.ref (G.2.1 32)), some (.int v1), none, none, none, none] hI (by decide) (Nat.le_of_ble_eq_true rfl) (fun _ hq => hq) (fun X _ C hQ => ?_)
  refine v_aload_n C dX6_findLong_0 rfl ?_
  refine v_getr (j := 39) C fk_X6_29 rfl dX6_findLong_1 ?_
  obtain ⟨r3, M1, c2, h⟩ := hB h
  refine v_callSi C (Mo_manyOf_ok (xl X) C.ig c2) ml_X6_207 mb_X6_manyOf ms_X6_manyOf rfl rfl (Nat.le_of_ble_eq_true rfl) (by decide) (by decide) dX6_findLong_4 ?_
  refine v_istore_n C dX6_findLong_7 (by decide) rfl ?_
  refine v_iconst (v := 0) C dX6_findLong_8 (by decide) ?_
  refine v_istore_n C dX6_findLong_9 (by decide) rfl ?_
  refine v_iconst (v := 1) C dX6_findLong_10 (by decide) ?_
  refine v_istore C dX6_findLong_11 (by decide) rfl ?_
  exact v_weak [true, true, true, true, true, false] (Mo_findLong_L13_ok C hQ _ _ _ _ _ _ h)
set_option maxHeartbeats 4000000 in
set_option maxRecDepth 100000 in
theorem Mo_lengthAt_b25_ok {X : XX} {G : GG} (C : Cx X G cX6_lengthAt 4 RX6 1 20 (some .int)) {r : Int32} {M' : Mem} (hQ : Rt X G (some (.int r)) M') {k4 : Int32 → Int32 → Int32 → Mem → Option (Int32 × Mem)} (H4 : ∀ (v1 : Int32) (v2 : Int32) (v3 : Int32) (M : Mem), k4 v1 v2 v3 M = some (r, M') → V X G 4 M 4 [some (.ref (G.2.1 32)), some (.int v1), some (.int v2), some (.int v3)] []) {v1 : Int32} {v3 : Int32} {s0 : Int32} {s1 : Int32} {M : Mem}  (h : Mo_lengthAt_b25 k4 v1 v3 s0 s1 M = some (r, M')) : V X G 4 M 25 [some (.ref (G.2.1 32)), some (.int v1), none, some (.int v3)] [.int s1, .int s0] := by
  unfold Mo_lengthAt_b25 at h
  obtain ⟨r3, M1, c2, h⟩ := hB h
  refine v_callSi C (Mo_flag_ok (xl X) C.ig c2) ml_X6_214 mb_X6_flag ms_X6_flag rfl rfl (Nat.le_of_ble_eq_true rfl) (by decide) (by decide) dX6_lengthAt_25 ?_
  refine v_iadd C dX6_lengthAt_28 ?_
  refine v_istore_n C dX6_lengthAt_29 (by decide) rfl ?_
  refine v_iinc (v := 1) C dX6_lengthAt_30 rfl (by decide) (by decide) rfl ?_
  refine v_goto (tgt := 4) C dX6_lengthAt_33 (by decide) ?_
  exact v_weak [true, true, true, true] (H4 _ _ _ _ h)
set_option maxHeartbeats 4000000 in
set_option maxRecDepth 100000 in
theorem Mo_lengthAt_L4_ok {X : XX} {G : GG} (C : Cx X G cX6_lengthAt 4 RX6 1 20 (some .int)) {r : Int32} {M' : Mem} (hQ : Rt X G (some (.int r)) M')   : ∀ (n : Nat) (v1 : Int32) (v2 : Int32) (v3 : Int32) (M : Mem), Mo_lengthAt_L4 n v1 v2 v3 M = some (r, M') → V X G 4 M 4 [some (.ref (G.2.1 32)), some (.int v1), some (.int v2), some (.int v3)] [] := by
  intro n
  induction n with
  | zero =>
    intro v1 v2 v3 M h
    simp [Mo_lengthAt_L4] at h
  | succ n ih =>
    intro v1 v2 v3 M h
    rw [Mo_lengthAt_L4] at h
    refine v_iload_n C dX6_lengthAt_4 rfl ?_
    refine v_iconst (v := 4) C dX6_lengthAt_5 (by decide) ?_
    refine v_icmp_gt (tgt := 36) C dX6_lengthAt_6 (by decide) (fun q => ?_) (fun q => ?_)
    · replace h := hT q h
      refine v_iload_n C dX6_lengthAt_36 rfl ?_
      obtain ⟨rfl, rfl⟩ := hR h
      exact v_iret C hQ dX6_lengthAt_37
    · replace h := hF q h
      refine v_iload_n C dX6_lengthAt_9 rfl ?_
      refine v_aload_n C dX6_lengthAt_10 rfl ?_
      refine v_getr (j := 41) C fk_X6_35 rfl dX6_lengthAt_11 ?_
      refine v_iload_n C dX6_lengthAt_14 rfl ?_
      obtain ⟨q1, h⟩ := hG h
      refine v_iald C rfl q1 dX6_lengthAt_15 ?_
      refine v_iload_n C dX6_lengthAt_16 rfl ?_
      refine v_icmp_le (tgt := 24) C dX6_lengthAt_17 (by decide) (fun q => ?_) (fun q => ?_)
      · replace h := hT q h
        refine v_iconst (v := 0) C dX6_lengthAt_24 (by decide) ?_
        exact v_weak [true, true, false, true] (Mo_lengthAt_b25_ok C hQ ih h)
      · replace h := hF q h
        refine v_iconst (v := 1) C dX6_lengthAt_20 (by decide) ?_
        refine v_goto (tgt := 25) C dX6_lengthAt_21 (by decide) ?_
        exact v_weak [true, true, false, true] (Mo_lengthAt_b25_ok C hQ ih h)
set_option maxHeartbeats 4000000 in
set_option maxRecDepth 100000 in
theorem Mo_lengthAt_ok (l : Launch) {G : GG} (hI : IG G) {M M' : Mem} {v1 : Int32} {r : Int32} (h : Mo_lengthAt v1 M = some (r, M')) : Sp l G yX6_lengthAt cX6_lengthAt 4 (some .int) 1 20 [.ref (G.2.1 32), .int v1] M (some (.int r)) M' := by
  unfold Mo_lengthAt at h
  refine sp_intro [some (.ref (G.2.1 32)), some (.int v1), none, none] hI (by decide) (Nat.le_of_ble_eq_true rfl) (fun _ hq => hq) (fun X _ C hQ => ?_)
  refine v_iconst (v := 0) C dX6_lengthAt_0 (by decide) ?_
  refine v_istore_n C dX6_lengthAt_1 (by decide) rfl ?_
  refine v_iconst (v := 1) C dX6_lengthAt_2 (by decide) ?_
  refine v_istore_n C dX6_lengthAt_3 (by decide) rfl ?_
  exact v_weak [true, true, true, true] (Mo_lengthAt_L4_ok C hQ _ _ _ _ _ h)
set_option maxHeartbeats 4000000 in
set_option maxRecDepth 100000 in
theorem Mo_lengthsAt_ok (l : Launch) {G : GG} (hI : IG G) {M M' : Mem} {v1 : Int32} {r : Int32} (h : Mo_lengthsAt v1 M = some (r, M')) : Sp l G yX6_lengthsAt cX6_lengthsAt 2 (some .int) 6 146 [.ref (G.2.1 32), .int v1] M (some (.int r)) M' := by
  unfold Mo_lengthsAt at h
  refine sp_intro [some (.ref (G.2.1 32)), some (.int v1)] hI (by decide) (Nat.le_of_ble_eq_true rfl) (fun _ hq => hq) (fun X _ C hQ => ?_)
  refine v_aload_n C dX6_lengthsAt_0 rfl ?_
  refine v_iload_n C dX6_lengthsAt_1 rfl ?_
  obtain ⟨M1, c2, h⟩ := hV h
  refine v_callVv C (Mo_findLong_ok (xl X) C.ig c2) ml_X6_218 mb_X6_findLong mv_X6_findLong rfl rfl rfl (Nat.le_of_ble_eq_true rfl) (by decide) (by decide) dX6_lengthsAt_2 ?_
  refine v_aload_n C dX6_lengthsAt_5 rfl ?_
  refine v_getr (j := 41) C fk_X6_35 rfl dX6_lengthsAt_6 ?_
  refine v_iconst (v := 1) C dX6_lengthsAt_9 (by decide) ?_
  refine v_iald_k (k := 1) (n := 5) C rfl rfl (by decide) dX6_lengthsAt_10 ?_
  refine v_aload_n C dX6_lengthsAt_11 rfl ?_
  refine v_getr (j := 41) C fk_X6_35 rfl dX6_lengthsAt_12 ?_
  refine v_iconst (v := 2) C dX6_lengthsAt_15 (by decide) ?_
  refine v_iald_k (k := 2) (n := 5) C rfl rfl (by decide) dX6_lengthsAt_16 ?_
  refine v_iadd C dX6_lengthsAt_17 ?_
  refine v_aload_n C dX6_lengthsAt_18 rfl ?_
  refine v_getr (j := 41) C fk_X6_35 rfl dX6_lengthsAt_19 ?_
  refine v_iconst (v := 3) C dX6_lengthsAt_22 (by decide) ?_
  refine v_iald_k (k := 3) (n := 5) C rfl rfl (by decide) dX6_lengthsAt_23 ?_
  refine v_iadd C dX6_lengthsAt_24 ?_
  refine v_aload_n C dX6_lengthsAt_25 rfl ?_
  refine v_getr (j := 41) C fk_X6_35 rfl dX6_lengthsAt_26 ?_
  refine v_iconst (v := 4) C dX6_lengthsAt_29 (by decide) ?_
  refine v_iald_k (k := 4) (n := 5) C rfl rfl (by decide) dX6_lengthsAt_30 ?_
  refine v_iadd C dX6_lengthsAt_31 ?_
  obtain ⟨rfl, rfl⟩ := hR h
  exact v_iret C hQ dX6_lengthsAt_32
set_option maxHeartbeats 4000000 in
set_option maxRecDepth 100000 in
theorem Mo_lengthsBut_L4_ok {X : XX} {G : GG} (C : Cx X G cX6_lengthsBut 3 RX6 7 167 (some .int)) {r : Int32} {M' : Mem} (hQ : Rt X G (some (.int r)) M')   : ∀ (n : Nat) (v1 : Int32) (v2 : Int32) (M : Mem), Mo_lengthsBut_L4 n v1 v2 M = some (r, M') → V X G 3 M 4 [some (.ref (G.2.1 32)), some (.int v1), some (.int v2)] [] := by
  intro n
  induction n with
  | zero =>
    intro v1 v2 M h
    simp [Mo_lengthsBut_L4] at h
  | succ n ih =>
    intro v1 v2 M h
    rw [Mo_lengthsBut_L4] at h
    refine v_iload_n C dX6_lengthsBut_4 rfl ?_
    refine v_aload_n C dX6_lengthsBut_5 rfl ?_
    refine v_getr (j := 33) C fk_X6_7 rfl dX6_lengthsBut_6 ?_
    refine v_iconst (v := 0) C dX6_lengthsBut_9 (by decide) ?_
    refine v_iald_k (k := 0) (n := 35) C rfl rfl (by decide) dX6_lengthsBut_10 ?_
    refine v_icmp_ge (tgt := 28) C dX6_lengthsBut_11 (by decide) (fun q => ?_) (fun q => ?_)
    · replace h := hT q h
      refine v_iload_n C dX6_lengthsBut_28 rfl ?_
      obtain ⟨rfl, rfl⟩ := hR h
      exact v_iret C hQ dX6_lengthsBut_29
    · replace h := hF q h
      refine v_iload_n C dX6_lengthsBut_14 rfl ?_
      refine v_aload_n C dX6_lengthsBut_15 rfl ?_
      refine v_iload_n C dX6_lengthsBut_16 rfl ?_
      obtain ⟨r3, M1, c2, h⟩ := hB h
      refine v_callVi C (Mo_lengthsAt_ok (xl X) C.ig c2) ml_X6_221 mb_X6_lengthsAt mv_X6_lengthsAt rfl rfl rfl (Nat.le_of_ble_eq_true rfl) (by decide) (by decide) dX6_lengthsBut_17 ?_
      refine v_iadd C dX6_lengthsBut_20 ?_
      refine v_istore_n C dX6_lengthsBut_21 (by decide) rfl ?_
      refine v_iinc (v := 1) C dX6_lengthsBut_22 rfl (by decide) (by decide) rfl ?_
      refine v_goto (tgt := 4) C dX6_lengthsBut_25 (by decide) ?_
      exact v_weak [true, true, true] (ih _ _ _ h)
set_option maxHeartbeats 4000000 in
set_option maxRecDepth 100000 in
theorem Mo_lengthsBut_ok (l : Launch) {G : GG} (hI : IG G) {M M' : Mem}  {r : Int32} (h : Mo_lengthsBut M = some (r, M')) : Sp l G yX6_lengthsBut cX6_lengthsBut 3 (some .int) 7 167 [.ref (G.2.1 32)] M (some (.int r)) M' := by
  unfold Mo_lengthsBut at h
  refine sp_intro [some (.ref (G.2.1 32)), none, none] hI (by decide) (Nat.le_of_ble_eq_true rfl) (fun _ hq => hq) (fun X _ C hQ => ?_)
  refine v_iconst (v := 0) C dX6_lengthsBut_0 (by decide) ?_
  refine v_istore_n C dX6_lengthsBut_1 (by decide) rfl ?_
  refine v_iconst (v := 0) C dX6_lengthsBut_2 (by decide) ?_
  refine v_istore_n C dX6_lengthsBut_3 (by decide) rfl ?_
  exact v_weak [true, true, true] (Mo_lengthsBut_L4_ok C hQ _ _ _ _ h)
set_option maxHeartbeats 4000000 in
set_option maxRecDepth 100000 in
theorem Mo_rest_L25_ok {X : XX} {G : GG} (C : Cx X G cX6_rest 3 RX6 8 189 (some .int)) {r : Int32} {M' : Mem} (hQ : Rt X G (some (.int r)) M')   : ∀ (n : Nat) (v1 : Int32) (v2 : Int32) (M : Mem), Mo_rest_L25 n v1 v2 M = some (r, M') → V X G 3 M 25 [some (.ref (G.2.1 32)), some (.int v1), some (.int v2)] [] := by
  intro n
  induction n with
  | zero =>
    intro v1 v2 M h
    simp [Mo_rest_L25] at h
  | succ n ih =>
    intro v1 v2 M h
    rw [Mo_rest_L25] at h
    refine v_iload_n C dX6_rest_25 rfl ?_
    refine v_iconst (v := 4) C dX6_rest_26 (by decide) ?_
    refine v_icmp_gt (tgt := 58) C dX6_rest_27 (by decide) (fun q => ?_) (fun q => ?_)
    · replace h := hT q h
      refine v_iload_n C dX6_rest_58 rfl ?_
      obtain ⟨rfl, rfl⟩ := hR h
      exact v_iret C hQ dX6_rest_59
    · replace h := hF q h
      refine v_iload_n C dX6_rest_30 rfl ?_
      refine v_iload_n C dX6_rest_31 rfl ?_
      refine v_iconst (v := 1) C dX6_rest_32 (by decide) ?_
      refine v_iadd C dX6_rest_33 ?_
      refine v_aload_n C dX6_rest_34 rfl ?_
      refine v_getr (j := 39) C fk_X6_29 rfl dX6_rest_35 ?_
      refine v_iload_n C dX6_rest_38 rfl ?_
      obtain ⟨q1, h⟩ := hG h
      refine v_iald C rfl q1 dX6_rest_39 ?_
      refine v_imul C dX6_rest_40 ?_
      refine v_iload_n C dX6_rest_41 rfl ?_
      refine v_aload_n C dX6_rest_42 rfl ?_
      refine v_getr (j := 40) C fk_X6_32 rfl dX6_rest_43 ?_
      refine v_iload_n C dX6_rest_46 rfl ?_
      obtain ⟨q2, h⟩ := hG h
      refine v_iald C rfl q2 dX6_rest_47 ?_
      refine v_imul C dX6_rest_48 ?_
      refine v_iadd C dX6_rest_49 ?_
      refine v_isub C dX6_rest_50 ?_
      refine v_istore_n C dX6_rest_51 (by decide) rfl ?_
      refine v_iinc (v := 1) C dX6_rest_52 rfl (by decide) (by decide) rfl ?_
      refine v_goto (tgt := 25) C dX6_rest_55 (by decide) ?_
      exact v_weak [true, true, true] (ih _ _ _ h)
set_option maxHeartbeats 4000000 in
set_option maxRecDepth 100000 in
theorem Mo_rest_ok (l : Launch) {G : GG} (hI : IG G) {M M' : Mem}  {r : Int32} (h : Mo_rest M = some (r, M')) : Sp l G yX6_rest cX6_rest 3 (some .int) 8 189 [.ref (G.2.1 32)] M (some (.int r)) M' := by
  unfold Mo_rest at h
  refine sp_intro [some (.ref (G.2.1 32)), none, none] hI (by decide) (Nat.le_of_ble_eq_true rfl) (fun _ hq => hq) (fun X _ C hQ => ?_)
  refine v_aload_n C dX6_rest_0 rfl ?_
  refine v_getr (j := 33) C fk_X6_7 rfl dX6_rest_1 ?_
  refine v_iconst (v := 2) C dX6_rest_4 (by decide) ?_
  refine v_iald_k (k := 2) (n := 35) C rfl rfl (by decide) dX6_rest_5 ?_
  refine v_aload_n C dX6_rest_6 rfl ?_
  obtain ⟨r3, M1, c2, h⟩ := hB h
  refine v_callVi C (Mo_lengthsBut_ok (xl X) C.ig c2) ml_X6_224 mb_X6_lengthsBut mv_X6_lengthsBut rfl rfl rfl (Nat.le_of_ble_eq_true rfl) (by decide) (by decide) dX6_rest_7 ?_
  refine v_isub C dX6_rest_10 ?_
  refine v_aload_n C dX6_rest_11 rfl ?_
  refine v_aload_n C dX6_rest_12 rfl ?_
  refine v_getr (j := 33) C fk_X6_7 rfl dX6_rest_13 ?_
  refine v_iconst (v := 0) C dX6_rest_16 (by decide) ?_
  refine v_iald_k (k := 0) (n := 35) C rfl rfl (by decide) dX6_rest_17 ?_
  obtain ⟨r6, M4, c5, h⟩ := hB h
  refine v_callVi C (Mo_lengthsAt_ok (xl X) C.ig c5) ml_X6_221 mb_X6_lengthsAt mv_X6_lengthsAt rfl rfl rfl (Nat.le_of_ble_eq_true rfl) (by decide) (by decide) dX6_rest_18 ?_
  refine v_isub C dX6_rest_21 ?_
  refine v_istore_n C dX6_rest_22 (by decide) rfl ?_
  refine v_iconst (v := 0) C dX6_rest_23 (by decide) ?_
  refine v_istore_n C dX6_rest_24 (by decide) rfl ?_
  exact v_weak [true, true, true] (Mo_rest_L25_ok C hQ _ _ _ _ h)
set_option maxHeartbeats 4000000 in
set_option maxRecDepth 100000 in
theorem Mo_rule_ok (l : Launch) {G : GG} (hI : IG G) {M M' : Mem} {v1 : Int32} {r : Int32} (h : Mo_rule v1 M = some (r, M')) : Sp l G yX6_rule cX6_rule 2 (some .int) 9 211 [.ref (G.2.1 32), .int v1] M (some (.int r)) M' := by
  unfold Mo_rule at h
  refine sp_intro [some (.ref (G.2.1 32)), some (.int v1)] hI (by decide) (Nat.le_of_ble_eq_true rfl) (fun _ hq => hq) (fun X _ C hQ => ?_)
  refine v_aload_n C dX6_rule_0 rfl ?_
  obtain ⟨M1, c2, h⟩ := hV h
  refine v_callVv C (Mo_findAllIndices_ok (xl X) C.ig c2) ml_X6_227 mb_X6_findAllIndices mv_X6_findAllIndices rfl rfl rfl (Nat.le_of_ble_eq_true rfl) (by decide) (by decide) dX6_rule_1 ?_
  refine v_iload_n C dX6_rule_4 rfl ?_
  by_cases q5_0 : v1 = 0
  · subst q5_0
    replace h := hT rfl h
    refine v_tin (tgt := 52) C dX6_rule_5 (by decide) (by decide) rfl (by decide) ?_
    refine v_aload_n C dX6_rule_52 rfl ?_
    refine v_getr (j := 33) C fk_X6_7 rfl dX6_rule_53 ?_
    refine v_iconst (v := 1) C dX6_rule_56 (by decide) ?_
    refine v_iald_k (k := 1) (n := 35) C rfl rfl (by decide) dX6_rule_57 ?_
    obtain ⟨rfl, rfl⟩ := hR h
    exact v_iret C hQ dX6_rule_58
  replace h := hF q5_0 h
  by_cases q5_1 : v1 = 1
  · subst q5_1
    replace h := hT rfl h
    refine v_tin (tgt := 59) C dX6_rule_5 (by decide) (by decide) rfl (by decide) ?_
    refine v_aload_n C dX6_rule_59 rfl ?_
    refine v_getr (j := 33) C fk_X6_7 rfl dX6_rule_60 ?_
    refine v_iconst (v := 2) C dX6_rule_63 (by decide) ?_
    refine v_iald_k (k := 2) (n := 35) C rfl rfl (by decide) dX6_rule_64 ?_
    obtain ⟨rfl, rfl⟩ := hR h
    exact v_iret C hQ dX6_rule_65
  replace h := hF q5_1 h
  by_cases q5_2 : v1 = 2
  · subst q5_2
    replace h := hT rfl h
    refine v_tin (tgt := 66) C dX6_rule_5 (by decide) (by decide) rfl (by decide) ?_
    refine v_aload_n C dX6_rule_66 rfl ?_
    refine v_getr (j := 33) C fk_X6_7 rfl dX6_rule_67 ?_
    refine v_iconst (v := 0) C dX6_rule_70 (by decide) ?_
    refine v_iald_k (k := 0) (n := 35) C rfl rfl (by decide) dX6_rule_71 ?_
    obtain ⟨rfl, rfl⟩ := hR h
    exact v_iret C hQ dX6_rule_72
  replace h := hF q5_2 h
  by_cases q5_3 : v1 = 3
  · subst q5_3
    replace h := hT rfl h
    refine v_tin (tgt := 73) C dX6_rule_5 (by decide) (by decide) rfl (by decide) ?_
    refine v_aload_n C dX6_rule_73 rfl ?_
    refine v_getr (j := 39) C fk_X6_29 rfl dX6_rule_74 ?_
    obtain ⟨r5, M3, c4, h⟩ := hB h
    refine v_callSi C (Mo_manyOf_ok (xl X) C.ig c4) ml_X6_207 mb_X6_manyOf ms_X6_manyOf rfl rfl (Nat.le_of_ble_eq_true rfl) (by decide) (by decide) dX6_rule_77 ?_
    obtain ⟨rfl, rfl⟩ := hR h
    exact v_iret C hQ dX6_rule_80
  replace h := hF q5_3 h
  by_cases q5_4 : v1 = 4
  · subst q5_4
    replace h := hT rfl h
    refine v_tin (tgt := 81) C dX6_rule_5 (by decide) (by decide) rfl (by decide) ?_
    refine v_aload_n C dX6_rule_81 rfl ?_
    refine v_getr (j := 40) C fk_X6_32 rfl dX6_rule_82 ?_
    obtain ⟨r8, M6, c7, h⟩ := hB h
    refine v_callSi C (Mo_manyOf_ok (xl X) C.ig c7) ml_X6_207 mb_X6_manyOf ms_X6_manyOf rfl rfl (Nat.le_of_ble_eq_true rfl) (by decide) (by decide) dX6_rule_85 ?_
    obtain ⟨rfl, rfl⟩ := hR h
    exact v_iret C hQ dX6_rule_88
  replace h := hF q5_4 h
  by_cases q5_5 : v1 = 5
  · subst q5_5
    replace h := hT rfl h
    refine v_tin (tgt := 89) C dX6_rule_5 (by decide) (by decide) rfl (by decide) ?_
    refine v_aload_n C dX6_rule_89 rfl ?_
    refine v_aload_n C dX6_rule_90 rfl ?_
    refine v_getr (j := 33) C fk_X6_7 rfl dX6_rule_91 ?_
    refine v_iconst (v := 0) C dX6_rule_94 (by decide) ?_
    refine v_iald_k (k := 0) (n := 35) C rfl rfl (by decide) dX6_rule_95 ?_
    obtain ⟨r11, M9, c10, h⟩ := hB h
    refine v_callVi C (Mo_lengthsAt_ok (xl X) C.ig c10) ml_X6_221 mb_X6_lengthsAt mv_X6_lengthsAt rfl rfl rfl (Nat.le_of_ble_eq_true rfl) (by decide) (by decide) dX6_rule_96 ?_
    obtain ⟨rfl, rfl⟩ := hR h
    exact v_iret C hQ dX6_rule_99
  replace h := hF q5_5 h
  by_cases q5_6 : v1 = 6
  · subst q5_6
    replace h := hT rfl h
    refine v_tin (tgt := 100) C dX6_rule_5 (by decide) (by decide) rfl (by decide) ?_
    refine v_aload_n C dX6_rule_100 rfl ?_
    obtain ⟨r14, M12, c13, h⟩ := hB h
    refine v_callVi C (Mo_lengthsBut_ok (xl X) C.ig c13) ml_X6_224 mb_X6_lengthsBut mv_X6_lengthsBut rfl rfl rfl (Nat.le_of_ble_eq_true rfl) (by decide) (by decide) dX6_rule_101 ?_
    obtain ⟨rfl, rfl⟩ := hR h
    exact v_iret C hQ dX6_rule_104
  replace h := hF q5_6 h
  by_cases q5_7 : v1 = 7
  · subst q5_7
    replace h := hT rfl h
    refine v_tin (tgt := 105) C dX6_rule_5 (by decide) (by decide) rfl (by decide) ?_
    refine v_aload_n C dX6_rule_105 rfl ?_
    obtain ⟨r17, M15, c16, h⟩ := hB h
    refine v_callVi C (Mo_rest_ok (xl X) C.ig c16) ml_X6_230 mb_X6_rest mv_X6_rest rfl rfl rfl (Nat.le_of_ble_eq_true rfl) (by decide) (by decide) dX6_rule_106 ?_
    obtain ⟨rfl, rfl⟩ := hR h
    exact v_iret C hQ dX6_rule_109
  replace h := hF q5_7 h
  refine v_tout (tgt := 110) C dX6_rule_5 (tsw8 q5_0 q5_1 q5_2 q5_3 q5_4 q5_5 q5_6 q5_7) (by decide) ?_
  refine v_iconst (v := (-1)) C dX6_rule_110 (by decide) ?_
  obtain ⟨rfl, rfl⟩ := hR h
  exact v_iret C hQ dX6_rule_111
