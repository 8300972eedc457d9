set_option maxHeartbeats 4000000 in
set_option maxRecDepth 100000 in
theorem Mo_open_b63_ok {X : XX} {G : GG} (C : Cx X G cX6_open 5 RX6 2 45 (some .int)) {r : Int32} {M' : Mem} (hQ : Rt X G (some (.int r)) M') {k28 : Int32 → Int32 → Int32 → Mem → Option (Int32 × Mem)} {k36 : Int32 → Int32 → Int32 → Int32 → Mem → Option (Int32 × Mem)} (H28 : ∀ (v1 : Int32) (v2 : Int32) (v3 : Int32) (M : Mem), k28 v1 v2 v3 M = some (r, M') → V X G 5 M 28 [some (.ref (G.2.1 32)), some (.int v1), some (.int v2), some (.int v3), none] []) (H36 : ∀ (v1 : Int32) (v2 : Int32) (v3 : Int32) (v4 : Int32) (M : Mem), k36 v1 v2 v3 v4 M = some (r, M') → V X G 5 M 36 [some (.ref (G.2.1 32)), some (.int v1), some (.int v2), some (.int v3), some (.int v4)] []) {v1 : Int32} {v2 : Int32} {v3 : Int32} {v4 : Int32} {s1 : Int32} {s2 : Int32} {s3 : Int32} {M : Mem}  (h : Mo_open_b63 k28 k36 v1 v2 v3 v4 s1 s2 s3 M = some (r, M')) : V X G 5 M 63 [some (.ref (G.2.1 32)), some (.int v1), some (.int v2), some (.int v3), some (.int v4)] [.int s3, .int s2, .int s1, .ref (G.2.1 32)] := by
  unfold Mo_open_b63 at h
  refine v_iconst (v := 0) C dX6_open_63 (by decide) ?_
  obtain ⟨M1, c2, h⟩ := hV h
  refine v_callVv C (Mo_becomes_ok (xl X) C.ig c2) ml_X6_265 mb_X6_becomes mv_X6_becomes rfl rfl rfl (Nat.le_of_ble_eq_true rfl) (by decide) (by decide) dX6_open_64 ?_
  refine v_iinc (v := 1) C dX6_open_67 rfl (by decide) (by decide) rfl ?_
  refine v_goto (tgt := 36) C dX6_open_70 (by decide) ?_
  exact v_weak [true, true, true, true, true] (H36 _ _ _ _ _ h)
set_option maxHeartbeats 4000000 in
set_option maxRecDepth 100000 in
theorem Mo_open_b54_ok {X : XX} {G : GG} (C : Cx X G cX6_open 5 RX6 2 45 (some .int)) {r : Int32} {M' : Mem} (hQ : Rt X G (some (.int r)) M') {k28 : Int32 → Int32 → Int32 → Mem → Option (Int32 × Mem)} {k36 : Int32 → Int32 → Int32 → Int32 → Mem → Option (Int32 × Mem)} (H28 : ∀ (v1 : Int32) (v2 : Int32) (v3 : Int32) (M : Mem), k28 v1 v2 v3 M = some (r, M') → V X G 5 M 28 [some (.ref (G.2.1 32)), some (.int v1), some (.int v2), some (.int v3), none] []) (H36 : ∀ (v1 : Int32) (v2 : Int32) (v3 : Int32) (v4 : Int32) (M : Mem), k36 v1 v2 v3 v4 M = some (r, M') → V X G 5 M 36 [some (.ref (G.2.1 32)), some (.int v1), some (.int v2), some (.int v3), some (.int v4)] []) {v1 : Int32} {v2 : Int32} {v3 : Int32} {v4 : Int32} {s1 : Int32} {s2 : Int32} {M : Mem}  (h : Mo_open_b54 k28 k36 v1 v2 v3 v4 s1 s2 M = some (r, M')) : V X G 5 M 54 [some (.ref (G.2.1 32)), some (.int v1), some (.int v2), some (.int v3), some (.int v4)] [.int s2, .int s1, .ref (G.2.1 32)] := by
  unfold Mo_open_b54 at h
  refine v_iload_n C dX6_open_54 rfl ?_
  refine v_if_ne (tgt := 62) C dX6_open_55 (by decide) (fun q => ?_) (fun q => ?_)
  · replace h := hF q h
    refine v_iload_n C dX6_open_62 rfl ?_
    exact v_weak [true, true, true, true, true] (Mo_open_b63_ok C hQ H28 H36 h)
  · replace h := hT q h
    refine v_iload_n C dX6_open_58 rfl ?_
    refine v_goto (tgt := 63) C dX6_open_59 (by decide) ?_
    exact v_weak [true, true, true, true, true] (Mo_open_b63_ok C hQ H28 H36 h)
set_option maxHeartbeats 4000000 in
set_option maxRecDepth 100000 in
theorem Mo_open_L36_ok {X : XX} {G : GG} (C : Cx X G cX6_open 5 RX6 2 45 (some .int)) {r : Int32} {M' : Mem} (hQ : Rt X G (some (.int r)) M') {k28 : Int32 → Int32 → Int32 → Mem → Option (Int32 × Mem)} (H28 : ∀ (v1 : Int32) (v2 : Int32) (v3 : Int32) (M : Mem), k28 v1 v2 v3 M = some (r, M') → V X G 5 M 28 [some (.ref (G.2.1 32)), some (.int v1), some (.int v2), some (.int v3), none] []) : ∀ (n : Nat) (v1 : Int32) (v2 : Int32) (v3 : Int32) (v4 : Int32) (M : Mem), Mo_open_L36 k28 n v1 v2 v3 v4 M = some (r, M') → V X G 5 M 36 [some (.ref (G.2.1 32)), some (.int v1), some (.int v2), some (.int v3), some (.int v4)] [] := by
  intro n
  induction n with
  | zero =>
    intro v1 v2 v3 v4 M h
    simp [Mo_open_L36] at h
  | succ n ih =>
    intro v1 v2 v3 v4 M h
    rw [Mo_open_L36] at h
    refine v_iload C dX6_open_36 rfl ?_
    refine v_iconst (v := 2) C dX6_open_38 (by decide) ?_
    refine v_icmp_ge (tgt := 73) C dX6_open_39 (by decide) (fun q => ?_) (fun q => ?_)
    · replace h := hT q h
      refine v_iinc (v := 1) C dX6_open_73 rfl (by decide) (by decide) rfl ?_
      refine v_goto (tgt := 28) C dX6_open_76 (by decide) ?_
      exact v_weak [true, true, true, true, false] (H28 _ _ _ _ h)
    · replace h := hF q h
      refine v_aload_n C dX6_open_42 rfl ?_
      refine v_iload C dX6_open_43 rfl ?_
      refine v_iload_n C dX6_open_45 rfl ?_
      refine v_if_ne (tgt := 53) C dX6_open_46 (by decide) (fun q => ?_) (fun q => ?_)
      · replace h := hF q h
        refine v_iload_n C dX6_open_53 rfl ?_
        exact v_weak [true, true, true, true, true] (Mo_open_b54_ok C hQ H28 ih h)
      · replace h := hT q h
        refine v_iload_n C dX6_open_49 rfl ?_
        refine v_goto (tgt := 54) C dX6_open_50 (by decide) ?_
        exact v_weak [true, true, true, true, true] (Mo_open_b54_ok C hQ H28 ih h)
set_option maxHeartbeats 4000000 in
set_option maxRecDepth 100000 in
theorem Mo_open_L28_ok {X : XX} {G : GG} (C : Cx X G cX6_open 5 RX6 2 45 (some .int)) {r : Int32} {M' : Mem} (hQ : Rt X G (some (.int r)) M')   : ∀ (n : Nat) (v1 : Int32) (v2 : Int32) (v3 : Int32) (M : Mem), Mo_open_L28 n v1 v2 v3 M = some (r, M') → V X G 5 M 28 [some (.ref (G.2.1 32)), some (.int v1), some (.int v2), some (.int v3), none] [] := by
  intro n
  induction n with
  | zero =>
    intro v1 v2 v3 M h
    simp [Mo_open_L28] at h
  | succ n ih =>
    intro v1 v2 v3 M h
    rw [Mo_open_L28] at h
    refine v_iload_n C dX6_open_28 rfl ?_
    refine v_iconst (v := 4) C dX6_open_29 (by decide) ?_
    refine v_icmp_ge (tgt := 79) C dX6_open_30 (by decide) (fun q => ?_) (fun q => ?_)
    · replace h := hT q h
      refine v_aload_n C dX6_open_79 rfl ?_
      refine v_getr (j := 33) C fk_X6_7 rfl dX6_open_80 ?_
      refine v_iconst (v := 1) C dX6_open_83 (by decide) ?_
      refine v_iload_n C dX6_open_84 rfl ?_
      refine v_iadd C dX6_open_85 ?_
      refine v_iload_n C dX6_open_86 rfl ?_
      refine v_iconst (v := 1) C dX6_open_87 (by decide) ?_
      refine v_iadd C dX6_open_88 ?_
      obtain ⟨q1, h⟩ := hG h
      refine v_iast C rfl q1 dX6_open_89 ?_
      refine v_iload_n C dX6_open_90 rfl ?_
      refine v_iconst (v := 1) C dX6_open_91 (by decide) ?_
      refine v_iadd C dX6_open_92 ?_
      obtain ⟨rfl, rfl⟩ := hR h
      exact v_iret C hQ dX6_open_93
    · replace h := hF q h
      refine v_iconst (v := 0) C dX6_open_33 (by decide) ?_
      refine v_istore C dX6_open_34 (by decide) rfl ?_
      exact v_weak [true, true, true, true, true] (Mo_open_L36_ok C hQ ih _ _ _ _ _ _ h)
set_option maxHeartbeats 4000000 in
set_option maxRecDepth 100000 in
theorem Mo_open_ok (l : Launch) {G : GG} (hI : IG G) {M M' : Mem} {v1 : Int32} {r : Int32} (h : Mo_open v1 M = some (r, M')) : Sp l G yX6_open cX6_open 5 (some .int) 2 45 [.ref (G.2.1 32), .int v1] M (some (.int r)) M' := by
  unfold Mo_open at h
  refine sp_intro [some (.ref (G.2.1 32)), some (.int v1), none, none, none] hI (by decide) (Nat.le_of_ble_eq_true rfl) (fun _ hq => hq) (fun X _ C hQ => ?_)
  refine v_iload_n C dX6_open_0 rfl ?_
  obtain ⟨r3, M1, c2, h⟩ := hB h
  refine v_callSi C (Mo_isPart_ok (xl X) C.ig c2) ml_X6_252 mb_X6_isPart ms_X6_isPart rfl rfl (Nat.le_of_ble_eq_true rfl) (by decide) (by decide) dX6_open_1 ?_
  refine v_if_ne (tgt := 9) C dX6_open_4 (by decide) (fun q => ?_) (fun q => ?_)
  · replace h := hF q h
    refine v_aload_n C dX6_open_9 rfl ?_
    refine v_getr (j := 33) C fk_X6_7 rfl dX6_open_10 ?_
    refine v_iconst (v := 1) C dX6_open_13 (by decide) ?_
    refine v_iload_n C dX6_open_14 rfl ?_
    refine v_iadd C dX6_open_15 ?_
    obtain ⟨q4, h⟩ := hG h
    refine v_iald C rfl q4 dX6_open_16 ?_
    refine v_istore_n C dX6_open_17 (by decide) rfl ?_
    refine v_iload_n C dX6_open_18 rfl ?_
    refine v_iconst (v := 4) C dX6_open_19 (by decide) ?_
    refine v_icmp_ne (tgt := 26) C dX6_open_20 (by decide) (fun q => ?_) (fun q => ?_)
    · replace h := hF q h
      refine v_iconst (v := 0) C dX6_open_26 (by decide) ?_
      refine v_istore_n C dX6_open_27 (by decide) rfl ?_
      exact v_weak [true, true, true, true, false] (Mo_open_L28_ok C hQ _ _ _ _ _ h)
    · replace h := hT q h
      refine v_bipush (v := (-3)) C dX6_open_23 (by decide) ?_
      obtain ⟨rfl, rfl⟩ := hR h
      exact v_iret C hQ dX6_open_25
  · replace h := hT q h
    refine v_iconst (v := (-1)) C dX6_open_7 (by decide) ?_
    obtain ⟨rfl, rfl⟩ := hR h
    exact v_iret C hQ dX6_open_8
set_option maxHeartbeats 4000000 in
set_option maxRecDepth 100000 in
theorem Mo_shape_ok (l : Launch) {G : GG} (hI : IG G) {M M' : Mem}  {r : Int32} (h : Mo_shape M = some (r, M')) : Sp l G yX6_shape cX6_shape 1 (some .int) 0 0 [.ref (G.2.1 32)] M (some (.int r)) M' := by
  unfold Mo_shape at h
  refine sp_intro [some (.ref (G.2.1 32))] hI (by decide) (Nat.le_of_ble_eq_true rfl) (fun _ hq => hq) (fun X _ C hQ => ?_)
  refine v_bipush (v := 10) C dX6_shape_0 (by decide) ?_
  refine v_aload_n C dX6_shape_2 rfl ?_
  refine v_getr (j := 33) C fk_X6_7 rfl dX6_shape_3 ?_
  refine v_iconst (v := 1) C dX6_shape_6 (by decide) ?_
  refine v_iald_k (k := 1) (n := 35) C rfl rfl (by decide) dX6_shape_7 ?_
  refine v_imul C dX6_shape_8 ?_
  refine v_aload_n C dX6_shape_9 rfl ?_
  refine v_getr (j := 33) C fk_X6_7 rfl dX6_shape_10 ?_
  refine v_iconst (v := 2) C dX6_shape_13 (by decide) ?_
  refine v_iald_k (k := 2) (n := 35) C rfl rfl (by decide) dX6_shape_14 ?_
  refine v_iadd C dX6_shape_15 ?_
  obtain ⟨rfl, rfl⟩ := hR h
  exact v_iret C hQ dX6_shape_16
set_option maxHeartbeats 4000000 in
set_option maxRecDepth 100000 in
theorem Mo_cut_ok (l : Launch) {G : GG} (hI : IG G) {M M' : Mem} {v1 : Int32} {v2 : Int32} {r : Int32} (h : Mo_cut v1 v2 M = some (r, M')) : Sp l G yX6_cut cX6_cut 4 (some .int) 1 25 [.ref (G.2.1 32), .int v1, .int v2] M (some (.int r)) M' := by
  unfold Mo_cut at h
  refine sp_intro [some (.ref (G.2.1 32)), some (.int v1), some (.int v2), none] hI (by decide) (Nat.le_of_ble_eq_true rfl) (fun _ hq => hq) (fun X _ C hQ => ?_)
  refine v_iload_n C dX6_cut_0 rfl ?_
  refine v_i2l C dX6_cut_1 ?_
  refine v_lconst (v := 0) C dX6_cut_2 (by decide) ?_
  refine v_aload_n C dX6_cut_3 rfl ?_
  refine v_getr (j := 33) C fk_X6_7 rfl dX6_cut_4 ?_
  refine v_iconst (v := 1) C dX6_cut_7 (by decide) ?_
  refine v_iald_k (k := 1) (n := 35) C rfl rfl (by decide) dX6_cut_8 ?_
  refine v_i2l C dX6_cut_9 ?_
  obtain ⟨r3, M1, c2, h⟩ := hB h
  refine v_callSi C (Mo_in_ok (xl X) C.ig c2) ml_X6_64 mb_X6_in ms_X6_in rfl rfl (Nat.le_of_ble_eq_true rfl) (by decide) (by decide) dX6_cut_10 ?_
  refine v_if_eq (tgt := 32) C dX6_cut_13 (by decide) (fun q => ?_) (fun q => ?_)
  · replace h := hT q h
    refine v_iconst (v := (-1)) C dX6_cut_32 (by decide) ?_
    obtain ⟨rfl, rfl⟩ := hR h
    exact v_iret C hQ dX6_cut_33
  · replace h := hF q h
    refine v_iload_n C dX6_cut_16 rfl ?_
    refine v_i2l C dX6_cut_17 ?_
    refine v_lconst (v := 0) C dX6_cut_18 (by decide) ?_
    refine v_aload_n C dX6_cut_19 rfl ?_
    refine v_getr (j := 33) C fk_X6_7 rfl dX6_cut_20 ?_
    refine v_iconst (v := 2) C dX6_cut_23 (by decide) ?_
    refine v_iald_k (k := 2) (n := 35) C rfl rfl (by decide) dX6_cut_24 ?_
    refine v_i2l C dX6_cut_25 ?_
    obtain ⟨r6, M4, c5, h⟩ := hB h
    refine v_callSi C (Mo_in_ok (xl X) C.ig c5) ml_X6_64 mb_X6_in ms_X6_in rfl rfl (Nat.le_of_ble_eq_true rfl) (by decide) (by decide) dX6_cut_26 ?_
    refine v_if_ne (tgt := 34) C dX6_cut_29 (by decide) (fun q => ?_) (fun q => ?_)
    · replace h := hF q h
      refine v_aload_n C dX6_cut_34 rfl ?_
      obtain ⟨r9, M7, c8, h⟩ := hB h
      refine v_callVi C (Mo_shape_ok (xl X) C.ig c8) ml_X6_268 mb_X6_shape mv_X6_shape rfl rfl rfl (Nat.le_of_ble_eq_true rfl) (by decide) (by decide) dX6_cut_35 ?_
      refine v_istore_n C dX6_cut_38 (by decide) rfl ?_
      refine v_aload_n C dX6_cut_39 rfl ?_
      refine v_getr (j := 33) C fk_X6_7 rfl dX6_cut_40 ?_
      refine v_iconst (v := 1) C dX6_cut_43 (by decide) ?_
      refine v_iload_n C dX6_cut_44 rfl ?_
      refine v_iast_k (k := 1) (n := 35) C rfl rfl (by decide) dX6_cut_45 ?_
      refine v_aload_n C dX6_cut_46 rfl ?_
      refine v_getr (j := 33) C fk_X6_7 rfl dX6_cut_47 ?_
      refine v_iconst (v := 2) C dX6_cut_50 (by decide) ?_
      refine v_iload_n C dX6_cut_51 rfl ?_
      refine v_iast_k (k := 2) (n := 35) C rfl rfl (by decide) dX6_cut_52 ?_
      refine v_iload_n C dX6_cut_53 rfl ?_
      obtain ⟨rfl, rfl⟩ := hR h
      exact v_iret C hQ dX6_cut_54
    · replace h := hT q h
      refine v_iconst (v := (-1)) C dX6_cut_32 (by decide) ?_
      obtain ⟨rfl, rfl⟩ := hR h
      exact v_iret C hQ dX6_cut_33
set_option maxHeartbeats 4000000 in
set_option maxRecDepth 100000 in
theorem Mo_isLine_ok (l : Launch) {G : GG} (hI : IG G) {M M' : Mem} {v1 : Int32} {v2 : Int32} {r : Int32} (h : Mo_isLine v1 v2 M = some (r, M')) : Sp l G yX6_isLine cX6_isLine 3 (some .boolean) 2 45 [.ref (G.2.1 32), .int v1, .int v2] M (some (.int r)) M' := by
  unfold Mo_isLine at h
  refine sp_intro [some (.ref (G.2.1 32)), some (.int v1), some (.int v2)] hI (by decide) (Nat.le_of_ble_eq_true rfl) (fun _ hq => hq) (fun X _ C hQ => ?_)
  refine v_iload_n C dX6_isLine_0 rfl ?_
  obtain ⟨r3, M1, c2, h⟩ := hB h
  refine v_callSi C (Mo_isPart_ok (xl X) C.ig c2) ml_X6_252 mb_X6_isPart ms_X6_isPart rfl rfl (Nat.le_of_ble_eq_true rfl) (by decide) (by decide) dX6_isLine_1 ?_
  refine v_if_eq (tgt := 31) C dX6_isLine_4 (by decide) (fun q => ?_) (fun q => ?_)
  · replace h := hT q h
    refine v_iconst (v := 0) C dX6_isLine_31 (by decide) ?_
    obtain ⟨rfl, rfl⟩ := hR h
    exact v_zret C hQ rfl dX6_isLine_32
  · replace h := hF q h
    refine v_iload_n C dX6_isLine_7 rfl ?_
    refine v_i2l C dX6_isLine_8 ?_
    refine v_lconst (v := 0) C dX6_isLine_9 (by decide) ?_
    refine v_aload_n C dX6_isLine_10 rfl ?_
    refine v_getr (j := 33) C fk_X6_7 rfl dX6_isLine_11 ?_
    refine v_iconst (v := 1) C dX6_isLine_14 (by decide) ?_
    refine v_iload_n C dX6_isLine_15 rfl ?_
    refine v_iadd C dX6_isLine_16 ?_
    obtain ⟨q4, h⟩ := hG h
    refine v_iald C rfl q4 dX6_isLine_17 ?_
    refine v_iconst (v := 1) C dX6_isLine_18 (by decide) ?_
    refine v_isub C dX6_isLine_19 ?_
    refine v_i2l C dX6_isLine_20 ?_
    obtain ⟨r7, M5, c6, h⟩ := hB h
    refine v_callSi C (Mo_in_ok (xl X) C.ig c6) ml_X6_64 mb_X6_in ms_X6_in rfl rfl (Nat.le_of_ble_eq_true rfl) (by decide) (by decide) dX6_isLine_21 ?_
    refine v_if_eq (tgt := 31) C dX6_isLine_24 (by decide) (fun q => ?_) (fun q => ?_)
    · replace h := hT q h
      refine v_iconst (v := 0) C dX6_isLine_31 (by decide) ?_
      obtain ⟨rfl, rfl⟩ := hR h
      exact v_zret C hQ rfl dX6_isLine_32
    · replace h := hF q h
      refine v_iconst (v := 1) C dX6_isLine_27 (by decide) ?_
      refine v_goto (tgt := 32) C dX6_isLine_28 (by decide) ?_
      obtain ⟨rfl, rfl⟩ := hR h
      exact v_zret C hQ rfl dX6_isLine_32
set_option maxHeartbeats 4000000 in
set_option maxRecDepth 100000 in
theorem Mo_isTimes_ok (l : Launch) {G : GG} (hI : IG G) {M M' : Mem} {v1 : Int32} {r : Int32} (h : Mo_isTimes v1 M = some (r, M')) : Sp l G yX6_isTimes cX6_isTimes 2 (some .boolean) 1 25 [.ref (G.2.1 32), .int v1] M (some (.int r)) M' := by
  unfold Mo_isTimes at h
  refine sp_intro [some (.ref (G.2.1 32)), some (.int v1)] hI (by decide) (Nat.le_of_ble_eq_true rfl) (fun _ hq => hq) (fun X _ C hQ => ?_)
  refine v_iload_n C dX6_isTimes_0 rfl ?_
  refine v_i2l C dX6_isTimes_1 ?_
  refine v_lconst (v := 1) C dX6_isTimes_2 (by decide) ?_
  refine v_aload_n C dX6_isTimes_3 rfl ?_
  refine v_getr (j := 33) C fk_X6_7 rfl dX6_isTimes_4 ?_
  refine v_iconst (v := 0) C dX6_isTimes_7 (by decide) ?_
  refine v_iald_k (k := 0) (n := 35) C rfl rfl (by decide) dX6_isTimes_8 ?_
  refine v_iconst (v := 1) C dX6_isTimes_9 (by decide) ?_
  refine v_isub C dX6_isTimes_10 ?_
  refine v_i2l C dX6_isTimes_11 ?_
  obtain ⟨r3, M1, c2, h⟩ := hB h
  refine v_callSi C (Mo_in_ok (xl X) C.ig c2) ml_X6_64 mb_X6_in ms_X6_in rfl rfl (Nat.le_of_ble_eq_true rfl) (by decide) (by decide) dX6_isTimes_12 ?_
  obtain ⟨q4, h⟩ := hG h
  obtain ⟨rfl, rfl⟩ := hR h
  exact v_zret C hQ q4 dX6_isTimes_15
set_option maxHeartbeats 4000000 in
set_option maxRecDepth 100000 in
theorem Mo_lineOf_ok (l : Launch) {G : GG} (hI : IG G) {M M' : Mem} {v1 : Int32} {v2 : Int32} {v3 : Int32} {v4 : Int32} {r : Int32} (h : Mo_lineOf v1 v2 v3 v4 M = some (r, M')) : Sp l G yX6_lineOf cX6_lineOf 5 (some .int) 1 23 [.ref (G.2.1 32), .int v1, .int v2, .int v3, .int v4] M (some (.int r)) M' := by
  unfold Mo_lineOf at h
  refine sp_intro [some (.ref (G.2.1 32)), some (.int v1), some (.int v2), some (.int v3), some (.int v4)] hI (by decide) (Nat.le_of_ble_eq_true rfl) (fun _ hq => hq) (fun X _ C hQ => ?_)
  refine v_iload_n C dX6_lineOf_0 rfl ?_
  refine v_if_ne (tgt := 15) C dX6_lineOf_1 (by decide) (fun q => ?_) (fun q => ?_)
  · replace h := hF q h
    refine v_aload_n C dX6_lineOf_15 rfl ?_
    refine v_iload_n C dX6_lineOf_16 rfl ?_
    refine v_iload C dX6_lineOf_17 rfl ?_
    refine v_iload_n C dX6_lineOf_19 rfl ?_
    obtain ⟨r3, M1, c2, h⟩ := hB h
    refine v_callVi C (Mo_of_ok (xl X) C.ig c2) ml_X6_150 mb_X6_of mv_X6_of rfl rfl rfl (Nat.le_of_ble_eq_true rfl) (by decide) (by decide) dX6_lineOf_20 ?_
    obtain ⟨rfl, rfl⟩ := hR h
    exact v_iret C hQ dX6_lineOf_23
  · replace h := hT q h
    refine v_aload_n C dX6_lineOf_4 rfl ?_
    refine v_iload_n C dX6_lineOf_5 rfl ?_
    refine v_iload_n C dX6_lineOf_6 rfl ?_
    refine v_iload C dX6_lineOf_7 rfl ?_
    obtain ⟨r6, M4, c5, h⟩ := hB h
    refine v_callVi C (Mo_of_ok (xl X) C.ig c5) ml_X6_150 mb_X6_of mv_X6_of rfl rfl rfl (Nat.le_of_ble_eq_true rfl) (by decide) (by decide) dX6_lineOf_9 ?_
    refine v_goto (tgt := 23) C dX6_lineOf_12 (by decide) ?_
    obtain ⟨rfl, rfl⟩ := hR h
    exact v_iret C hQ dX6_lineOf_23
set_option maxHeartbeats 4000000 in
set_option maxRecDepth 100000 in
theorem Mo_lineBecomes_b22_ok {X : XX} {G : GG} (C : Cx X G cX6_lineBecomes 6 RX6 1 24 none) {M' : Mem} (hQ : Rt X G none M')   {v5 : Int32} {s1 : Int32} {s2 : Int32} {s3 : Int32} {M : Mem}  (h : Mo_lineBecomes_b22 v5 s1 s2 s3 M = some M') : V X G 6 M 22 [some (.ref (G.2.1 32)), none, none, none, none, some (.int v5)] [.int s3, .int s2, .int s1, .ref (G.2.1 32)] := by
  unfold Mo_lineBecomes_b22 at h
  refine v_aload_n C dX6_lineBecomes_22 rfl ?_
  refine v_iload C dX6_lineBecomes_23 rfl ?_
  obtain ⟨r3, M1, c2, h⟩ := hB h
  refine v_callVi C (Mo_modulo_ok (xl X) C.ig c2) ml_X6_169 mb_X6_modulo mv_X6_modulo rfl rfl rfl (Nat.le_of_ble_eq_true rfl) (by decide) (by decide) dX6_lineBecomes_25 ?_
  obtain ⟨M4, c5, h⟩ := hV h
  refine v_callVv C (Mo_becomes_ok (xl X) C.ig c5) ml_X6_265 mb_X6_becomes mv_X6_becomes rfl rfl rfl (Nat.le_of_ble_eq_true rfl) (by decide) (by decide) dX6_lineBecomes_28 ?_
  obtain rfl := hRv h
  exact v_vret C hQ dX6_lineBecomes_31
set_option maxHeartbeats 4000000 in
set_option maxRecDepth 100000 in
theorem Mo_lineBecomes_b12_ok {X : XX} {G : GG} (C : Cx X G cX6_lineBecomes 6 RX6 1 24 none) {M' : Mem} (hQ : Rt X G none M')   {v2 : Int32} {v3 : Int32} {v4 : Int32} {v5 : Int32} {s1 : Int32} {s2 : Int32} {M : Mem}  (h : Mo_lineBecomes_b12 v2 v3 v4 v5 s1 s2 M = some M') : V X G 6 M 12 [some (.ref (G.2.1 32)), none, some (.int v2), some (.int v3), some (.int v4), some (.int v5)] [.int s2, .int s1, .ref (G.2.1 32)] := by
  unfold Mo_lineBecomes_b12 at h
  refine v_iload_n C dX6_lineBecomes_12 rfl ?_
  refine v_if_ne (tgt := 21) C dX6_lineBecomes_13 (by decide) (fun q => ?_) (fun q => ?_)
  · replace h := hF q h
    refine v_iload_n C dX6_lineBecomes_21 rfl ?_
    exact v_weak [true, false, false, false, false, true] (Mo_lineBecomes_b22_ok C hQ h)
  · replace h := hT q h
    refine v_iload C dX6_lineBecomes_16 rfl ?_
    refine v_goto (tgt := 22) C dX6_lineBecomes_18 (by decide) ?_
    exact v_weak [true, false, false, false, false, true] (Mo_lineBecomes_b22_ok C hQ h)
set_option maxHeartbeats 4000000 in
set_option maxRecDepth 100000 in
theorem Mo_lineBecomes_ok (l : Launch) {G : GG} (hI : IG G) {M M' : Mem} {v1 : Int32} {v2 : Int32} {v3 : Int32} {v4 : Int32} {v5 : Int32} (h : Mo_lineBecomes v1 v2 v3 v4 v5 M = some M') : Sp l G yX6_lineBecomes cX6_lineBecomes 6 none 1 24 [.ref (G.2.1 32), .int v1, .int v2, .int v3, .int v4, .int v5] M none M' := by
  unfold Mo_lineBecomes at h
  refine sp_intro [some (.ref (G.2.1 32)), some (.int v1), some (.int v2), some (.int v3), some (.int v4), some (.int v5)] hI (by decide) (Nat.le_of_ble_eq_true rfl) (fun _ hq => hq) (fun X _ C hQ => ?_)
  refine v_aload_n C dX6_lineBecomes_0 rfl ?_
  refine v_iload_n C dX6_lineBecomes_1 rfl ?_
  refine v_iload_n C dX6_lineBecomes_2 rfl ?_
  refine v_if_ne (tgt := 10) C dX6_lineBecomes_3 (by decide) (fun q => ?_) (fun q => ?_)
  · replace h := hF q h
    refine v_iload C dX6_lineBecomes_10 rfl ?_
    exact v_weak [true, false, true, true, true, true] (Mo_lineBecomes_b12_ok C hQ h)
  · replace h := hT q h
    refine v_iload_n C dX6_lineBecomes_6 rfl ?_
    refine v_goto (tgt := 12) C dX6_lineBecomes_7 (by decide) ?_
    exact v_weak [true, false, true, true, true, true] (Mo_lineBecomes_b12_ok C hQ h)
set_option maxHeartbeats 4000000 in
set_option maxRecDepth 100000 in
theorem Mo_mix_L46_ok {X : XX} {G : GG} (C : Cx X G cX6_mix 7 RX6 3 67 (some .int)) {r : Int32} {M' : Mem} (hQ : Rt X G (some (.int r)) M') {k37 : Int32 → Int32 → Int32 → Int32 → Int32 → Mem → Option (Int32 × Mem)} (H37 : ∀ (v1 : Int32) (v2 : Int32) (v3 : Int32) (v4 : Int32) (v5 : Int32) (M : Mem), k37 v1 v2 v3 v4 v5 M = some (r, M') → V X G 7 M 37 [some (.ref (G.2.1 32)), some (.int v1), some (.int v2), some (.int v3), some (.int v4), some (.int v5), none] []) : ∀ (n : Nat) (v1 : Int32) (v2 : Int32) (v3 : Int32) (v4 : Int32) (v5 : Int32) (v6 : Int32) (M : Mem), Mo_mix_L46 k37 n v1 v2 v3 v4 v5 v6 M = some (r, M') → V X G 7 M 46 [some (.ref (G.2.1 32)), some (.int v1), some (.int v2), some (.int v3), some (.int v4), some (.int v5), some (.int v6)] [] := by
  intro n
  induction n with
  | zero =>
    intro v1 v2 v3 v4 v5 v6 M h
    simp [Mo_mix_L46] at h
  | succ n ih =>
    intro v1 v2 v3 v4 v5 v6 M h
    rw [Mo_mix_L46] at h
    refine v_iload C dX6_mix_46 rfl ?_
    refine v_aload_n C dX6_mix_48 rfl ?_
    refine v_getr (j := 33) C fk_X6_7 rfl dX6_mix_49 ?_
    refine v_iconst (v := 2) C dX6_mix_52 (by decide) ?_
    refine v_iload_n C dX6_mix_53 rfl ?_
    refine v_isub C dX6_mix_54 ?_
    obtain ⟨q1, h⟩ := hG h
    refine v_iald C rfl q1 dX6_mix_55 ?_
    refine v_icmp_ge (tgt := 99) C dX6_mix_56 (by decide) (fun q => ?_) (fun q => ?_)
    · replace h := hT q h
      refine v_iinc (v := 1) C dX6_mix_99 rfl (by decide) (by decide) rfl ?_
      refine v_goto (tgt := 37) C dX6_mix_102 (by decide) ?_
      exact v_weak [true, true, true, true, true, true, false] (H37 _ _ _ _ _ _ h)
    · replace h := hF q h
      refine v_aload_n C dX6_mix_59 rfl ?_
      refine v_iload C dX6_mix_60 rfl ?_
      refine v_iload_n C dX6_mix_62 rfl ?_
      refine v_iload_n C dX6_mix_63 rfl ?_
      refine v_iload C dX6_mix_64 rfl ?_
      refine v_aload_n C dX6_mix_66 rfl ?_
      refine v_iload C dX6_mix_67 rfl ?_
      refine v_iload_n C dX6_mix_69 rfl ?_
      refine v_iload_n C dX6_mix_70 rfl ?_
      refine v_iload C dX6_mix_71 rfl ?_
      obtain ⟨r4, M2, c3, h⟩ := hB h
      refine v_callVi C (Mo_lineOf_ok (xl X) C.ig c3) ml_X6_277 mb_X6_lineOf mv_X6_lineOf rfl rfl rfl (Nat.le_of_ble_eq_true rfl) (by decide) (by decide) dX6_mix_73 ?_
      refine v_iload C dX6_mix_76 rfl ?_
      refine v_aload_n C dX6_mix_78 rfl ?_
      refine v_iload C dX6_mix_79 rfl ?_
      refine v_iload_n C dX6_mix_81 rfl ?_
      refine v_iload_n C dX6_mix_82 rfl ?_
      refine v_iload C dX6_mix_83 rfl ?_
      obtain ⟨r7, M5, c6, h⟩ := hB h
      refine v_callVi C (Mo_lineOf_ok (xl X) C.ig c6) ml_X6_277 mb_X6_lineOf mv_X6_lineOf rfl rfl rfl (Nat.le_of_ble_eq_true rfl) (by decide) (by decide) dX6_mix_85 ?_
      refine v_imul C dX6_mix_88 ?_
      refine v_iadd C dX6_mix_89 ?_
      obtain ⟨M8, c9, h⟩ := hV h
      refine v_callVv C (Mo_lineBecomes_ok (xl X) C.ig c9) ml_X6_281 mb_X6_lineBecomes mv_X6_lineBecomes rfl rfl rfl (Nat.le_of_ble_eq_true rfl) (by decide) (by decide) dX6_mix_90 ?_
      refine v_iinc (v := 1) C dX6_mix_93 rfl (by decide) (by decide) rfl ?_
      refine v_goto (tgt := 46) C dX6_mix_96 (by decide) ?_
      exact v_weak [true, true, true, true, true, true, true] (ih _ _ _ _ _ _ _ h)
set_option maxHeartbeats 4000000 in
set_option maxRecDepth 100000 in
theorem Mo_mix_L37_ok {X : XX} {G : GG} (C : Cx X G cX6_mix 7 RX6 3 67 (some .int)) {r : Int32} {M' : Mem} (hQ : Rt X G (some (.int r)) M')   : ∀ (n : Nat) (v1 : Int32) (v2 : Int32) (v3 : Int32) (v4 : Int32) (v5 : Int32) (M : Mem), Mo_mix_L37 n v1 v2 v3 v4 v5 M = some (r, M') → V X G 7 M 37 [some (.ref (G.2.1 32)), some (.int v1), some (.int v2), some (.int v3), some (.int v4), some (.int v5), none] [] := by
  intro n
  induction n with
  | zero =>
    intro v1 v2 v3 v4 v5 M h
    simp [Mo_mix_L37] at h
  | succ n ih =>
    intro v1 v2 v3 v4 v5 M h
    rw [Mo_mix_L37] at h
    refine v_iload C dX6_mix_37 rfl ?_
    refine v_iconst (v := 2) C dX6_mix_39 (by decide) ?_
    refine v_icmp_ge (tgt := 105) C dX6_mix_40 (by decide) (fun q => ?_) (fun q => ?_)
    · replace h := hT q h
      refine v_iconst (v := 1) C dX6_mix_105 (by decide) ?_
      obtain ⟨rfl, rfl⟩ := hR h
      exact v_iret C hQ dX6_mix_106
    · replace h := hF q h
      refine v_iconst (v := 0) C dX6_mix_43 (by decide) ?_
      refine v_istore C dX6_mix_44 (by decide) rfl ?_
      exact v_weak [true, true, true, true, true, true, true] (Mo_mix_L46_ok C hQ ih _ _ _ _ _ _ _ _ h)
set_option maxHeartbeats 4000000 in
set_option maxRecDepth 100000 in
theorem Mo_mix_ok (l : Launch) {G : GG} (hI : IG G) {M M' : Mem} {v1 : Int32} {v2 : Int32} {v3 : Int32} {v4 : Int32} {r : Int32} (h : Mo_mix v1 v2 v3 v4 M = some (r, M')) : Sp l G yX6_mix cX6_mix 7 (some .int) 3 67 [.ref (G.2.1 32), .int v1, .int v2, .int v3, .int v4] M (some (.int r)) M' := by
  unfold Mo_mix at h
  refine sp_intro [some (.ref (G.2.1 32)), some (.int v1), some (.int v2), some (.int v3), some (.int v4), none, none] hI (by decide) (Nat.le_of_ble_eq_true rfl) (fun _ hq => hq) (fun X _ C hQ => ?_)
  refine v_aload_n C dX6_mix_0 rfl ?_
  refine v_iload_n C dX6_mix_1 rfl ?_
  refine v_iload_n C dX6_mix_2 rfl ?_
  obtain ⟨r3, M1, c2, h⟩ := hB h
  refine v_callVi C (Mo_isLine_ok (xl X) C.ig c2) ml_X6_271 mb_X6_isLine mv_X6_isLine rfl rfl rfl (Nat.le_of_ble_eq_true rfl) (by decide) (by decide) dX6_mix_3 ?_
  refine v_if_eq (tgt := 32) C dX6_mix_6 (by decide) (fun q => ?_) (fun q => ?_)
  · replace h := hT q h
    refine v_iconst (v := (-1)) C dX6_mix_32 (by decide) ?_
    obtain ⟨rfl, rfl⟩ := hR h
    exact v_iret C hQ dX6_mix_33
  · replace h := hF q h
    refine v_aload_n C dX6_mix_9 rfl ?_
    refine v_iload_n C dX6_mix_10 rfl ?_
    refine v_iload_n C dX6_mix_11 rfl ?_
    obtain ⟨r6, M4, c5, h⟩ := hB h
    refine v_callVi C (Mo_isLine_ok (xl X) C.ig c5) ml_X6_271 mb_X6_isLine mv_X6_isLine rfl rfl rfl (Nat.le_of_ble_eq_true rfl) (by decide) (by decide) dX6_mix_12 ?_
    refine v_if_eq (tgt := 32) C dX6_mix_15 (by decide) (fun q => ?_) (fun q => ?_)
    · replace h := hT q h
      refine v_iconst (v := (-1)) C dX6_mix_32 (by decide) ?_
      obtain ⟨rfl, rfl⟩ := hR h
      exact v_iret C hQ dX6_mix_33
    · replace h := hF q h
      refine v_iload_n C dX6_mix_18 rfl ?_
      refine v_iload_n C dX6_mix_19 rfl ?_
      refine v_icmp_eq (tgt := 32) C dX6_mix_20 (by decide) (fun q => ?_) (fun q => ?_)
      · replace h := hT q h
        refine v_iconst (v := (-1)) C dX6_mix_32 (by decide) ?_
        obtain ⟨rfl, rfl⟩ := hR h
        exact v_iret C hQ dX6_mix_33
      · replace h := hF q h
        refine v_aload_n C dX6_mix_23 rfl ?_
        refine v_iload C dX6_mix_24 rfl ?_
        obtain ⟨r9, M7, c8, h⟩ := hB h
        refine v_callVi C (Mo_isTimes_ok (xl X) C.ig c8) ml_X6_274 mb_X6_isTimes mv_X6_isTimes rfl rfl rfl (Nat.le_of_ble_eq_true rfl) (by decide) (by decide) dX6_mix_26 ?_
        refine v_if_ne (tgt := 34) C dX6_mix_29 (by decide) (fun q => ?_) (fun q => ?_)
        · replace h := hF q h
          refine v_iconst (v := 0) C dX6_mix_34 (by decide) ?_
          refine v_istore C dX6_mix_35 (by decide) rfl ?_
          exact v_weak [true, true, true, true, true, true, false] (Mo_mix_L37_ok C hQ _ _ _ _ _ _ _ h)
        · replace h := hT q h
          refine v_iconst (v := (-1)) C dX6_mix_32 (by decide) ?_
          obtain ⟨rfl, rfl⟩ := hR h
          exact v_iret C hQ dX6_mix_33
set_option maxHeartbeats 4000000 in
set_option maxRecDepth 100000 in
theorem Mo_times_L31_ok {X : XX} {G : GG} (C : Cx X G cX6_times 6 RX6 3 67 (some .int)) {r : Int32} {M' : Mem} (hQ : Rt X G (some (.int r)) M') {k22 : Int32 → Int32 → Int32 → Int32 → Mem → Option (Int32 × Mem)} (H22 : ∀ (v1 : Int32) (v2 : Int32) (v3 : Int32) (v4 : Int32) (M : Mem), k22 v1 v2 v3 v4 M = some (r, M') → V X G 6 M 22 [some (.ref (G.2.1 32)), some (.int v1), some (.int v2), some (.int v3), some (.int v4), none] []) : ∀ (n : Nat) (v1 : Int32) (v2 : Int32) (v3 : Int32) (v4 : Int32) (v5 : Int32) (M : Mem), Mo_times_L31 k22 n v1 v2 v3 v4 v5 M = some (r, M') → V X G 6 M 31 [some (.ref (G.2.1 32)), some (.int v1), some (.int v2), some (.int v3), some (.int v4), some (.int v5)] [] := by
  intro n
  induction n with
  | zero =>
    intro v1 v2 v3 v4 v5 M h
    simp [Mo_times_L31] at h
  | succ n ih =>
    intro v1 v2 v3 v4 v5 M h
    rw [Mo_times_L31] at h
    refine v_iload C dX6_times_31 rfl ?_
    refine v_aload_n C dX6_times_33 rfl ?_
    refine v_getr (j := 33) C fk_X6_7 rfl dX6_times_34 ?_
    refine v_iconst (v := 2) C dX6_times_37 (by decide) ?_
    refine v_iload_n C dX6_times_38 rfl ?_
    refine v_isub C dX6_times_39 ?_
    obtain ⟨q1, h⟩ := hG h
    refine v_iald C rfl q1 dX6_times_40 ?_
    refine v_icmp_ge (tgt := 72) C dX6_times_41 (by decide) (fun q => ?_) (fun q => ?_)
    · replace h := hT q h
      refine v_iinc (v := 1) C dX6_times_72 rfl (by decide) (by decide) rfl ?_
      refine v_goto (tgt := 22) C dX6_times_75 (by decide) ?_
      exact v_weak [true, true, true, true, true, false] (H22 _ _ _ _ _ h)
    · replace h := hF q h
      refine v_aload_n C dX6_times_44 rfl ?_
      refine v_iload C dX6_times_45 rfl ?_
      refine v_iload_n C dX6_times_47 rfl ?_
      refine v_iload_n C dX6_times_48 rfl ?_
      refine v_iload C dX6_times_49 rfl ?_
      refine v_iload_n C dX6_times_51 rfl ?_
      refine v_aload_n C dX6_times_52 rfl ?_
      refine v_iload C dX6_times_53 rfl ?_
      refine v_iload_n C dX6_times_55 rfl ?_
      refine v_iload_n C dX6_times_56 rfl ?_
      refine v_iload C dX6_times_57 rfl ?_
      obtain ⟨r4, M2, c3, h⟩ := hB h
      refine v_callVi C (Mo_lineOf_ok (xl X) C.ig c3) ml_X6_277 mb_X6_lineOf mv_X6_lineOf rfl rfl rfl (Nat.le_of_ble_eq_true rfl) (by decide) (by decide) dX6_times_59 ?_
      refine v_imul C dX6_times_62 ?_
      obtain ⟨M5, c6, h⟩ := hV h
      refine v_callVv C (Mo_lineBecomes_ok (xl X) C.ig c6) ml_X6_281 mb_X6_lineBecomes mv_X6_lineBecomes rfl rfl rfl (Nat.le_of_ble_eq_true rfl) (by decide) (by decide) dX6_times_63 ?_
      refine v_iinc (v := 1) C dX6_times_66 rfl (by decide) (by decide) rfl ?_
      refine v_goto (tgt := 31) C dX6_times_69 (by decide) ?_
      exact v_weak [true, true, true, true, true, true] (ih _ _ _ _ _ _ h)
set_option maxHeartbeats 4000000 in
set_option maxRecDepth 100000 in
theorem Mo_times_L22_ok {X : XX} {G : GG} (C : Cx X G cX6_times 6 RX6 3 67 (some .int)) {r : Int32} {M' : Mem} (hQ : Rt X G (some (.int r)) M')   : ∀ (n : Nat) (v1 : Int32) (v2 : Int32) (v3 : Int32) (v4 : Int32) (M : Mem), Mo_times_L22 n v1 v2 v3 v4 M = some (r, M') → V X G 6 M 22 [some (.ref (G.2.1 32)), some (.int v1), some (.int v2), some (.int v3), some (.int v4), none] [] := by
  intro n
  induction n with
  | zero =>
    intro v1 v2 v3 v4 M h
    simp [Mo_times_L22] at h
  | succ n ih =>
    intro v1 v2 v3 v4 M h
    rw [Mo_times_L22] at h
    refine v_iload C dX6_times_22 rfl ?_
    refine v_iconst (v := 2) C dX6_times_24 (by decide) ?_
    refine v_icmp_ge (tgt := 78) C dX6_times_25 (by decide) (fun q => ?_) (fun q => ?_)
    · replace h := hT q h
      refine v_iconst (v := 1) C dX6_times_78 (by decide) ?_
      obtain ⟨rfl, rfl⟩ := hR h
      exact v_iret C hQ dX6_times_79
    · replace h := hF q h
      refine v_iconst (v := 0) C dX6_times_28 (by decide) ?_
      refine v_istore C dX6_times_29 (by decide) rfl ?_
      exact v_weak [true, true, true, true, true, true] (Mo_times_L31_ok C hQ ih _ _ _ _ _ _ _ h)
set_option maxHeartbeats 4000000 in
set_option maxRecDepth 100000 in
theorem Mo_times_ok (l : Launch) {G : GG} (hI : IG G) {M M' : Mem} {v1 : Int32} {v2 : Int32} {v3 : Int32} {r : Int32} (h : Mo_times v1 v2 v3 M = some (r, M')) : Sp l G yX6_times cX6_times 6 (some .int) 3 67 [.ref (G.2.1 32), .int v1, .int v2, .int v3] M (some (.int r)) M' := by
  unfold Mo_times at h
  refine sp_intro [some (.ref (G.2.1 32)), some (.int v1), some (.int v2), some (.int v3), none, none] hI (by decide) (Nat.le_of_ble_eq_true rfl) (fun _ hq => hq) (fun X _ C hQ => ?_)
  refine v_aload_n C dX6_times_0 rfl ?_
  refine v_iload_n C dX6_times_1 rfl ?_
  refine v_iload_n C dX6_times_2 rfl ?_
  obtain ⟨r3, M1, c2, h⟩ := hB h
  refine v_callVi C (Mo_isLine_ok (xl X) C.ig c2) ml_X6_271 mb_X6_isLine mv_X6_isLine rfl rfl rfl (Nat.le_of_ble_eq_true rfl) (by decide) (by decide) dX6_times_3 ?_
  refine v_if_eq (tgt := 17) C dX6_times_6 (by decide) (fun q => ?_) (fun q => ?_)
  · replace h := hT q h
    refine v_iconst (v := (-1)) C dX6_times_17 (by decide) ?_
    obtain ⟨rfl, rfl⟩ := hR h
    exact v_iret C hQ dX6_times_18
  · replace h := hF q h
    refine v_aload_n C dX6_times_9 rfl ?_
    refine v_iload_n C dX6_times_10 rfl ?_
    obtain ⟨r6, M4, c5, h⟩ := hB h
    refine v_callVi C (Mo_isTimes_ok (xl X) C.ig c5) ml_X6_274 mb_X6_isTimes mv_X6_isTimes rfl rfl rfl (Nat.le_of_ble_eq_true rfl) (by decide) (by decide) dX6_times_11 ?_
    refine v_if_ne (tgt := 19) C dX6_times_14 (by decide) (fun q => ?_) (fun q => ?_)
    · replace h := hF q h
      refine v_iconst (v := 0) C dX6_times_19 (by decide) ?_
      refine v_istore C dX6_times_20 (by decide) rfl ?_
      exact v_weak [true, true, true, true, true, false] (Mo_times_L22_ok C hQ _ _ _ _ _ _ h)
    · replace h := hT q h
      refine v_iconst (v := (-1)) C dX6_times_17 (by decide) ?_
      obtain ⟨rfl, rfl⟩ := hR h
      exact v_iret C hQ dX6_times_18
set_option maxHeartbeats 4000000 in
set_option maxRecDepth 100000 in
theorem Mo_swap_L32_ok {X : XX} {G : GG} (C : Cx X G cX6_swap 7 RX6 3 67 (some .int)) {r : Int32} {M' : Mem} (hQ : Rt X G (some (.int r)) M') {k23 : Int32 → Int32 → Int32 → Int32 → Mem → Option (Int32 × Mem)} (H23 : ∀ (v1 : Int32) (v2 : Int32) (v3 : Int32) (v4 : Int32) (M : Mem), k23 v1 v2 v3 v4 M = some (r, M') → V X G 7 M 23 [some (.ref (G.2.1 32)), some (.int v1), some (.int v2), some (.int v3), some (.int v4), none, none] []) : ∀ (n : Nat) (v1 : Int32) (v2 : Int32) (v3 : Int32) (v4 : Int32) (v5 : Int32) (M : Mem), Mo_swap_L32 k23 n v1 v2 v3 v4 v5 M = some (r, M') → V X G 7 M 32 [some (.ref (G.2.1 32)), some (.int v1), some (.int v2), some (.int v3), some (.int v4), some (.int v5), none] [] := by
  intro n
  induction n with
  | zero =>
    intro v1 v2 v3 v4 v5 M h
    simp [Mo_swap_L32] at h
  | succ n ih =>
    intro v1 v2 v3 v4 v5 M h
    rw [Mo_swap_L32] at h
    refine v_iload C dX6_swap_32 rfl ?_
    refine v_aload_n C dX6_swap_34 rfl ?_
    refine v_getr (j := 33) C fk_X6_7 rfl dX6_swap_35 ?_
    refine v_iconst (v := 2) C dX6_swap_38 (by decide) ?_
    refine v_iload_n C dX6_swap_39 rfl ?_
    refine v_isub C dX6_swap_40 ?_
    obtain ⟨q1, h⟩ := hG h
    refine v_iald C rfl q1 dX6_swap_41 ?_
    refine v_icmp_ge (tgt := 95) C dX6_swap_42 (by decide) (fun q => ?_) (fun q => ?_)
    · replace h := hT q h
      refine v_iinc (v := 1) C dX6_swap_95 rfl (by decide) (by decide) rfl ?_
      refine v_goto (tgt := 23) C dX6_swap_98 (by decide) ?_
      exact v_weak [true, true, true, true, true, false, false] (H23 _ _ _ _ _ h)
    · replace h := hF q h
      refine v_aload_n C dX6_swap_45 rfl ?_
      refine v_iload C dX6_swap_46 rfl ?_
      refine v_iload_n C dX6_swap_48 rfl ?_
      refine v_iload_n C dX6_swap_49 rfl ?_
      refine v_iload C dX6_swap_50 rfl ?_
      obtain ⟨r4, M2, c3, h⟩ := hB h
      refine v_callVi C (Mo_lineOf_ok (xl X) C.ig c3) ml_X6_277 mb_X6_lineOf mv_X6_lineOf rfl rfl rfl (Nat.le_of_ble_eq_true rfl) (by decide) (by decide) dX6_swap_52 ?_
      refine v_istore C dX6_swap_55 (by decide) rfl ?_
      refine v_aload_n C dX6_swap_57 rfl ?_
      refine v_iload C dX6_swap_58 rfl ?_
      refine v_iload_n C dX6_swap_60 rfl ?_
      refine v_iload_n C dX6_swap_61 rfl ?_
      refine v_iload C dX6_swap_62 rfl ?_
      refine v_aload_n C dX6_swap_64 rfl ?_
      refine v_iload C dX6_swap_65 rfl ?_
      refine v_iload_n C dX6_swap_67 rfl ?_
      refine v_iload_n C dX6_swap_68 rfl ?_
      refine v_iload C dX6_swap_69 rfl ?_
      obtain ⟨r7, M5, c6, h⟩ := hB h
      refine v_callVi C (Mo_lineOf_ok (xl X) C.ig c6) ml_X6_277 mb_X6_lineOf mv_X6_lineOf rfl rfl rfl (Nat.le_of_ble_eq_true rfl) (by decide) (by decide) dX6_swap_71 ?_
      obtain ⟨M8, c9, h⟩ := hV h
      refine v_callVv C (Mo_lineBecomes_ok (xl X) C.ig c9) ml_X6_281 mb_X6_lineBecomes mv_X6_lineBecomes rfl rfl rfl (Nat.le_of_ble_eq_true rfl) (by decide) (by decide) dX6_swap_74 ?_
      refine v_aload_n C dX6_swap_77 rfl ?_
      refine v_iload C dX6_swap_78 rfl ?_
      refine v_iload_n C dX6_swap_80 rfl ?_
      refine v_iload_n C dX6_swap_81 rfl ?_
      refine v_iload C dX6_swap_82 rfl ?_
      refine v_iload C dX6_swap_84 rfl ?_
      obtain ⟨M10, c11, h⟩ := hV h
      refine v_callVv C (Mo_lineBecomes_ok (xl X) C.ig c11) ml_X6_281 mb_X6_lineBecomes mv_X6_lineBecomes rfl rfl rfl (Nat.le_of_ble_eq_true rfl) (by decide) (by decide) dX6_swap_86 ?_
      refine v_iinc (v := 1) C dX6_swap_89 rfl (by decide) (by decide) rfl ?_
      refine v_goto (tgt := 32) C dX6_swap_92 (by decide) ?_
      exact v_weak [true, true, true, true, true, true, false] (ih _ _ _ _ _ _ h)
set_option maxHeartbeats 4000000 in
set_option maxRecDepth 100000 in
theorem Mo_swap_L23_ok {X : XX} {G : GG} (C : Cx X G cX6_swap 7 RX6 3 67 (some .int)) {r : Int32} {M' : Mem} (hQ : Rt X G (some (.int r)) M')   : ∀ (n : Nat) (v1 : Int32) (v2 : Int32) (v3 : Int32) (v4 : Int32) (M : Mem), Mo_swap_L23 n v1 v2 v3 v4 M = some (r, M') → V X G 7 M 23 [some (.ref (G.2.1 32)), some (.int v1), some (.int v2), some (.int v3), some (.int v4), none, none] [] := by
  intro n
  induction n with
  | zero =>
    intro v1 v2 v3 v4 M h
    simp [Mo_swap_L23] at h
  | succ n ih =>
    intro v1 v2 v3 v4 M h
    rw [Mo_swap_L23] at h
    refine v_iload C dX6_swap_23 rfl ?_
    refine v_iconst (v := 2) C dX6_swap_25 (by decide) ?_
    refine v_icmp_ge (tgt := 101) C dX6_swap_26 (by decide) (fun q => ?_) (fun q => ?_)
    · replace h := hT q h
      refine v_iconst (v := 1) C dX6_swap_101 (by decide) ?_
      obtain ⟨rfl, rfl⟩ := hR h
      exact v_iret C hQ dX6_swap_102
    · replace h := hF q h
      refine v_iconst (v := 0) C dX6_swap_29 (by decide) ?_
      refine v_istore C dX6_swap_30 (by decide) rfl ?_
      exact v_weak [true, true, true, true, true, true, false] (Mo_swap_L32_ok C hQ ih _ _ _ _ _ _ _ h)
set_option maxHeartbeats 4000000 in
set_option maxRecDepth 100000 in
theorem Mo_swap_ok (l : Launch) {G : GG} (hI : IG G) {M M' : Mem} {v1 : Int32} {v2 : Int32} {v3 : Int32} {r : Int32} (h : Mo_swap v1 v2 v3 M = some (r, M')) : Sp l G yX6_swap cX6_swap 7 (some .int) 3 67 [.ref (G.2.1 32), .int v1, .int v2, .int v3] M (some (.int r)) M' := by
  unfold Mo_swap at h
  refine sp_intro [some (.ref (G.2.1 32)), some (.int v1), some (.int v2), some (.int v3), none, none, none] hI (by decide) (Nat.le_of_ble_eq_true rfl) (fun _ hq => hq) (fun X _ C hQ => ?_)
  refine v_aload_n C dX6_swap_0 rfl ?_
  refine v_iload_n C dX6_swap_1 rfl ?_
  refine v_iload_n C dX6_swap_2 rfl ?_
  obtain ⟨r3, M1, c2, h⟩ := hB h
  refine v_callVi C (Mo_isLine_ok (xl X) C.ig c2) ml_X6_271 mb_X6_isLine mv_X6_isLine rfl rfl rfl (Nat.le_of_ble_eq_true rfl) (by decide) (by decide) dX6_swap_3 ?_
  refine v_if_eq (tgt := 18) C dX6_swap_6 (by decide) (fun q => ?_) (fun q => ?_)
  · replace h := hT q h
    refine v_iconst (v := (-1)) C dX6_swap_18 (by decide) ?_
    obtain ⟨rfl, rfl⟩ := hR h
    exact v_iret C hQ dX6_swap_19
  · replace h := hF q h
    refine v_aload_n C dX6_swap_9 rfl ?_
    refine v_iload_n C dX6_swap_10 rfl ?_
    refine v_iload_n C dX6_swap_11 rfl ?_
    obtain ⟨r6, M4, c5, h⟩ := hB h
    refine v_callVi C (Mo_isLine_ok (xl X) C.ig c5) ml_X6_271 mb_X6_isLine mv_X6_isLine rfl rfl rfl (Nat.le_of_ble_eq_true rfl) (by decide) (by decide) dX6_swap_12 ?_
    refine v_if_ne (tgt := 20) C dX6_swap_15 (by decide) (fun q => ?_) (fun q => ?_)
    · replace h := hF q h
      refine v_iconst (v := 0) C dX6_swap_20 (by decide) ?_
      refine v_istore C dX6_swap_21 (by decide) rfl ?_
      exact v_weak [true, true, true, true, true, false, false] (Mo_swap_L23_ok C hQ _ _ _ _ _ _ h)
    · replace h := hT q h
      refine v_iconst (v := (-1)) C dX6_swap_18 (by decide) ?_
      obtain ⟨rfl, rfl⟩ := hR h
      exact v_iret C hQ dX6_swap_19
set_option maxHeartbeats 4000000 in
set_option maxRecDepth 100000 in
theorem Mo_scramble_b120_ok {X : XX} {G : GG} (C : Cx X G cX6_scramble 9 RX6 4 93 (some .int)) {r : Int32} {M' : Mem} (hQ : Rt X G (some (.int r)) M') {k22 : Int32 → Int32 → Int32 → Int32 → Mem → Option (Int32 × Mem)} (H22 : ∀ (v2 : Int32) (v3 : Int32) (v4 : Int32) (v5 : Int32) (M : Mem), k22 v2 v3 v4 v5 M = some (r, M') → V X G 9 M 22 [some (.ref (G.2.1 32)), none, some (.int v2), some (.int v3), some (.int v4), some (.int v5), none, none, none] []) {v2 : Int32} {v3 : Int32} {v4 : Int32} {v5 : Int32} {M : Mem}  (h : Mo_scramble_b120 k22 v2 v3 v4 v5 M = some (r, M')) : V X G 9 M 120 [some (.ref (G.2.1 32)), none, some (.int v2), some (.int v3), some (.int v4), some (.int v5), none, none, none] [] := by
  unfold Mo_scramble_b120 at h
  refine v_iinc (v := 1) C dX6_scramble_120 rfl (by decide) (by decide) rfl ?_
  refine v_goto (tgt := 22) C dX6_scramble_123 (by decide) ?_
  exact v_weak [true, false, true, true, true, true, false, false, false] (H22 _ _ _ _ _ h)
set_option maxHeartbeats 4000000 in
set_option maxRecDepth 100000 in
theorem Mo_scramble_b114_ok {X : XX} {G : GG} (C : Cx X G cX6_scramble 9 RX6 4 93 (some .int)) {r : Int32} {M' : Mem} (hQ : Rt X G (some (.int r)) M') {k22 : Int32 → Int32 → Int32 → Int32 → Mem → Option (Int32 × Mem)} (H22 : ∀ (v2 : Int32) (v3 : Int32) (v4 : Int32) (v5 : Int32) (M : Mem), k22 v2 v3 v4 v5 M = some (r, M') → V X G 9 M 22 [some (.ref (G.2.1 32)), none, some (.int v2), some (.int v3), some (.int v4), some (.int v5), none, none, none] []) {v2 : Int32} {v3 : Int32} {v5 : Int32} {s0 : Int32} {s1 : Int32} {M : Mem}  (h : Mo_scramble_b114 k22 v2 v3 v5 s0 s1 M = some (r, M')) : V X G 9 M 114 [some (.ref (G.2.1 32)), none, some (.int v2), some (.int v3), none, some (.int v5), none, none, none] [.int s1, .int s0] := by
  unfold Mo_scramble_b114 at h
  obtain ⟨r3, M1, c2, h⟩ := hB h
  refine v_callSi C (Mo_flag_ok (xl X) C.ig c2) ml_X6_214 mb_X6_flag ms_X6_flag rfl rfl (Nat.le_of_ble_eq_true rfl) (by decide) (by decide) dX6_scramble_114 ?_
  refine v_iadd C dX6_scramble_117 ?_
  refine v_istore C dX6_scramble_118 (by decide) rfl ?_
  exact v_weak [true, false, true, true, true, true, false, false, false] (Mo_scramble_b120_ok C hQ H22 h)
set_option maxHeartbeats 4000000 in
set_option maxRecDepth 100000 in
theorem Mo_scramble_L22_ok {X : XX} {G : GG} (C : Cx X G cX6_scramble 9 RX6 4 93 (some .int)) {r : Int32} {M' : Mem} (hQ : Rt X G (some (.int r)) M')   : ∀ (n : Nat) (v2 : Int32) (v3 : Int32) (v4 : Int32) (v5 : Int32) (M : Mem), Mo_scramble_L22 n v2 v3 v4 v5 M = some (r, M') → V X G 9 M 22 [some (.ref (G.2.1 32)), none, some (.int v2), some (.int v3), some (.int v4), some (.int v5), none, none, none] [] := by
  intro n
  induction n with
  | zero =>
    intro v2 v3 v4 v5 M h
    simp [Mo_scramble_L22] at h
  | succ n ih =>
    intro v2 v3 v4 v5 M h
    rw [Mo_scramble_L22] at h
    refine v_iload C dX6_scramble_22 rfl ?_
    refine v_iload_n C dX6_scramble_24 rfl ?_
    refine v_icmp_ge (tgt := 126) C dX6_scramble_25 (by decide) (fun q => ?_) (fun q => ?_)
    · replace h := hT q h
      refine v_iload C dX6_scramble_126 rfl ?_
      obtain ⟨rfl, rfl⟩ := hR h
      exact v_iret C hQ dX6_scramble_128
    · replace h := hF q h
      refine v_iload_n C dX6_scramble_28 rfl ?_
      refine v_ldc_w (v := 1103515245) C dX6_scramble_29 (tT 1118 (by decide +kernel) rfl) ?_
      refine v_imul C dX6_scramble_32 ?_
      refine v_sipush (v := 12345) C dX6_scramble_33 (by decide) ?_
      refine v_iadd C dX6_scramble_36 ?_
      refine v_istore_n C dX6_scramble_37 (by decide) rfl ?_
      refine v_iload_n C dX6_scramble_38 rfl ?_
      refine v_bipush (v := 16) C dX6_scramble_39 (by decide) ?_
      refine v_ishr C dX6_scramble_41 ?_
      refine v_sipush (v := 32767) C dX6_scramble_42 (by decide) ?_
      refine v_iand C dX6_scramble_45 ?_
      refine v_istore C dX6_scramble_46 (by decide) rfl ?_
      refine v_iload C dX6_scramble_48 rfl ?_
      refine v_iconst (v := 2) C dX6_scramble_50 (by decide) ?_
      refine v_irem C dX6_scramble_51 (by decide) ?_
      refine v_istore C dX6_scramble_52 (by decide) rfl ?_
      refine v_aload_n C dX6_scramble_54 rfl ?_
      refine v_getr (j := 33) C fk_X6_7 rfl dX6_scramble_55 ?_
      refine v_iconst (v := 1) C dX6_scramble_58 (by decide) ?_
      refine v_iload C dX6_scramble_59 rfl ?_
      refine v_iadd C dX6_scramble_61 ?_
      obtain ⟨q1, h⟩ := hG h
      refine v_iald C rfl q1 dX6_scramble_62 ?_
      refine v_istore C dX6_scramble_63 (by decide) rfl ?_
      refine v_iload C dX6_scramble_65 rfl ?_
      refine v_if_le (tgt := 120) C dX6_scramble_67 (by decide) (fun q => ?_) (fun q => ?_)
      · replace h := hT q h
        exact v_weak [true, false, true, true, true, true, false, false, false] (Mo_scramble_b120_ok C hQ ih h)
      · replace h := hF q h
        refine v_iload C dX6_scramble_70 rfl ?_
        refine v_aload_n C dX6_scramble_72 rfl ?_
        refine v_iload C dX6_scramble_73 rfl ?_
        refine v_iload C dX6_scramble_75 rfl ?_
        refine v_iconst (v := 2) C dX6_scramble_77 (by decide) ?_
        refine v_idiv C dX6_scramble_78 (by decide) ?_
        refine v_iload C dX6_scramble_79 rfl ?_
        obtain ⟨q2, h⟩ := hN h
        refine v_irem C dX6_scramble_81 q2 ?_
        refine v_iload C dX6_scramble_82 rfl ?_
        refine v_bipush (v := 8) C dX6_scramble_84 (by decide) ?_
        refine v_idiv C dX6_scramble_86 (by decide) ?_
        refine v_iload C dX6_scramble_87 rfl ?_
        obtain ⟨q3, h⟩ := hN h
        refine v_irem C dX6_scramble_89 q3 ?_
        refine v_iload C dX6_scramble_90 rfl ?_
        refine v_bipush (v := 32) C dX6_scramble_92 (by decide) ?_
        refine v_idiv C dX6_scramble_94 (by decide) ?_
        refine v_aload_n C dX6_scramble_95 rfl ?_
        refine v_getr (j := 33) C fk_X6_7 rfl dX6_scramble_96 ?_
        refine v_iconst (v := 0) C dX6_scramble_99 (by decide) ?_
        refine v_iald_k (k := 0) (n := 35) C rfl rfl (by decide) dX6_scramble_100 ?_
        obtain ⟨q4, h⟩ := hN h
        refine v_irem C dX6_scramble_101 q4 ?_
        obtain ⟨r7, M5, c6, h⟩ := hB h
        refine v_callVi C (Mo_mix_ok (xl X) C.ig c6) ml_X6_288 mb_X6_mix mv_X6_mix rfl rfl rfl (Nat.le_of_ble_eq_true rfl) (by decide) (by decide) dX6_scramble_102 ?_
        refine v_iconst (v := 1) C dX6_scramble_105 (by decide) ?_
        refine v_icmp_ne (tgt := 113) C dX6_scramble_106 (by decide) (fun q => ?_) (fun q => ?_)
        · replace h := hF q h
          refine v_iconst (v := 0) C dX6_scramble_113 (by decide) ?_
          exact v_weak [true, false, true, true, false, true, false, false, false] (Mo_scramble_b114_ok C hQ ih h)
        · replace h := hT q h
          refine v_iconst (v := 1) C dX6_scramble_109 (by decide) ?_
          refine v_goto (tgt := 114) C dX6_scramble_110 (by decide) ?_
          exact v_weak [true, false, true, true, false, true, false, false, false] (Mo_scramble_b114_ok C hQ ih h)
set_option maxHeartbeats 4000000 in
set_option maxRecDepth 100000 in
theorem Mo_scramble_ok (l : Launch) {G : GG} (hI : IG G) {M M' : Mem} {v1 : Int32} {v2 : Int32} {r : Int32} (h : Mo_scramble v1 v2 M = some (r, M')) : Sp l G yX6_scramble cX6_scramble 9 (some .int) 4 93 [.ref (G.2.1 32), .int v1, .int v2] M (some (.int r)) M' := by
  unfold Mo_scramble at h
  refine sp_intro [some (.ref (G.2.1 32)), some (.int v1), some (.int v2), none, none, none, none, none, none] hI (by decide) (Nat.le_of_ble_eq_true rfl) (fun _ hq => hq) (fun X _ C hQ => ?_)
  refine v_iload_n C dX6_scramble_0 rfl ?_
  refine v_i2l C dX6_scramble_1 ?_
  refine v_lconst (v := 0) C dX6_scramble_2 (by decide) ?_
  refine v_ldc2 (v := 100) C dX6_scramble_3 (tT 1117 (by decide +kernel) rfl) ?_
  obtain ⟨r3, M1, c2, h⟩ := hB h
  refine v_callSi C (Mo_in_ok (xl X) C.ig c2) ml_X6_64 mb_X6_in ms_X6_in rfl rfl (Nat.le_of_ble_eq_true rfl) (by decide) (by decide) dX6_scramble_6 ?_
  refine v_if_ne (tgt := 14) C dX6_scramble_9 (by decide) (fun q => ?_) (fun q => ?_)
  · replace h := hF q h
    refine v_iload_n C dX6_scramble_14 rfl ?_
    refine v_istore_n C dX6_scramble_15 (by decide) rfl ?_
    refine v_iconst (v := 0) C dX6_scramble_16 (by decide) ?_
    refine v_istore C dX6_scramble_17 (by decide) rfl ?_
    refine v_iconst (v := 0) C dX6_scramble_19 (by decide) ?_
    refine v_istore C dX6_scramble_20 (by decide) rfl ?_
    exact v_weak [true, false, true, true, true, true, false, false, false] (Mo_scramble_L22_ok C hQ _ _ _ _ _ _ h)
  · replace h := hT q h
    refine v_iconst (v := (-1)) C dX6_scramble_12 (by decide) ?_
    obtain ⟨rfl, rfl⟩ := hR h
    exact v_iret C hQ dX6_scramble_13
