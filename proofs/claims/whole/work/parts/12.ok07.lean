set_option maxHeartbeats 4000000 in
set_option maxRecDepth 100000 in
theorem Pf_lay_ok (l : Launch) {G : GG} (hI : IG G) {M M' : Mem} {v1 : Int32} {v2 : Int32} {v3 : Int32} {r : Int32} (h : Pf_lay v1 v2 v3 M = some (r, M')) : Sp l G yX5_lay cX5_lay 5 (some .int) 3 63 [.ref (G.2.1 0), .int v1, .int v2, .int v3] M (some (.int r)) M' := by
  unfold Pf_lay at h
  refine sp_intro [some (.ref (G.2.1 0)), some (.int v1), some (.int v2), some (.int v3), none] hI (by decide) (Nat.le_of_ble_eq_true rfl) (fun _ hq => hq) (fun X _ C hQ => ?_)
  refine v_iload_n C dX5_lay_0 rfl ?_
  obtain ⟨r3, M1, c2, h⟩ := hB h
  refine v_callSi C (Pf_isSheet_ok (xl X) C.ig c2) ml_X5_222 mb_X5_isSheet ms_X5_isSheet rfl rfl (Nat.le_of_ble_eq_true rfl) (by decide) (by decide) dX5_lay_1 ?_
  refine v_if_ne (tgt := 9) C dX5_lay_4 (by decide) (fun q => ?_) (fun q => ?_)
  · replace h := hF q h
    refine v_aload_n C dX5_lay_9 rfl ?_
    refine v_getr (j := 13) C fk_X5_33 rfl dX5_lay_10 ?_
    refine v_iload_n C dX5_lay_13 rfl ?_
    obtain ⟨q4, h⟩ := hG h
    refine v_aald (t := 14) C rfl (by decide) q4 (rfS q4) dX5_lay_14 ?_
    refine v_iload_n C dX5_lay_15 rfl ?_
    obtain ⟨r7, M5, c6, h⟩ := hB h
    refine v_callVi C (Se_findAt_ok (xl X) C.ig c6) ml_X5_231 mb_X2_findAt mv_X2_findAt (clsS q4) rfl rfl (Nat.le_of_ble_eq_true rfl) (by decide) (by decide) dX5_lay_16 ?_
    refine v_istore C dX5_lay_19 (by decide) rfl ?_
    refine v_iload C dX5_lay_21 rfl ?_
    refine v_if_eq (tgt := 32) C dX5_lay_23 (by decide) (fun q => ?_) (fun q => ?_)
    · replace h := hT q h
      refine v_aload_n C dX5_lay_32 rfl ?_
      refine v_getr (j := 13) C fk_X5_33 rfl dX5_lay_33 ?_
      refine v_iload_n C dX5_lay_36 rfl ?_
      obtain ⟨q8, h⟩ := hG h
      refine v_aald (t := 14) C rfl (by decide) q8 (rfS q8) dX5_lay_37 ?_
      refine v_iload_n C dX5_lay_38 rfl ?_
      refine v_iload_n C dX5_lay_39 rfl ?_
      obtain ⟨M9, c10, h⟩ := hV h
      refine v_callVv C (Se_putCell_ok (xl X) C.ig c10) ml_X5_234 mb_X2_putCell mv_X2_putCell (clsS q8) rfl rfl (Nat.le_of_ble_eq_true rfl) (by decide) (by decide) dX5_lay_40 ?_
      refine v_iconst (v := 1) C dX5_lay_43 (by decide) ?_
      obtain ⟨rfl, rfl⟩ := hR h
      exact v_iret C hQ dX5_lay_44
    · replace h := hF q h
      refine v_bipush (v := (-10)) C dX5_lay_26 (by decide) ?_
      refine v_iload C dX5_lay_28 rfl ?_
      refine v_isub C dX5_lay_30 ?_
      obtain ⟨rfl, rfl⟩ := hR h
      exact v_iret C hQ dX5_lay_31
  · replace h := hT q h
    refine v_iconst (v := (-1)) C dX5_lay_7 (by decide) ?_
    obtain ⟨rfl, rfl⟩ := hR h
    exact v_iret C hQ dX5_lay_8
set_option maxHeartbeats 4000000 in
set_option maxRecDepth 100000 in
theorem Pf_maySetFrom_ok (l : Launch) {G : GG} (hI : IG G) {M M' : Mem} {v1 : Nat} {v2 : Int32} {r : Int32} (h : Pf_maySetFrom v1 v2 M = some (r, M')) : Sp l G yX5_maySetFrom cX5_maySetFrom 3 (some .boolean) 3 62 [.ref (G.2.1 0), .ref (G.2.1 v1), .int v2] M (some (.int r)) M' := by
  unfold Pf_maySetFrom at h
  obtain ⟨g1, h⟩ := hG h
  refine sp_intro [some (.ref (G.2.1 0)), some (.ref (G.2.1 v1)), some (.int v2)] hI (by decide) (Nat.le_of_ble_eq_true rfl) (fun _ hq => hq) (fun X _ C hQ => ?_)
  refine v_aload_n C dX5_maySetFrom_0 rfl ?_
  refine v_aload_n C dX5_maySetFrom_1 rfl ?_
  refine v_iload_n C dX5_maySetFrom_2 rfl ?_
  obtain ⟨r3, M1, c2, h⟩ := hB h
  refine v_callVi C (Se_cellAt_ok (xl X) C.ig c2) ml_X5_264 mb_X2_cellAt mv_X2_cellAt g1 rfl rfl (Nat.le_of_ble_eq_true rfl) (by decide) (by decide) dX5_maySetFrom_3 ?_
  refine v_aload_n C dX5_maySetFrom_6 rfl ?_
  refine v_iload_n C dX5_maySetFrom_7 rfl ?_
  refine v_iconst (v := 1) C dX5_maySetFrom_8 (by decide) ?_
  refine v_iadd C dX5_maySetFrom_9 ?_
  obtain ⟨r6, M4, c5, h⟩ := hB h
  refine v_callVi C (Se_cellAt_ok (xl X) C.ig c5) ml_X5_264 mb_X2_cellAt mv_X2_cellAt g1 rfl rfl (Nat.le_of_ble_eq_true rfl) (by decide) (by decide) dX5_maySetFrom_10 ?_
  refine v_aload_n C dX5_maySetFrom_13 rfl ?_
  refine v_iload_n C dX5_maySetFrom_14 rfl ?_
  refine v_iconst (v := 2) C dX5_maySetFrom_15 (by decide) ?_
  refine v_iadd C dX5_maySetFrom_16 ?_
  obtain ⟨r9, M7, c8, h⟩ := hB h
  refine v_callVi C (Se_cellAt_ok (xl X) C.ig c8) ml_X5_264 mb_X2_cellAt mv_X2_cellAt g1 rfl rfl (Nat.le_of_ble_eq_true rfl) (by decide) (by decide) dX5_maySetFrom_17 ?_
  refine v_aload_n C dX5_maySetFrom_20 rfl ?_
  refine v_iload_n C dX5_maySetFrom_21 rfl ?_
  refine v_iconst (v := 3) C dX5_maySetFrom_22 (by decide) ?_
  refine v_iadd C dX5_maySetFrom_23 ?_
  obtain ⟨r12, M10, c11, h⟩ := hB h
  refine v_callVi C (Se_cellAt_ok (xl X) C.ig c11) ml_X5_264 mb_X2_cellAt mv_X2_cellAt g1 rfl rfl (Nat.le_of_ble_eq_true rfl) (by decide) (by decide) dX5_maySetFrom_24 ?_
  obtain ⟨r15, M13, c14, h⟩ := hB h
  refine v_callVi C (Pf_maySet_ok (xl X) C.ig c14) ml_X5_154 mb_X5_maySet mv_X5_maySet rfl rfl rfl (Nat.le_of_ble_eq_true rfl) (by decide) (by decide) dX5_maySetFrom_27 ?_
  obtain ⟨q16, h⟩ := hG h
  obtain ⟨rfl, rfl⟩ := hR h
  exact v_zret C hQ q16 dX5_maySetFrom_30
set_option maxHeartbeats 4000000 in
set_option maxRecDepth 100000 in
theorem Pf_setFrom_ok (l : Launch) {G : GG} (hI : IG G) {M M' : Mem} {v1 : Nat} {v2 : Int32} (h : Pf_setFrom v1 v2 M = some M') : Sp l G yX5_setFrom cX5_setFrom 3 none 3 62 [.ref (G.2.1 0), .ref (G.2.1 v1), .int v2] M none M' := by
  unfold Pf_setFrom at h
  obtain ⟨g1, h⟩ := hG h
  refine sp_intro [some (.ref (G.2.1 0)), some (.ref (G.2.1 v1)), some (.int v2)] hI (by decide) (Nat.le_of_ble_eq_true rfl) (fun _ hq => hq) (fun X _ C hQ => ?_)
  refine v_aload_n C dX5_setFrom_0 rfl ?_
  refine v_getr (j := 5) C fk_X5_19 rfl dX5_setFrom_1 ?_
  refine v_aload_n C dX5_setFrom_4 rfl ?_
  refine v_iload_n C dX5_setFrom_5 rfl ?_
  obtain ⟨r3, M1, c2, h⟩ := hB h
  refine v_callVi C (Se_cellAt_ok (xl X) C.ig c2) ml_X5_264 mb_X2_cellAt mv_X2_cellAt g1 rfl rfl (Nat.le_of_ble_eq_true rfl) (by decide) (by decide) dX5_setFrom_6 ?_
  refine v_aload_n C dX5_setFrom_9 rfl ?_
  refine v_iload_n C dX5_setFrom_10 rfl ?_
  refine v_iconst (v := 1) C dX5_setFrom_11 (by decide) ?_
  refine v_iadd C dX5_setFrom_12 ?_
  obtain ⟨r6, M4, c5, h⟩ := hB h
  refine v_callVi C (Se_cellAt_ok (xl X) C.ig c5) ml_X5_264 mb_X2_cellAt mv_X2_cellAt g1 rfl rfl (Nat.le_of_ble_eq_true rfl) (by decide) (by decide) dX5_setFrom_13 ?_
  refine v_aload_n C dX5_setFrom_16 rfl ?_
  refine v_iload_n C dX5_setFrom_17 rfl ?_
  refine v_iconst (v := 2) C dX5_setFrom_18 (by decide) ?_
  refine v_iadd C dX5_setFrom_19 ?_
  obtain ⟨r9, M7, c8, h⟩ := hB h
  refine v_callVi C (Se_cellAt_ok (xl X) C.ig c8) ml_X5_264 mb_X2_cellAt mv_X2_cellAt g1 rfl rfl (Nat.le_of_ble_eq_true rfl) (by decide) (by decide) dX5_setFrom_20 ?_
  refine v_aload_n C dX5_setFrom_23 rfl ?_
  refine v_iload_n C dX5_setFrom_24 rfl ?_
  refine v_iconst (v := 3) C dX5_setFrom_25 (by decide) ?_
  refine v_iadd C dX5_setFrom_26 ?_
  obtain ⟨r12, M10, c11, h⟩ := hB h
  refine v_callVi C (Se_cellAt_ok (xl X) C.ig c11) ml_X5_264 mb_X2_cellAt mv_X2_cellAt g1 rfl rfl (Nat.le_of_ble_eq_true rfl) (by decide) (by decide) dX5_setFrom_27 ?_
  obtain ⟨M13, c14, h⟩ := hV h
  refine v_callVv C (Pa_putValue_ok (xl X) C.ig c14) ml_X5_158 mb_X1_putValue mv_X1_putValue rfl rfl rfl (Nat.le_of_ble_eq_true rfl) (by decide) (by decide) dX5_setFrom_30 ?_
  obtain rfl := hRv h
  exact v_vret C hQ dX5_setFrom_33
set_option maxHeartbeats 4000000 in
set_option maxRecDepth 100000 in
theorem Pf_read_L109_ok {X : XX} {G : GG} (C : Cx X G cX5_read 10 RX5 4 84 (some .int)) {r : Int32} {M' : Mem} (hQ : Rt X G (some (.int r)) M')   : ∀ (n : Nat) (v3 : Int32) (v5 : Nat) (v6 : Int32) (v7 : Int32) (v8 : Int32) (M : Mem), isS v5 = true → Pf_read_L109 n v3 v5 v6 v7 v8 M = some (r, M') → V X G 10 M 109 [some (.ref (G.2.1 0)), none, none, some (.int v3), none, some (.ref (G.2.1 v5)), some (.int v6), some (.int v7), some (.int v8), none] [] := by
  intro n
  induction n with
  | zero =>
    intro v3 v5 v6 v7 v8 M g5 h
    simp [Pf_read_L109] at h
  | succ n ih =>
    intro v3 v5 v6 v7 v8 M g5 h
    rw [Pf_read_L109] at h
    refine v_iload C dX5_read_109 rfl ?_
    refine v_iload C dX5_read_111 rfl ?_
    refine v_icmp_ge (tgt := 134) C dX5_read_113 (by decide) (fun q => ?_) (fun q => ?_)
    · replace h := hT q h
      refine v_aload_n C dX5_read_134 rfl ?_
      refine v_iload C dX5_read_135 rfl ?_
      refine v_puti C fk_X5_248 rfl dX5_read_137 ?_
      refine v_iload C dX5_read_140 rfl ?_
      obtain ⟨rfl, rfl⟩ := hR h
      exact v_iret C hQ dX5_read_142
    · replace h := hF q h
      refine v_aload_n C dX5_read_116 rfl ?_
      refine v_aload C dX5_read_117 rfl ?_
      refine v_iload_n C dX5_read_119 rfl ?_
      refine v_iconst (v := 4) C dX5_read_120 (by decide) ?_
      refine v_iload C dX5_read_121 rfl ?_
      refine v_imul C dX5_read_123 ?_
      refine v_iadd C dX5_read_124 ?_
      obtain ⟨M1, c2, h⟩ := hV h
      refine v_callVv C (Pf_setFrom_ok (xl X) C.ig c2) ml_X5_244 mb_X5_setFrom mv_X5_setFrom rfl rfl rfl (Nat.le_of_ble_eq_true rfl) (by decide) (by decide) dX5_read_125 ?_
      refine v_iinc (v := 1) C dX5_read_128 rfl (by decide) (by decide) rfl ?_
      refine v_goto (tgt := 109) C dX5_read_131 (by decide) ?_
      exact v_weak [true, false, false, true, false, true, true, true, true, false] (ih _ _ _ _ _ _ g5 h)
set_option maxHeartbeats 4000000 in
set_option maxRecDepth 100000 in
theorem Pf_read_b106_ok {X : XX} {G : GG} (C : Cx X G cX5_read 10 RX5 4 84 (some .int)) {r : Int32} {M' : Mem} (hQ : Rt X G (some (.int r)) M')   {v3 : Int32} {v5 : Nat} {v6 : Int32} {v7 : Int32} {M : Mem} (g5 : isS v5 = true) (h : Pf_read_b106 v3 v5 v6 v7 M = some (r, M')) : V X G 10 M 106 [some (.ref (G.2.1 0)), none, none, some (.int v3), none, some (.ref (G.2.1 v5)), some (.int v6), some (.int v7), none, none] [] := by
  unfold Pf_read_b106 at h
  refine v_iconst (v := 0) C dX5_read_106 (by decide) ?_
  refine v_istore C dX5_read_107 (by decide) rfl ?_
  exact v_weak [true, false, false, true, false, true, true, true, true, false] (Pf_read_L109_ok C hQ _ _ _ _ _ _ _ g5 h)
set_option maxHeartbeats 4000000 in
set_option maxRecDepth 100000 in
theorem Pf_read_b100_ok {X : XX} {G : GG} (C : Cx X G cX5_read 10 RX5 4 84 (some .int)) {r : Int32} {M' : Mem} (hQ : Rt X G (some (.int r)) M') {k45 : Int32 → Int32 → Int32 → Nat → Int32 → Int32 → Int32 → Mem → Option (Int32 × Mem)} (H45 : ∀ (v2 : Int32) (v3 : Int32) (v4 : Int32) (v5 : Nat) (v6 : Int32) (v7 : Int32) (v8 : Int32) (M : Mem), isS v5 = true → k45 v2 v3 v4 v5 v6 v7 v8 M = some (r, M') → V X G 10 M 45 [some (.ref (G.2.1 0)), none, some (.int v2), some (.int v3), some (.int v4), some (.ref (G.2.1 v5)), some (.int v6), some (.int v7), some (.int v8), none] []) {v2 : Int32} {v3 : Int32} {v4 : Int32} {v5 : Nat} {v6 : Int32} {v7 : Int32} {v8 : Int32} {M : Mem} (g5 : isS v5 = true) (h : Pf_read_b100 k45 v2 v3 v4 v5 v6 v7 v8 M = some (r, M')) : V X G 10 M 100 [some (.ref (G.2.1 0)), none, some (.int v2), some (.int v3), some (.int v4), some (.ref (G.2.1 v5)), some (.int v6), some (.int v7), some (.int v8), none] [] := by
  unfold Pf_read_b100 at h
  refine v_iinc (v := 1) C dX5_read_100 rfl (by decide) (by decide) rfl ?_
  refine v_goto (tgt := 45) C dX5_read_103 (by decide) ?_
  exact v_weak [true, false, true, true, true, true, true, true, true, false] (H45 _ _ _ _ _ _ _ _ g5 h)
set_option maxHeartbeats 4000000 in
set_option maxRecDepth 100000 in
theorem Pf_read_L45_ok {X : XX} {G : GG} (C : Cx X G cX5_read 10 RX5 4 84 (some .int)) {r : Int32} {M' : Mem} (hQ : Rt X G (some (.int r)) M')   : ∀ (n : Nat) (v2 : Int32) (v3 : Int32) (v4 : Int32) (v5 : Nat) (v6 : Int32) (v7 : Int32) (v8 : Int32) (M : Mem), isS v5 = true → Pf_read_L45 n v2 v3 v4 v5 v6 v7 v8 M = some (r, M') → V X G 10 M 45 [some (.ref (G.2.1 0)), none, some (.int v2), some (.int v3), some (.int v4), some (.ref (G.2.1 v5)), some (.int v6), some (.int v7), some (.int v8), none] [] := by
  intro n
  induction n with
  | zero =>
    intro v2 v3 v4 v5 v6 v7 v8 M g5 h
    simp [Pf_read_L45] at h
  | succ n ih =>
    intro v2 v3 v4 v5 v6 v7 v8 M g5 h
    rw [Pf_read_L45] at h
    refine v_iload C dX5_read_45 rfl ?_
    refine v_iload C dX5_read_47 rfl ?_
    refine v_icmp_ge (tgt := 106) C dX5_read_49 (by decide) (fun q => ?_) (fun q => ?_)
    · replace h := hT q h
      exact v_weak [true, false, false, true, false, true, true, true, false, false] (Pf_read_b106_ok C hQ g5 h)
    · replace h := hF q h
      refine v_iload C dX5_read_52 rfl ?_
      refine v_if_ne (tgt := 106) C dX5_read_54 (by decide) (fun q => ?_) (fun q => ?_)
      · replace h := hF q h
        exact v_weak [true, false, false, true, false, true, true, true, false, false] (Pf_read_b106_ok C hQ g5 h)
      · replace h := hT q h
        refine v_iload_n C dX5_read_57 rfl ?_
        refine v_iconst (v := 4) C dX5_read_58 (by decide) ?_
        refine v_iload C dX5_read_59 rfl ?_
        refine v_imul C dX5_read_61 ?_
        refine v_iadd C dX5_read_62 ?_
        refine v_istore C dX5_read_63 (by decide) rfl ?_
        refine v_aload C dX5_read_65 rfl ?_
        refine v_iload_n C dX5_read_67 rfl ?_
        refine v_iload C dX5_read_68 rfl ?_
        obtain ⟨r3, M1, c2, h⟩ := hB h
        refine v_callVi C (Se_findFour_ok (xl X) C.ig c2) ml_X5_237 mb_X2_findFour mv_X2_findFour g5 rfl rfl (Nat.le_of_ble_eq_true rfl) (by decide) (by decide) dX5_read_70 ?_
        refine v_istore C dX5_read_73 (by decide) rfl ?_
        refine v_iload C dX5_read_75 rfl ?_
        refine v_if_ne (tgt := 100) C dX5_read_77 (by decide) (fun q => ?_) (fun q => ?_)
        · replace h := hF q h
          exact v_weak [true, false, true, true, true, true, true, true, true, false] (Pf_read_b100_ok C hQ ih g5 h)
        · replace h := hT q h
          refine v_aload_n C dX5_read_80 rfl ?_
          refine v_aload C dX5_read_81 rfl ?_
          refine v_iload C dX5_read_83 rfl ?_
          obtain ⟨r6, M4, c5, h⟩ := hB h
          refine v_callVi C (Pf_maySetFrom_ok (xl X) C.ig c5) ml_X5_240 mb_X5_maySetFrom mv_X5_maySetFrom rfl rfl rfl (Nat.le_of_ble_eq_true rfl) (by decide) (by decide) dX5_read_85 ?_
          refine v_if_ne (tgt := 97) C dX5_read_88 (by decide) (fun q => ?_) (fun q => ?_)
          · replace h := hF q h
            refine v_iinc (v := 1) C dX5_read_97 rfl (by decide) (by decide) rfl ?_
            exact v_weak [true, false, true, true, true, true, true, true, true, false] (Pf_read_b100_ok C hQ ih g5 h)
          · replace h := hT q h
            refine v_bipush (v := (-20)) C dX5_read_91 (by decide) ?_
            refine v_iload C dX5_read_93 rfl ?_
            refine v_isub C dX5_read_95 ?_
            obtain ⟨rfl, rfl⟩ := hR h
            exact v_iret C hQ dX5_read_96
set_option maxHeartbeats 4000000 in
set_option maxRecDepth 100000 in
theorem Pf_read_ok (l : Launch) {G : GG} (hI : IG G) {M M' : Mem} {v1 : Int32} {v2 : Int32} {v3 : Int32} {v4 : Int32} {r : Int32} (h : Pf_read v1 v2 v3 v4 M = some (r, M')) : Sp l G yX5_read cX5_read 10 (some .int) 4 84 [.ref (G.2.1 0), .int v1, .int v2, .int v3, .int v4] M (some (.int r)) M' := by
  unfold Pf_read at h
  refine sp_intro [some (.ref (G.2.1 0)), some (.int v1), some (.int v2), some (.int v3), some (.int v4), none, none, none, none, none] hI (by decide) (Nat.le_of_ble_eq_true rfl) (fun _ hq => hq) (fun X _ C hQ => ?_)
  refine v_iload_n C dX5_read_0 rfl ?_
  obtain ⟨r3, M1, c2, h⟩ := hB h
  refine v_callSi C (Pf_isSheet_ok (xl X) C.ig c2) ml_X5_222 mb_X5_isSheet ms_X5_isSheet rfl rfl (Nat.le_of_ble_eq_true rfl) (by decide) (by decide) dX5_read_1 ?_
  refine v_if_eq (tgt := 26) C dX5_read_4 (by decide) (fun q => ?_) (fun q => ?_)
  · replace h := hT q h
    refine v_iconst (v := (-1)) C dX5_read_26 (by decide) ?_
    obtain ⟨rfl, rfl⟩ := hR h
    exact v_iret C hQ dX5_read_27
  · replace h := hF q h
    refine v_iload_n C dX5_read_7 rfl ?_
    obtain ⟨r6, M4, c5, h⟩ := hB h
    refine v_callSi C (Pf_isLane_ok (xl X) C.ig c5) ml_X5_225 mb_X5_isLane ms_X5_isLane rfl rfl (Nat.le_of_ble_eq_true rfl) (by decide) (by decide) dX5_read_8 ?_
    refine v_if_eq (tgt := 26) C dX5_read_11 (by decide) (fun q => ?_) (fun q => ?_)
    · replace h := hT q h
      refine v_iconst (v := (-1)) C dX5_read_26 (by decide) ?_
      obtain ⟨rfl, rfl⟩ := hR h
      exact v_iret C hQ dX5_read_27
    · replace h := hF q h
      refine v_iload C dX5_read_14 rfl ?_
      refine v_if_lt (tgt := 26) C dX5_read_16 (by decide) (fun q => ?_) (fun q => ?_)
      · replace h := hT q h
        refine v_iconst (v := (-1)) C dX5_read_26 (by decide) ?_
        obtain ⟨rfl, rfl⟩ := hR h
        exact v_iret C hQ dX5_read_27
      · replace h := hF q h
        refine v_iload C dX5_read_19 rfl ?_
        refine v_bipush (v := 10) C dX5_read_21 (by decide) ?_
        refine v_icmp_le (tgt := 28) C dX5_read_23 (by decide) (fun q => ?_) (fun q => ?_)
        · replace h := hT q h
          refine v_aload_n C dX5_read_28 rfl ?_
          refine v_getr (j := 13) C fk_X5_33 rfl dX5_read_29 ?_
          refine v_iload_n C dX5_read_32 rfl ?_
          obtain ⟨q7, h⟩ := hG h
          refine v_aald (t := 14) C rfl (by decide) q7 (rfS q7) dX5_read_33 ?_
          refine v_astore C dX5_read_34 (by decide) rfl ?_
          refine v_iconst (v := 0) C dX5_read_36 (by decide) ?_
          refine v_istore C dX5_read_37 (by decide) rfl ?_
          refine v_iconst (v := 0) C dX5_read_39 (by decide) ?_
          refine v_istore C dX5_read_40 (by decide) rfl ?_
          refine v_iconst (v := 0) C dX5_read_42 (by decide) ?_
          refine v_istore C dX5_read_43 (by decide) rfl ?_
          exact v_weak [true, false, true, true, true, true, true, true, true, false] (Pf_read_L45_ok C hQ _ _ _ _ _ _ _ _ _ (clsS q7) h)
        · replace h := hF q h
          refine v_iconst (v := (-1)) C dX5_read_26 (by decide) ?_
          obtain ⟨rfl, rfl⟩ := hR h
          exact v_iret C hQ dX5_read_27
set_option maxHeartbeats 4000000 in
set_option maxRecDepth 100000 in
theorem Pf_torn_ok (l : Launch) {G : GG} (hI : IG G) {M M' : Mem}  {r : Int32} (h : Pf_torn M = some (r, M')) : Sp l G yX5_torn cX5_torn 1 (some .int) 0 0 [.ref (G.2.1 0)] M (some (.int r)) M' := by
  unfold Pf_torn at h
  refine sp_intro [some (.ref (G.2.1 0))] hI (by decide) (Nat.le_of_ble_eq_true rfl) (fun _ hq => hq) (fun X _ C hQ => ?_)
  refine v_aload_n C dX5_torn_0 rfl ?_
  refine v_geti C fk_X5_248 rfl dX5_torn_1 ?_
  obtain ⟨rfl, rfl⟩ := hR h
  exact v_iret C hQ dX5_torn_4
set_option maxHeartbeats 4000000 in
set_option maxRecDepth 100000 in
theorem Pf_count_b54_ok {X : XX} {G : GG} (C : Cx X G cX5_count 2 RX5 1 23 (some .int)) {r : Int32} {M' : Mem} (hQ : Rt X G (some (.int r)) M')   {s0 : Int32} {M : Mem}  (h : Pf_count_b54 s0 M = some (r, M')) : V X G 2 M 54 [some (.ref (G.2.1 0)), none] [.int s0] := by
  unfold Pf_count_b54 at h
  refine v_aload_n C dX5_count_54 rfl ?_
  refine v_getr (j := 12) C fk_X5_27 rfl dX5_count_55 ?_
  refine v_iconst (v := 1) C dX5_count_58 (by decide) ?_
  refine v_zald_k (k := 1) (n := 2) C rfl rfl (by decide) dX5_count_59 ?_
  refine v_if_eq (tgt := 67) C dX5_count_60 (by decide) (fun q => ?_) (fun q => ?_)
  · replace h := hT q h
    refine v_iconst (v := 0) C dX5_count_67 (by decide) ?_
    refine v_iadd C dX5_count_68 ?_
    obtain ⟨rfl, rfl⟩ := hR h
    exact v_iret C hQ dX5_count_69
  · replace h := hF q h
    refine v_iconst (v := 1) C dX5_count_63 (by decide) ?_
    refine v_goto (tgt := 68) C dX5_count_64 (by decide) ?_
    refine v_iadd C dX5_count_68 ?_
    obtain ⟨rfl, rfl⟩ := hR h
    exact v_iret C hQ dX5_count_69
set_option maxHeartbeats 4000000 in
set_option maxRecDepth 100000 in
theorem Pf_count_ok (l : Launch) {G : GG} (hI : IG G) {M M' : Mem} {v1 : Int32} {r : Int32} (h : Pf_count v1 M = some (r, M')) : Sp l G yX5_count cX5_count 2 (some .int) 1 23 [.ref (G.2.1 0), .int v1] M (some (.int r)) M' := by
  unfold Pf_count at h
  refine sp_intro [some (.ref (G.2.1 0)), some (.int v1)] hI (by decide) (Nat.le_of_ble_eq_true rfl) (fun _ hq => hq) (fun X _ C hQ => ?_)
  refine v_iload_n C dX5_count_0 rfl ?_
  by_cases q1_0 : v1 = 0
  · subst q1_0
    replace h := hT rfl h
    refine v_tin (tgt := 40) C dX5_count_1 (by decide) (by decide) rfl (by decide) ?_
    refine v_aload_n C dX5_count_40 rfl ?_
    refine v_getr (j := 12) C fk_X5_27 rfl dX5_count_41 ?_
    refine v_iconst (v := 0) C dX5_count_44 (by decide) ?_
    refine v_zald_k (k := 0) (n := 2) C rfl rfl (by decide) dX5_count_45 ?_
    refine v_if_eq (tgt := 53) C dX5_count_46 (by decide) (fun q => ?_) (fun q => ?_)
    · replace h := hT q h
      refine v_iconst (v := 0) C dX5_count_53 (by decide) ?_
      exact v_weak [true, false] (Pf_count_b54_ok C hQ h)
    · replace h := hF q h
      refine v_iconst (v := 1) C dX5_count_49 (by decide) ?_
      refine v_goto (tgt := 54) C dX5_count_50 (by decide) ?_
      exact v_weak [true, false] (Pf_count_b54_ok C hQ h)
  replace h := hF q1_0 h
  by_cases q1_1 : v1 = 1
  · subst q1_1
    replace h := hT rfl h
    refine v_tin (tgt := 70) C dX5_count_1 (by decide) (by decide) rfl (by decide) ?_
    refine v_aload_n C dX5_count_70 rfl ?_
    refine v_getr (j := 5) C fk_X5_19 rfl dX5_count_71 ?_
    obtain ⟨r3, M1, c2, h⟩ := hB h
    refine v_callVi C (Pa_placesNotZero_ok (xl X) C.ig c2) ml_X5_251 mb_X1_placesNotZero mv_X1_placesNotZero rfl rfl rfl (Nat.le_of_ble_eq_true rfl) (by decide) (by decide) dX5_count_74 ?_
    obtain ⟨rfl, rfl⟩ := hR h
    exact v_iret C hQ dX5_count_77
  replace h := hF q1_1 h
  by_cases q1_2 : v1 = 2
  · subst q1_2
    replace h := hT rfl h
    refine v_tin (tgt := 78) C dX5_count_1 (by decide) (by decide) rfl (by decide) ?_
    refine v_aload_n C dX5_count_78 rfl ?_
    refine v_getr (j := 1) C fk_X5_10 rfl dX5_count_79 ?_
    refine v_geti C fk_X5_56 rfl dX5_count_82 ?_
    obtain ⟨rfl, rfl⟩ := hR h
    exact v_iret C hQ dX5_count_85
  replace h := hF q1_2 h
  by_cases q1_3 : v1 = 3
  · subst q1_3
    replace h := hT rfl h
    refine v_tin (tgt := 86) C dX5_count_1 (by decide) (by decide) rfl (by decide) ?_
    refine v_aload_n C dX5_count_86 rfl ?_
    refine v_getr (j := 13) C fk_X5_33 rfl dX5_count_87 ?_
    refine v_iconst (v := 0) C dX5_count_90 (by decide) ?_
    obtain ⟨q4, h⟩ := hG h
    refine v_aald (t := 14) C rfl (by decide) q4 (rfS q4) dX5_count_91 ?_
    obtain ⟨r7, M5, c6, h⟩ := hB h
    refine v_callVi C (Se_isNothing_ok (xl X) C.ig c6) ml_X5_254 mb_X2_isNothing mv_X2_isNothing (clsS q4) rfl rfl (Nat.le_of_ble_eq_true rfl) (by decide) (by decide) dX5_count_92 ?_
    refine v_if_eq (tgt := 103) C dX5_count_95 (by decide) (fun q => ?_) (fun q => ?_)
    · replace h := hT q h
      refine v_aload_n C dX5_count_103 rfl ?_
      refine v_getr (j := 13) C fk_X5_33 rfl dX5_count_104 ?_
      refine v_iconst (v := 0) C dX5_count_107 (by decide) ?_
      obtain ⟨q8, h⟩ := hG h
      refine v_aald (t := 14) C rfl (by decide) q8 (rfS q8) dX5_count_108 ?_
      refine v_geti C fk_X5_258 (intS2 (clsS q8)) dX5_count_109 ?_
      obtain ⟨rfl, rfl⟩ := hR h
      exact v_iret C hQ dX5_count_112
    · replace h := hF q h
      refine v_bipush (v := (-4)) C dX5_count_98 (by decide) ?_
      refine v_goto (tgt := 112) C dX5_count_100 (by decide) ?_
      obtain ⟨rfl, rfl⟩ := hR h
      exact v_iret C hQ dX5_count_112
  replace h := hF q1_3 h
  by_cases q1_4 : v1 = 4
  · subst q1_4
    replace h := hT rfl h
    refine v_tin (tgt := 113) C dX5_count_1 (by decide) (by decide) rfl (by decide) ?_
    refine v_aload_n C dX5_count_113 rfl ?_
    refine v_getr (j := 5) C fk_X5_19 rfl dX5_count_114 ?_
    refine v_iconst (v := 0) C dX5_count_117 (by decide) ?_
    obtain ⟨r11, M9, c10, h⟩ := hB h
    refine v_callVi C (Pa_sumOf_ok (xl X) C.ig c10) ml_X5_261 mb_X1_sumOf mv_X1_sumOf rfl rfl rfl (Nat.le_of_ble_eq_true rfl) (by decide) (by decide) dX5_count_118 ?_
    obtain ⟨rfl, rfl⟩ := hR h
    exact v_iret C hQ dX5_count_121
  replace h := hF q1_4 h
  by_cases q1_5 : v1 = 5
  · subst q1_5
    replace h := hT rfl h
    refine v_tin (tgt := 122) C dX5_count_1 (by decide) (by decide) rfl (by decide) ?_
    refine v_aload_n C dX5_count_122 rfl ?_
    refine v_getr (j := 5) C fk_X5_19 rfl dX5_count_123 ?_
    refine v_iconst (v := 1) C dX5_count_126 (by decide) ?_
    obtain ⟨r14, M12, c13, h⟩ := hB h
    refine v_callVi C (Pa_sumOf_ok (xl X) C.ig c13) ml_X5_261 mb_X1_sumOf mv_X1_sumOf rfl rfl rfl (Nat.le_of_ble_eq_true rfl) (by decide) (by decide) dX5_count_127 ?_
    obtain ⟨rfl, rfl⟩ := hR h
    exact v_iret C hQ dX5_count_130
  replace h := hF q1_5 h
  refine v_tout (tgt := 131) C dX5_count_1 (tsw6 q1_0 q1_1 q1_2 q1_3 q1_4 q1_5) (by decide) ?_
  refine v_iconst (v := (-1)) C dX5_count_131 (by decide) ?_
  obtain ⟨rfl, rfl⟩ := hR h
  exact v_iret C hQ dX5_count_132
set_option maxHeartbeats 4000000 in
set_option maxRecDepth 100000 in
theorem Mo_in_ok (l : Launch) {G : GG} (hI : IG G) {M M' : Mem} {v0 : Int64} {v2 : Int64} {v4 : Int64} {r : Int32} (h : Mo_in v0 v2 v4 M = some (r, M')) : Sp l G yX6_in cX6_in 6 (some .boolean) 0 0 [.long v0, .long v2, .long v4] M (some (.int r)) M' := by
  unfold Mo_in at h
  refine sp_intro [some (.long v0), none, some (.long v2), none, some (.long v4), none] hI (by decide) (Nat.le_of_ble_eq_true rfl) (fun _ hq => hq) (fun X _ C hQ => ?_)
  refine v_lload_n C dX6_in_0 rfl ?_
  refine v_lload_n C dX6_in_1 rfl ?_
  refine v_lcmp C dX6_in_2 ?_
  refine v_if_lt (tgt := 17) C dX6_in_3 (by decide) (fun q => ?_) (fun q => ?_)
  · replace h := hT q h
    refine v_iconst (v := 0) C dX6_in_17 (by decide) ?_
    obtain ⟨rfl, rfl⟩ := hR h
    exact v_zret C hQ rfl dX6_in_18
  · replace h := hF q h
    refine v_lload_n C dX6_in_6 rfl ?_
    refine v_lload C dX6_in_7 rfl ?_
    refine v_lcmp C dX6_in_9 ?_
    refine v_if_gt (tgt := 17) C dX6_in_10 (by decide) (fun q => ?_) (fun q => ?_)
    · replace h := hT q h
      refine v_iconst (v := 0) C dX6_in_17 (by decide) ?_
      obtain ⟨rfl, rfl⟩ := hR h
      exact v_zret C hQ rfl dX6_in_18
    · replace h := hF q h
      refine v_iconst (v := 1) C dX6_in_13 (by decide) ?_
      refine v_goto (tgt := 18) C dX6_in_14 (by decide) ?_
      obtain ⟨rfl, rfl⟩ := hR h
      exact v_zret C hQ rfl dX6_in_18
set_option maxHeartbeats 4000000 in
set_option maxRecDepth 100000 in
theorem Mo_flag_ok (l : Launch) {G : GG} (hI : IG G) {M M' : Mem} {v0 : Int32} {r : Int32} (h : Mo_flag v0 M = some (r, M')) : Sp l G yX6_flag cX6_flag 1 (some .int) 0 0 [.int v0] M (some (.int r)) M' := by
  unfold Mo_flag at h
  refine sp_intro [some (.int v0)] hI (by decide) (Nat.le_of_ble_eq_true rfl) (fun _ hq => hq) (fun X _ C hQ => ?_)
  refine v_iload_n C dX6_flag_0 rfl ?_
  refine v_if_eq (tgt := 8) C dX6_flag_1 (by decide) (fun q => ?_) (fun q => ?_)
  · replace h := hT q h
    refine v_iconst (v := 0) C dX6_flag_8 (by decide) ?_
    obtain ⟨rfl, rfl⟩ := hR h
    exact v_iret C hQ dX6_flag_9
  · replace h := hF q h
    refine v_iconst (v := 1) C dX6_flag_4 (by decide) ?_
    refine v_goto (tgt := 9) C dX6_flag_5 (by decide) ?_
    obtain ⟨rfl, rfl⟩ := hR h
    exact v_iret C hQ dX6_flag_9
set_option maxHeartbeats 4000000 in
set_option maxRecDepth 100000 in
theorem Mo_feed_ok (l : Launch) {G : GG} (hI : IG G) {M M' : Mem} {v1 : Int32} {r : Int32} (h : Mo_feed v1 M = some (r, M')) : Sp l G yX6_feed cX6_feed 2 (some .int) 1 25 [.ref (G.2.1 32), .int v1] M (some (.int r)) M' := by
  unfold Mo_feed at h
  refine sp_intro [some (.ref (G.2.1 32)), some (.int v1)] hI (by decide) (Nat.le_of_ble_eq_true rfl) (fun _ hq => hq) (fun X _ C hQ => ?_)
  refine v_iload_n C dX6_feed_0 rfl ?_
  refine v_i2l C dX6_feed_1 ?_
  refine v_lconst (v := 0) C dX6_feed_2 (by decide) ?_
  refine v_ldc2 (v := 127) C dX6_feed_3 (tT 833 (by decide +kernel) rfl) ?_
  obtain ⟨r3, M1, c2, h⟩ := hB h
  refine v_callSi C (Mo_in_ok (xl X) C.ig c2) ml_X6_64 mb_X6_in ms_X6_in rfl rfl (Nat.le_of_ble_eq_true rfl) (by decide) (by decide) dX6_feed_6 ?_
  refine v_if_ne (tgt := 14) C dX6_feed_9 (by decide) (fun q => ?_) (fun q => ?_)
  · replace h := hF q h
    refine v_aload_n C dX6_feed_14 rfl ?_
    refine v_geti C fk_X6_68 rfl dX6_feed_15 ?_
    refine v_sipush (v := 160) C dX6_feed_18 (by decide) ?_
    refine v_icmp_ne (tgt := 27) C dX6_feed_21 (by decide) (fun q => ?_) (fun q => ?_)
    · replace h := hF q h
      refine v_aload_n C dX6_feed_27 rfl ?_
      refine v_getr (j := 37) C fk_X6_23 rfl dX6_feed_28 ?_
      refine v_aload_n C dX6_feed_31 rfl ?_
      refine v_geti C fk_X6_68 rfl dX6_feed_32 ?_
      refine v_iload_n C dX6_feed_35 rfl ?_
      obtain ⟨q4, h⟩ := hG h
      refine v_iast C rfl q4 dX6_feed_36 ?_
      refine v_aload_n C dX6_feed_37 rfl ?_
      refine v_dup C dX6_feed_38 rfl ?_
      refine v_geti C fk_X6_68 rfl dX6_feed_39 ?_
      refine v_iconst (v := 1) C dX6_feed_42 (by decide) ?_
      refine v_iadd C dX6_feed_43 ?_
      refine v_puti C fk_X6_68 rfl dX6_feed_44 ?_
      refine v_aload_n C dX6_feed_47 rfl ?_
      refine v_geti C fk_X6_68 rfl dX6_feed_48 ?_
      obtain ⟨rfl, rfl⟩ := hR h
      exact v_iret C hQ dX6_feed_51
    · replace h := hT q h
      refine v_bipush (v := (-3)) C dX6_feed_24 (by decide) ?_
      obtain ⟨rfl, rfl⟩ := hR h
      exact v_iret C hQ dX6_feed_26
  · replace h := hT q h
    refine v_iconst (v := (-1)) C dX6_feed_12 (by decide) ?_
    obtain ⟨rfl, rfl⟩ := hR h
    exact v_iret C hQ dX6_feed_13
set_option maxHeartbeats 4000000 in
set_option maxRecDepth 100000 in
theorem Mo_end_ok (l : Launch) {G : GG} (hI : IG G) {M M' : Mem} {v1 : Int32} {r : Int32} (h : Mo_end v1 M = some (r, M')) : Sp l G yX6_end cX6_end 3 (some .int) 1 25 [.ref (G.2.1 32), .int v1] M (some (.int r)) M' := by
  unfold Mo_end at h
  refine sp_intro [some (.ref (G.2.1 32)), some (.int v1), none] hI (by decide) (Nat.le_of_ble_eq_true rfl) (fun _ hq => hq) (fun X _ C hQ => ?_)
  refine v_iload_n C dX6_end_0 rfl ?_
  refine v_i2l C dX6_end_1 ?_
  refine v_lconst (v := 0) C dX6_end_2 (by decide) ?_
  refine v_aload_n C dX6_end_3 rfl ?_
  refine v_geti C fk_X6_68 rfl dX6_end_4 ?_
  refine v_i2l C dX6_end_7 ?_
  obtain ⟨r3, M1, c2, h⟩ := hB h
  refine v_callSi C (Mo_in_ok (xl X) C.ig c2) ml_X6_64 mb_X6_in ms_X6_in rfl rfl (Nat.le_of_ble_eq_true rfl) (by decide) (by decide) dX6_end_8 ?_
  refine v_if_ne (tgt := 16) C dX6_end_11 (by decide) (fun q => ?_) (fun q => ?_)
  · replace h := hF q h
    refine v_aload_n C dX6_end_16 rfl ?_
    refine v_geti C fk_X6_68 rfl dX6_end_17 ?_
    refine v_istore_n C dX6_end_20 (by decide) rfl ?_
    refine v_aload_n C dX6_end_21 rfl ?_
    refine v_iload_n C dX6_end_22 rfl ?_
    refine v_puti C fk_X6_68 rfl dX6_end_23 ?_
    refine v_iload_n C dX6_end_26 rfl ?_
    obtain ⟨rfl, rfl⟩ := hR h
    exact v_iret C hQ dX6_end_27
  · replace h := hT q h
    refine v_iconst (v := (-1)) C dX6_end_14 (by decide) ?_
    obtain ⟨rfl, rfl⟩ := hR h
    exact v_iret C hQ dX6_end_15
set_option maxHeartbeats 4000000 in
set_option maxRecDepth 100000 in
theorem Mo_requires_ok (l : Launch) {G : GG} (hI : IG G) {M M' : Mem} {v1 : Int32} {v2 : Int32} (h : Mo_requires v1 v2 M = some M') : Sp l G yX6_requires cX6_requires 3 none 0 0 [.ref (G.2.1 32), .int v1, .int v2] M none M' := by
  unfold Mo_requires at h
  refine sp_intro [some (.ref (G.2.1 32)), some (.int v1), some (.int v2)] hI (by decide) (Nat.le_of_ble_eq_true rfl) (fun _ hq => hq) (fun X _ C hQ => ?_)
  refine v_iload_n C dX6_requires_0 rfl ?_
  refine v_if_ne (tgt := 24) C dX6_requires_1 (by decide) (fun q => ?_) (fun q => ?_)
  · replace h := hF q h
    obtain rfl := hRv h
    exact v_vret C hQ dX6_requires_24
  · replace h := hT q h
    refine v_aload_n C dX6_requires_4 rfl ?_
    refine v_geti C fk_X6_72 rfl dX6_requires_5 ?_
    refine v_if_ne (tgt := 24) C dX6_requires_8 (by decide) (fun q => ?_) (fun q => ?_)
    · replace h := hF q h
      obtain rfl := hRv h
      exact v_vret C hQ dX6_requires_24
    · replace h := hT q h
      refine v_aload_n C dX6_requires_11 rfl ?_
      refine v_iload_n C dX6_requires_12 rfl ?_
      refine v_puti C fk_X6_72 rfl dX6_requires_13 ?_
      refine v_aload_n C dX6_requires_16 rfl ?_
      refine v_aload_n C dX6_requires_17 rfl ?_
      refine v_geti C fk_X6_75 rfl dX6_requires_18 ?_
      refine v_puti C fk_X6_78 rfl dX6_requires_21 ?_
      obtain rfl := hRv h
      exact v_vret C hQ dX6_requires_24
set_option maxHeartbeats 4000000 in
set_option maxRecDepth 100000 in
theorem Mo_byteAt_ok (l : Launch) {G : GG} (hI : IG G) {M M' : Mem} {v1 : Int32} {r : Int32} (h : Mo_byteAt v1 M = some (r, M')) : Sp l G yX6_byteAt cX6_byteAt 2 (some .int) 0 0 [.ref (G.2.1 32), .int v1] M (some (.int r)) M' := by
  unfold Mo_byteAt at h
  refine sp_intro [some (.ref (G.2.1 32)), some (.int v1)] hI (by decide) (Nat.le_of_ble_eq_true rfl) (fun _ hq => hq) (fun X _ C hQ => ?_)
  refine v_iload_n C dX6_byteAt_0 rfl ?_
  refine v_aload_n C dX6_byteAt_1 rfl ?_
  refine v_geti C fk_X6_68 rfl dX6_byteAt_2 ?_
  refine v_icmp_ge (tgt := 17) C dX6_byteAt_5 (by decide) (fun q => ?_) (fun q => ?_)
  · replace h := hT q h
    refine v_iconst (v := (-1)) C dX6_byteAt_17 (by decide) ?_
    obtain ⟨rfl, rfl⟩ := hR h
    exact v_iret C hQ dX6_byteAt_18
  · replace h := hF q h
    refine v_aload_n C dX6_byteAt_8 rfl ?_
    refine v_getr (j := 37) C fk_X6_23 rfl dX6_byteAt_9 ?_
    refine v_iload_n C dX6_byteAt_12 rfl ?_
    obtain ⟨q1, h⟩ := hG h
    refine v_iald C rfl q1 dX6_byteAt_13 ?_
    refine v_goto (tgt := 18) C dX6_byteAt_14 (by decide) ?_
    obtain ⟨rfl, rfl⟩ := hR h
    exact v_iret C hQ dX6_byteAt_18
set_option maxHeartbeats 4000000 in
set_option maxRecDepth 100000 in
theorem Mo_is_ok (l : Launch) {G : GG} (hI : IG G) {M M' : Mem} {v1 : Int32} {v2 : Int32} {v3 : Int32} {v4 : Int32} {r : Int32} (h : Mo_is v1 v2 v3 v4 M = some (r, M')) : Sp l G yX6_is cX6_is 5 (some .boolean) 1 21 [.ref (G.2.1 32), .int v1, .int v2, .int v3, .int v4] M (some (.int r)) M' := by
  unfold Mo_is at h
  refine sp_intro [some (.ref (G.2.1 32)), some (.int v1), some (.int v2), some (.int v3), some (.int v4)] hI (by decide) (Nat.le_of_ble_eq_true rfl) (fun _ hq => hq) (fun X _ C hQ => ?_)
  refine v_aload_n C dX6_is_0 rfl ?_
  refine v_geti C fk_X6_81 rfl dX6_is_1 ?_
  refine v_aload_n C dX6_is_4 rfl ?_
  refine v_geti C fk_X6_75 rfl dX6_is_5 ?_
  refine v_isub C dX6_is_8 ?_
  refine v_iload_n C dX6_is_9 rfl ?_
  refine v_icmp_ne (tgt := 63) C dX6_is_10 (by decide) (fun q => ?_) (fun q => ?_)
  · replace h := hF q h
    refine v_iconst (v := 0) C dX6_is_63 (by decide) ?_
    obtain ⟨rfl, rfl⟩ := hR h
    exact v_zret C hQ rfl dX6_is_64
  · replace h := hT q h
    refine v_aload_n C dX6_is_13 rfl ?_
    refine v_aload_n C dX6_is_14 rfl ?_
    refine v_geti C fk_X6_75 rfl dX6_is_15 ?_
    obtain ⟨r3, M1, c2, h⟩ := hB h
    refine v_callVi C (Mo_byteAt_ok (xl X) C.ig c2) ml_X6_84 mb_X6_byteAt mv_X6_byteAt rfl rfl rfl (Nat.le_of_ble_eq_true rfl) (by decide) (by decide) dX6_is_18 ?_
    refine v_iload_n C dX6_is_21 rfl ?_
    refine v_icmp_ne (tgt := 63) C dX6_is_22 (by decide) (fun q => ?_) (fun q => ?_)
    · replace h := hF q h
      refine v_iconst (v := 0) C dX6_is_63 (by decide) ?_
      obtain ⟨rfl, rfl⟩ := hR h
      exact v_zret C hQ rfl dX6_is_64
    · replace h := hT q h
      refine v_aload_n C dX6_is_25 rfl ?_
      refine v_aload_n C dX6_is_26 rfl ?_
      refine v_geti C fk_X6_75 rfl dX6_is_27 ?_
      refine v_iconst (v := 1) C dX6_is_30 (by decide) ?_
      refine v_iadd C dX6_is_31 ?_
      obtain ⟨r6, M4, c5, h⟩ := hB h
      refine v_callVi C (Mo_byteAt_ok (xl X) C.ig c5) ml_X6_84 mb_X6_byteAt mv_X6_byteAt rfl rfl rfl (Nat.le_of_ble_eq_true rfl) (by decide) (by decide) dX6_is_32 ?_
      refine v_iload_n C dX6_is_35 rfl ?_
      refine v_icmp_ne (tgt := 63) C dX6_is_36 (by decide) (fun q => ?_) (fun q => ?_)
      · replace h := hF q h
        refine v_iconst (v := 0) C dX6_is_63 (by decide) ?_
        obtain ⟨rfl, rfl⟩ := hR h
        exact v_zret C hQ rfl dX6_is_64
      · replace h := hT q h
        refine v_iload_n C dX6_is_39 rfl ?_
        refine v_iconst (v := 2) C dX6_is_40 (by decide) ?_
        refine v_icmp_eq (tgt := 59) C dX6_is_41 (by decide) (fun q => ?_) (fun q => ?_)
        · replace h := hT q h
          refine v_iconst (v := 1) C dX6_is_59 (by decide) ?_
          refine v_goto (tgt := 64) C dX6_is_60 (by decide) ?_
          obtain ⟨rfl, rfl⟩ := hR h
          exact v_zret C hQ rfl dX6_is_64
        · replace h := hF q h
          refine v_aload_n C dX6_is_44 rfl ?_
          refine v_aload_n C dX6_is_45 rfl ?_
          refine v_geti C fk_X6_75 rfl dX6_is_46 ?_
          refine v_iconst (v := 2) C dX6_is_49 (by decide) ?_
          refine v_iadd C dX6_is_50 ?_
          obtain ⟨r9, M7, c8, h⟩ := hB h
          refine v_callVi C (Mo_byteAt_ok (xl X) C.ig c8) ml_X6_84 mb_X6_byteAt mv_X6_byteAt rfl rfl rfl (Nat.le_of_ble_eq_true rfl) (by decide) (by decide) dX6_is_51 ?_
          refine v_iload C dX6_is_54 rfl ?_
          refine v_icmp_ne (tgt := 63) C dX6_is_56 (by decide) (fun q => ?_) (fun q => ?_)
          · replace h := hF q h
            refine v_iconst (v := 0) C dX6_is_63 (by decide) ?_
            obtain ⟨rfl, rfl⟩ := hR h
            exact v_zret C hQ rfl dX6_is_64
          · replace h := hT q h
            refine v_iconst (v := 1) C dX6_is_59 (by decide) ?_
            refine v_goto (tgt := 64) C dX6_is_60 (by decide) ?_
            obtain ⟨rfl, rfl⟩ := hR h
            exact v_zret C hQ rfl dX6_is_64
set_option maxHeartbeats 4000000 in
set_option maxRecDepth 100000 in
theorem Mo_lineNow_b46_ok {X : XX} {G : GG} (C : Cx X G cX6_lineNow 1 RX6 2 45 (some .int)) {r : Int32} {M' : Mem} (hQ : Rt X G (some (.int r)) M')    {M : Mem}  (h : Mo_lineNow_b46 M = some (r, M')) : V X G 1 M 46 [some (.ref (G.2.1 32))] [] := by
  unfold Mo_lineNow_b46 at h
  refine v_aload_n C dX6_lineNow_46 rfl ?_
  refine v_iconst (v := 3) C dX6_lineNow_47 (by decide) ?_
  refine v_bipush (v := 99) C dX6_lineNow_48 (by decide) ?_
  refine v_bipush (v := 111) C dX6_lineNow_50 (by decide) ?_
  refine v_bipush (v := 108) C dX6_lineNow_52 (by decide) ?_
  obtain ⟨r3, M1, c2, h⟩ := hB h
  refine v_callVi C (Mo_is_ok (xl X) C.ig c2) ml_X6_88 mb_X6_is mv_X6_is rfl rfl rfl (Nat.le_of_ble_eq_true rfl) (by decide) (by decide) dX6_lineNow_54 ?_
  refine v_if_eq (tgt := 62) C dX6_lineNow_57 (by decide) (fun q => ?_) (fun q => ?_)
  · replace h := hT q h
    refine v_aload_n C dX6_lineNow_62 rfl ?_
    refine v_iconst (v := 3) C dX6_lineNow_63 (by decide) ?_
    refine v_bipush (v := 114) C dX6_lineNow_64 (by decide) ?_
    refine v_bipush (v := 111) C dX6_lineNow_66 (by decide) ?_
    refine v_bipush (v := 119) C dX6_lineNow_68 (by decide) ?_
    obtain ⟨r6, M4, c5, h⟩ := hB h
    refine v_callVi C (Mo_is_ok (xl X) C.ig c5) ml_X6_88 mb_X6_is mv_X6_is rfl rfl rfl (Nat.le_of_ble_eq_true rfl) (by decide) (by decide) dX6_lineNow_70 ?_
    refine v_if_eq (tgt := 78) C dX6_lineNow_73 (by decide) (fun q => ?_) (fun q => ?_)
    · replace h := hT q h
      refine v_aload_n C dX6_lineNow_78 rfl ?_
      refine v_iconst (v := 3) C dX6_lineNow_79 (by decide) ?_
      refine v_bipush (v := 105) C dX6_lineNow_80 (by decide) ?_
      refine v_bipush (v := 110) C dX6_lineNow_82 (by decide) ?_
      refine v_bipush (v := 102) C dX6_lineNow_84 (by decide) ?_
      obtain ⟨r9, M7, c8, h⟩ := hB h
      refine v_callVi C (Mo_is_ok (xl X) C.ig c8) ml_X6_88 mb_X6_is mv_X6_is rfl rfl rfl (Nat.le_of_ble_eq_true rfl) (by decide) (by decide) dX6_lineNow_86 ?_
      refine v_if_eq (tgt := 96) C dX6_lineNow_89 (by decide) (fun q => ?_) (fun q => ?_)
      · replace h := hT q h
        refine v_aload_n C dX6_lineNow_96 rfl ?_
        refine v_iconst (v := 2) C dX6_lineNow_97 (by decide) ?_
        refine v_bipush (v := 97) C dX6_lineNow_98 (by decide) ?_
        refine v_bipush (v := 116) C dX6_lineNow_100 (by decide) ?_
        refine v_iconst (v := 0) C dX6_lineNow_102 (by decide) ?_
        obtain ⟨r12, M10, c11, h⟩ := hB h
        refine v_callVi C (Mo_is_ok (xl X) C.ig c11) ml_X6_88 mb_X6_is mv_X6_is rfl rfl rfl (Nat.le_of_ble_eq_true rfl) (by decide) (by decide) dX6_lineNow_103 ?_
        refine v_if_eq (tgt := 113) C dX6_lineNow_106 (by decide) (fun q => ?_) (fun q => ?_)
        · replace h := hT q h
          refine v_bipush (v := (-4)) C dX6_lineNow_113 (by decide) ?_
          obtain ⟨rfl, rfl⟩ := hR h
          exact v_iret C hQ dX6_lineNow_115
        · replace h := hF q h
          refine v_iconst (v := 4) C dX6_lineNow_109 (by decide) ?_
          refine v_goto (tgt := 115) C dX6_lineNow_110 (by decide) ?_
          obtain ⟨rfl, rfl⟩ := hR h
          exact v_iret C hQ dX6_lineNow_115
      · replace h := hF q h
        refine v_iconst (v := 3) C dX6_lineNow_92 (by decide) ?_
        refine v_goto (tgt := 115) C dX6_lineNow_93 (by decide) ?_
        obtain ⟨rfl, rfl⟩ := hR h
        exact v_iret C hQ dX6_lineNow_115
    · replace h := hF q h
      refine v_iconst (v := 2) C dX6_lineNow_76 (by decide) ?_
      obtain ⟨rfl, rfl⟩ := hR h
      exact v_iret C hQ dX6_lineNow_77
  · replace h := hF q h
    refine v_iconst (v := 1) C dX6_lineNow_60 (by decide) ?_
    obtain ⟨rfl, rfl⟩ := hR h
    exact v_iret C hQ dX6_lineNow_61
set_option maxHeartbeats 4000000 in
set_option maxRecDepth 100000 in
theorem Mo_lineNow_ok (l : Launch) {G : GG} (hI : IG G) {M M' : Mem}  {r : Int32} (h : Mo_lineNow M = some (r, M')) : Sp l G yX6_lineNow cX6_lineNow 1 (some .int) 2 45 [.ref (G.2.1 32)] M (some (.int r)) M' := by
  unfold Mo_lineNow at h
  refine sp_intro [some (.ref (G.2.1 32))] hI (by decide) (Nat.le_of_ble_eq_true rfl) (fun _ hq => hq) (fun X _ C hQ => ?_)
  refine v_aload_n C dX6_lineNow_0 rfl ?_
  refine v_iconst (v := 5) C dX6_lineNow_1 (by decide) ?_
  refine v_bipush (v := 112) C dX6_lineNow_2 (by decide) ?_
  refine v_bipush (v := 114) C dX6_lineNow_4 (by decide) ?_
  refine v_bipush (v := 105) C dX6_lineNow_6 (by decide) ?_
  obtain ⟨r3, M1, c2, h⟩ := hB h
  refine v_callVi C (Mo_is_ok (xl X) C.ig c2) ml_X6_88 mb_X6_is mv_X6_is rfl rfl rfl (Nat.le_of_ble_eq_true rfl) (by decide) (by decide) dX6_lineNow_8 ?_
  refine v_if_eq (tgt := 46) C dX6_lineNow_11 (by decide) (fun q => ?_) (fun q => ?_)
  · replace h := hT q h
    exact v_weak [true] (Mo_lineNow_b46_ok C hQ h)
  · replace h := hF q h
    refine v_aload_n C dX6_lineNow_14 rfl ?_
    refine v_aload_n C dX6_lineNow_15 rfl ?_
    refine v_geti C fk_X6_75 rfl dX6_lineNow_16 ?_
    refine v_iconst (v := 3) C dX6_lineNow_19 (by decide) ?_
    refine v_iadd C dX6_lineNow_20 ?_
    obtain ⟨r6, M4, c5, h⟩ := hB h
    refine v_callVi C (Mo_byteAt_ok (xl X) C.ig c5) ml_X6_84 mb_X6_byteAt mv_X6_byteAt rfl rfl rfl (Nat.le_of_ble_eq_true rfl) (by decide) (by decide) dX6_lineNow_21 ?_
    refine v_bipush (v := 109) C dX6_lineNow_24 (by decide) ?_
    refine v_icmp_ne (tgt := 46) C dX6_lineNow_26 (by decide) (fun q => ?_) (fun q => ?_)
    · replace h := hF q h
      exact v_weak [true] (Mo_lineNow_b46_ok C hQ h)
    · replace h := hT q h
      refine v_aload_n C dX6_lineNow_29 rfl ?_
      refine v_aload_n C dX6_lineNow_30 rfl ?_
      refine v_geti C fk_X6_75 rfl dX6_lineNow_31 ?_
      refine v_iconst (v := 4) C dX6_lineNow_34 (by decide) ?_
      refine v_iadd C dX6_lineNow_35 ?_
      obtain ⟨r9, M7, c8, h⟩ := hB h
      refine v_callVi C (Mo_byteAt_ok (xl X) C.ig c8) ml_X6_84 mb_X6_byteAt mv_X6_byteAt rfl rfl rfl (Nat.le_of_ble_eq_true rfl) (by decide) (by decide) dX6_lineNow_36 ?_
      refine v_bipush (v := 101) C dX6_lineNow_39 (by decide) ?_
      refine v_icmp_ne (tgt := 46) C dX6_lineNow_41 (by decide) (fun q => ?_) (fun q => ?_)
      · replace h := hF q h
        exact v_weak [true] (Mo_lineNow_b46_ok C hQ h)
      · replace h := hT q h
        refine v_iconst (v := 0) C dX6_lineNow_44 (by decide) ?_
        obtain ⟨rfl, rfl⟩ := hR h
        exact v_iret C hQ dX6_lineNow_45
set_option maxHeartbeats 4000000 in
set_option maxRecDepth 100000 in
theorem Mo_reads_b260_ok {X : XX} {G : GG} (C : Cx X G cX6_reads 2 RX6 1 25 none) {M' : Mem} (hQ : Rt X G none M')   {s1 : Int32} {M : Mem}  (h : Mo_reads_b260 s1 M = some M') : V X G 2 M 260 [some (.ref (G.2.1 32)), none] [.int s1, .ref (G.2.1 32)] := by
  unfold Mo_reads_b260 at h
  refine v_iconst (v := 1) C dX6_reads_260 (by decide) ?_
  obtain ⟨M1, c2, h⟩ := hV h
  refine v_callVv C (Mo_requires_ok (xl X) C.ig c2) ml_X6_106 mb_X6_requires mv_X6_requires rfl rfl rfl (Nat.le_of_ble_eq_true rfl) (by decide) (by decide) dX6_reads_261 ?_
  refine v_aload_n C dX6_reads_264 rfl ?_
  refine v_dup C dX6_reads_265 rfl ?_
  refine v_geti C fk_X6_81 rfl dX6_reads_266 ?_
  refine v_iconst (v := 1) C dX6_reads_269 (by decide) ?_
  refine v_iadd C dX6_reads_270 ?_
  refine v_puti C fk_X6_81 rfl dX6_reads_271 ?_
  obtain rfl := hRv h
  exact v_vret C hQ dX6_reads_274
set_option maxHeartbeats 4000000 in
set_option maxRecDepth 100000 in
theorem Mo_reads_b236_ok {X : XX} {G : GG} (C : Cx X G cX6_reads 2 RX6 1 25 none) {M' : Mem} (hQ : Rt X G none M')   {s1 : Int32} {M : Mem}  (h : Mo_reads_b236 s1 M = some M') : V X G 2 M 236 [none, none] [.int s1, .ref (G.2.1 32)] := by
  unfold Mo_reads_b236 at h
  refine v_iconst (v := 1) C dX6_reads_236 (by decide) ?_
  obtain ⟨M1, c2, h⟩ := hV h
  refine v_callVv C (Mo_requires_ok (xl X) C.ig c2) ml_X6_106 mb_X6_requires mv_X6_requires rfl rfl rfl (Nat.le_of_ble_eq_true rfl) (by decide) (by decide) dX6_reads_237 ?_
  refine v_goto (tgt := 274) C dX6_reads_240 (by decide) ?_
  obtain rfl := hRv h
  exact v_vret C hQ dX6_reads_274
set_option maxHeartbeats 4000000 in
set_option maxRecDepth 100000 in
theorem Mo_reads_b201_ok {X : XX} {G : GG} (C : Cx X G cX6_reads 2 RX6 1 25 none) {M' : Mem} (hQ : Rt X G none M') {k140 : Mem → Option Mem} (H140 : ∀ (M : Mem), k140 M = some M' → V X G 2 M 140 [some (.ref (G.2.1 32)), none] []) {s1 : Int32} {M : Mem}  (h : Mo_reads_b201 k140 s1 M = some M') : V X G 2 M 201 [some (.ref (G.2.1 32)), none] [.int s1, .ref (G.2.1 32)] := by
  unfold Mo_reads_b201 at h
  refine v_puti C fk_X6_103 rfl dX6_reads_201 ?_
  refine v_aload_n C dX6_reads_204 rfl ?_
  refine v_dup C dX6_reads_205 rfl ?_
  refine v_geti C fk_X6_81 rfl dX6_reads_206 ?_
  refine v_iconst (v := 1) C dX6_reads_209 (by decide) ?_
  refine v_iadd C dX6_reads_210 ?_
  refine v_puti C fk_X6_81 rfl dX6_reads_211 ?_
  refine v_goto (tgt := 140) C dX6_reads_214 (by decide) ?_
  exact v_weak [true, false] (H140 _ h)
set_option maxHeartbeats 4000000 in
set_option maxRecDepth 100000 in
theorem Mo_reads_L140_ok {X : XX} {G : GG} (C : Cx X G cX6_reads 2 RX6 1 25 none) {M' : Mem} (hQ : Rt X G none M')   : ∀ (n : Nat) (M : Mem), Mo_reads_L140 n M = some M' → V X G 2 M 140 [some (.ref (G.2.1 32)), none] [] := by
  intro n
  induction n with
  | zero =>
    intro M h
    simp [Mo_reads_L140] at h
  | succ n ih =>
    intro M h
    rw [Mo_reads_L140] at h
    refine v_aload_n C dX6_reads_140 rfl ?_
    refine v_aload_n C dX6_reads_141 rfl ?_
    refine v_geti C fk_X6_81 rfl dX6_reads_142 ?_
    obtain ⟨r3, M1, c2, h⟩ := hB h
    refine v_callVi C (Mo_byteAt_ok (xl X) C.ig c2) ml_X6_84 mb_X6_byteAt mv_X6_byteAt rfl rfl rfl (Nat.le_of_ble_eq_true rfl) (by decide) (by decide) dX6_reads_145 ?_
    refine v_i2l C dX6_reads_148 ?_
    refine v_ldc2 (v := 48) C dX6_reads_149 (tT 855 (by decide +kernel) rfl) ?_
    refine v_ldc2 (v := 57) C dX6_reads_152 (tT 856 (by decide +kernel) rfl) ?_
    obtain ⟨r6, M4, c5, h⟩ := hB h
    refine v_callSi C (Mo_in_ok (xl X) C.ig c5) ml_X6_64 mb_X6_in ms_X6_in rfl rfl (Nat.le_of_ble_eq_true rfl) (by decide) (by decide) dX6_reads_155 ?_
    refine v_if_eq (tgt := 217) C dX6_reads_158 (by decide) (fun q => ?_) (fun q => ?_)
    · replace h := hT q h
      refine v_aload_n C dX6_reads_217 rfl ?_
      refine v_aload_n C dX6_reads_218 rfl ?_
      refine v_geti C fk_X6_81 rfl dX6_reads_219 ?_
      refine v_aload_n C dX6_reads_222 rfl ?_
      refine v_geti C fk_X6_75 rfl dX6_reads_223 ?_
      refine v_isub C dX6_reads_226 ?_
      refine v_iconst (v := 2) C dX6_reads_227 (by decide) ?_
      refine v_icmp_gt (tgt := 235) C dX6_reads_228 (by decide) (fun q => ?_) (fun q => ?_)
      · replace h := hT q h
        refine v_iconst (v := 0) C dX6_reads_235 (by decide) ?_
        exact v_weak [false, false] (Mo_reads_b236_ok C hQ h)
      · replace h := hF q h
        refine v_iconst (v := 1) C dX6_reads_231 (by decide) ?_
        refine v_goto (tgt := 236) C dX6_reads_232 (by decide) ?_
        exact v_weak [false, false] (Mo_reads_b236_ok C hQ h)
    · replace h := hF q h
      refine v_aload_n C dX6_reads_161 rfl ?_
      refine v_aload_n C dX6_reads_162 rfl ?_
      refine v_geti C fk_X6_81 rfl dX6_reads_163 ?_
      refine v_aload_n C dX6_reads_166 rfl ?_
      refine v_geti C fk_X6_75 rfl dX6_reads_167 ?_
      refine v_isub C dX6_reads_170 ?_
      refine v_iconst (v := 2) C dX6_reads_171 (by decide) ?_
      refine v_icmp_ge (tgt := 197) C dX6_reads_172 (by decide) (fun q => ?_) (fun q => ?_)
      · replace h := hT q h
        refine v_aload_n C dX6_reads_197 rfl ?_
        refine v_geti C fk_X6_103 rfl dX6_reads_198 ?_
        exact v_weak [true, false] (Mo_reads_b201_ok C hQ ih h)
      · replace h := hF q h
        refine v_bipush (v := 10) C dX6_reads_175 (by decide) ?_
        refine v_aload_n C dX6_reads_177 rfl ?_
        refine v_geti C fk_X6_103 rfl dX6_reads_178 ?_
        refine v_imul C dX6_reads_181 ?_
        refine v_aload_n C dX6_reads_182 rfl ?_
        refine v_aload_n C dX6_reads_183 rfl ?_
        refine v_geti C fk_X6_81 rfl dX6_reads_184 ?_
        obtain ⟨r9, M7, c8, h⟩ := hB h
        refine v_callVi C (Mo_byteAt_ok (xl X) C.ig c8) ml_X6_84 mb_X6_byteAt mv_X6_byteAt rfl rfl rfl (Nat.le_of_ble_eq_true rfl) (by decide) (by decide) dX6_reads_187 ?_
        refine v_iadd C dX6_reads_190 ?_
        refine v_bipush (v := 48) C dX6_reads_191 (by decide) ?_
        refine v_isub C dX6_reads_193 ?_
        refine v_goto (tgt := 201) C dX6_reads_194 (by decide) ?_
        exact v_weak [true, false] (Mo_reads_b201_ok C hQ ih h)
set_option maxHeartbeats 4000000 in
set_option maxRecDepth 100000 in
theorem Mo_reads_L82_ok {X : XX} {G : GG} (C : Cx X G cX6_reads 2 RX6 1 25 none) {M' : Mem} (hQ : Rt X G none M')   : ∀ (n : Nat) (M : Mem), Mo_reads_L82 n M = some M' → V X G 2 M 82 [some (.ref (G.2.1 32)), none] [] := by
  intro n
  induction n with
  | zero =>
    intro M h
    simp [Mo_reads_L82] at h
  | succ n ih =>
    intro M h
    rw [Mo_reads_L82] at h
    refine v_aload_n C dX6_reads_82 rfl ?_
    refine v_aload_n C dX6_reads_83 rfl ?_
    refine v_geti C fk_X6_81 rfl dX6_reads_84 ?_
    obtain ⟨r3, M1, c2, h⟩ := hB h
    refine v_callVi C (Mo_byteAt_ok (xl X) C.ig c2) ml_X6_84 mb_X6_byteAt mv_X6_byteAt rfl rfl rfl (Nat.le_of_ble_eq_true rfl) (by decide) (by decide) dX6_reads_87 ?_
    refine v_i2l C dX6_reads_90 ?_
    refine v_ldc2 (v := 97) C dX6_reads_91 (tT 853 (by decide +kernel) rfl) ?_
    refine v_ldc2 (v := 122) C dX6_reads_94 (tT 854 (by decide +kernel) rfl) ?_
    obtain ⟨r6, M4, c5, h⟩ := hB h
    refine v_callSi C (Mo_in_ok (xl X) C.ig c5) ml_X6_64 mb_X6_in ms_X6_in rfl rfl (Nat.le_of_ble_eq_true rfl) (by decide) (by decide) dX6_reads_97 ?_
    refine v_if_eq (tgt := 274) C dX6_reads_100 (by decide) (fun q => ?_) (fun q => ?_)
    · replace h := hT q h
      obtain rfl := hRv h
      exact v_vret C hQ dX6_reads_274
    · replace h := hF q h
      refine v_aload_n C dX6_reads_103 rfl ?_
      refine v_dup C dX6_reads_104 rfl ?_
      refine v_geti C fk_X6_81 rfl dX6_reads_105 ?_
      refine v_iconst (v := 1) C dX6_reads_108 (by decide) ?_
      refine v_iadd C dX6_reads_109 ?_
      refine v_puti C fk_X6_81 rfl dX6_reads_110 ?_
      refine v_goto (tgt := 82) C dX6_reads_113 (by decide) ?_
      exact v_weak [true, false] (ih _ h)
set_option maxHeartbeats 4000000 in
set_option maxRecDepth 100000 in
theorem Mo_reads_L8_ok {X : XX} {G : GG} (C : Cx X G cX6_reads 2 RX6 1 25 none) {M' : Mem} (hQ : Rt X G none M')   : ∀ (n : Nat) (M : Mem), Mo_reads_L8 n M = some M' → V X G 2 M 8 [some (.ref (G.2.1 32)), none] [] := by
  intro n
  induction n with
  | zero =>
    intro M h
    simp [Mo_reads_L8] at h
  | succ n ih =>
    intro M h
    rw [Mo_reads_L8] at h
    refine v_aload_n C dX6_reads_8 rfl ?_
    refine v_aload_n C dX6_reads_9 rfl ?_
    refine v_geti C fk_X6_81 rfl dX6_reads_10 ?_
    obtain ⟨r3, M1, c2, h⟩ := hB h
    refine v_callVi C (Mo_byteAt_ok (xl X) C.ig c2) ml_X6_84 mb_X6_byteAt mv_X6_byteAt rfl rfl rfl (Nat.le_of_ble_eq_true rfl) (by decide) (by decide) dX6_reads_13 ?_
    refine v_bipush (v := 32) C dX6_reads_16 (by decide) ?_
    refine v_icmp_ne (tgt := 34) C dX6_reads_18 (by decide) (fun q => ?_) (fun q => ?_)
    · replace h := hF q h
      refine v_aload_n C dX6_reads_34 rfl ?_
      refine v_aload_n C dX6_reads_35 rfl ?_
      refine v_geti C fk_X6_81 rfl dX6_reads_36 ?_
      refine v_puti C fk_X6_75 rfl dX6_reads_39 ?_
      refine v_aload_n C dX6_reads_42 rfl ?_
      refine v_aload_n C dX6_reads_43 rfl ?_
      refine v_geti C fk_X6_81 rfl dX6_reads_44 ?_
      obtain ⟨r6, M4, c5, h⟩ := hB h
      refine v_callVi C (Mo_byteAt_ok (xl X) C.ig c5) ml_X6_84 mb_X6_byteAt mv_X6_byteAt rfl rfl rfl (Nat.le_of_ble_eq_true rfl) (by decide) (by decide) dX6_reads_47 ?_
      refine v_istore_n C dX6_reads_50 (by decide) rfl ?_
      refine v_iload_n C dX6_reads_51 rfl ?_
      refine v_if_ge (tgt := 63) C dX6_reads_52 (by decide) (fun q => ?_) (fun q => ?_)
      · replace h := hT q h
        refine v_iload_n C dX6_reads_63 rfl ?_
        refine v_i2l C dX6_reads_64 ?_
        refine v_ldc2 (v := 97) C dX6_reads_65 (tT 853 (by decide +kernel) rfl) ?_
        refine v_ldc2 (v := 122) C dX6_reads_68 (tT 854 (by decide +kernel) rfl) ?_
        obtain ⟨r9, M7, c8, h⟩ := hB h
        refine v_callSi C (Mo_in_ok (xl X) C.ig c8) ml_X6_64 mb_X6_in ms_X6_in rfl rfl (Nat.le_of_ble_eq_true rfl) (by decide) (by decide) dX6_reads_71 ?_
        refine v_if_eq (tgt := 116) C dX6_reads_74 (by decide) (fun q => ?_) (fun q => ?_)
        · replace h := hT q h
          refine v_iload_n C dX6_reads_116 rfl ?_
          refine v_i2l C dX6_reads_117 ?_
          refine v_ldc2 (v := 48) C dX6_reads_118 (tT 855 (by decide +kernel) rfl) ?_
          refine v_ldc2 (v := 57) C dX6_reads_121 (tT 856 (by decide +kernel) rfl) ?_
          obtain ⟨r12, M10, c11, h⟩ := hB h
          refine v_callSi C (Mo_in_ok (xl X) C.ig c11) ml_X6_64 mb_X6_in ms_X6_in rfl rfl (Nat.le_of_ble_eq_true rfl) (by decide) (by decide) dX6_reads_124 ?_
          refine v_if_eq (tgt := 243) C dX6_reads_127 (by decide) (fun q => ?_) (fun q => ?_)
          · replace h := hT q h
            refine v_aload_n C dX6_reads_243 rfl ?_
            refine v_iconst (v := 3) C dX6_reads_244 (by decide) ?_
            refine v_puti C fk_X6_92 rfl dX6_reads_245 ?_
            refine v_aload_n C dX6_reads_248 rfl ?_
            refine v_iload_n C dX6_reads_249 rfl ?_
            refine v_bipush (v := 59) C dX6_reads_250 (by decide) ?_
            refine v_icmp_ne (tgt := 259) C dX6_reads_252 (by decide) (fun q => ?_) (fun q => ?_)
            · replace h := hF q h
              refine v_iconst (v := 0) C dX6_reads_259 (by decide) ?_
              exact v_weak [true, false] (Mo_reads_b260_ok C hQ h)
            · replace h := hT q h
              refine v_iconst (v := 1) C dX6_reads_255 (by decide) ?_
              refine v_goto (tgt := 260) C dX6_reads_256 (by decide) ?_
              exact v_weak [true, false] (Mo_reads_b260_ok C hQ h)
          · replace h := hF q h
            refine v_aload_n C dX6_reads_130 rfl ?_
            refine v_iconst (v := 2) C dX6_reads_131 (by decide) ?_
            refine v_puti C fk_X6_92 rfl dX6_reads_132 ?_
            refine v_aload_n C dX6_reads_135 rfl ?_
            refine v_iconst (v := 0) C dX6_reads_136 (by decide) ?_
            refine v_puti C fk_X6_103 rfl dX6_reads_137 ?_
            exact v_weak [true, false] (Mo_reads_L140_ok C hQ _ _ h)
        · replace h := hF q h
          refine v_aload_n C dX6_reads_77 rfl ?_
          refine v_iconst (v := 1) C dX6_reads_78 (by decide) ?_
          refine v_puti C fk_X6_92 rfl dX6_reads_79 ?_
          exact v_weak [true, false] (Mo_reads_L82_ok C hQ _ _ h)
      · replace h := hF q h
        refine v_aload_n C dX6_reads_55 rfl ?_
        refine v_iconst (v := 0) C dX6_reads_56 (by decide) ?_
        refine v_puti C fk_X6_92 rfl dX6_reads_57 ?_
        refine v_goto (tgt := 274) C dX6_reads_60 (by decide) ?_
        obtain rfl := hRv h
        exact v_vret C hQ dX6_reads_274
    · replace h := hT q h
      refine v_aload_n C dX6_reads_21 rfl ?_
      refine v_dup C dX6_reads_22 rfl ?_
      refine v_geti C fk_X6_81 rfl dX6_reads_23 ?_
      refine v_iconst (v := 1) C dX6_reads_26 (by decide) ?_
      refine v_iadd C dX6_reads_27 ?_
      refine v_puti C fk_X6_81 rfl dX6_reads_28 ?_
      refine v_goto (tgt := 8) C dX6_reads_31 (by decide) ?_
      exact v_weak [true, false] (ih _ h)
set_option maxHeartbeats 4000000 in
set_option maxRecDepth 100000 in
theorem Mo_reads_ok (l : Launch) {G : GG} (hI : IG G) {M M' : Mem}  (h : Mo_reads M = some M') : Sp l G yX6_reads cX6_reads 2 none 1 25 [.ref (G.2.1 32)] M none M' := by
  unfold Mo_reads at h
  refine sp_intro [some (.ref (G.2.1 32)), none] hI (by decide) (Nat.le_of_ble_eq_true rfl) (fun _ hq => hq) (fun X _ C hQ => ?_)
  refine v_aload_n C dX6_reads_0 rfl ?_
  refine v_geti C fk_X6_72 rfl dX6_reads_1 ?_
  refine v_if_le (tgt := 8) C dX6_reads_4 (by decide) (fun q => ?_) (fun q => ?_)
  · replace h := hT q h
    exact v_weak [true, false] (Mo_reads_L8_ok C hQ _ _ h)
  · replace h := hF q h
    obtain rfl := hRv h
    exact v_vret C hQ dX6_reads_7
