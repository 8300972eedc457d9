set_option maxHeartbeats 4000000 in
set_option maxRecDepth 100000 in
theorem Un_rankAt_ok (l : Launch) {G : GG} (hI : IG G) {M M' : Mem} {v1 : Nat} {v2 : Int32} {r : Int32} (h : Un_rankAt v1 v2 M = some (r, M')) : Sp l G yX4_rankAt cX4_rankAt 3 (some .int) 4 99 [.ref (G.2.1 22), .ref (G.2.1 v1), .int v2] M (some (.int r)) M' := by
  unfold Un_rankAt at h
  obtain ⟨g1, h⟩ := hG h
  refine sp_intro [some (.ref (G.2.1 22)), some (.ref (G.2.1 v1)), some (.int v2)] hI (by decide) (Nat.le_of_ble_eq_true rfl) (fun _ hq => hq) (fun X _ C hQ => ?_)
  refine v_aload_n C dX4_rankAt_0 rfl ?_
  refine v_aload_n C dX4_rankAt_1 rfl ?_
  refine v_iload_n C dX4_rankAt_2 rfl ?_
  refine v_iconst (v := 1) C dX4_rankAt_3 (by decide) ?_
  obtain ⟨M1, c2, h⟩ := hV h
  refine v_callVv C (Un_putChains_ok (xl X) C.ig c2) ml_X4_35 mb_X4_putChains mv_X4_putChains rfl rfl rfl (Nat.le_of_ble_eq_true rfl) (by decide) (by decide) dX4_rankAt_4 ?_
  refine v_aload_n C dX4_rankAt_7 rfl ?_
  refine v_getr (j := 23) C fk_X4_21 rfl dX4_rankAt_8 ?_
  obtain ⟨r5, M3, c4, h⟩ := hB h
  refine v_callVi C (Eq_useUpForRank_ok (xl X) C.ig c4) ml_X4_39 mb_X0_useUpForRank mv_X0_useUpForRank rfl rfl rfl (Nat.le_of_ble_eq_true rfl) (by decide) (by decide) dX4_rankAt_11 ?_
  obtain ⟨rfl, rfl⟩ := hR h
  exact v_iret C hQ dX4_rankAt_14
set_option maxHeartbeats 4000000 in
set_option maxRecDepth 100000 in
theorem Un_nullsOf_L16_ok {X : XX} {G : GG} (C : Cx X G cX4_nullsOf 4 RX4 3 74 (some .int)) {r : Int32} {M' : Mem} (hQ : Rt X G (some (.int r)) M')   : ∀ (n : Nat) (v1 : Nat) (v2 : Int32) (v3 : Int32) (M : Mem), isP v1 = true → Un_nullsOf_L16 n v1 v2 v3 M = some (r, M') → V X G 4 M 16 [some (.ref (G.2.1 22)), some (.ref (G.2.1 v1)), some (.int v2), some (.int v3)] [] := by
  intro n
  induction n with
  | zero =>
    intro v1 v2 v3 M g1 h
    simp [Un_nullsOf_L16] at h
  | succ n ih =>
    intro v1 v2 v3 M g1 h
    rw [Un_nullsOf_L16] at h
    refine v_iload_n C dX4_nullsOf_16 rfl ?_
    refine v_iload_n C dX4_nullsOf_17 rfl ?_
    refine v_icmp_gt (tgt := 53) C dX4_nullsOf_18 (by decide) (fun q => ?_) (fun q => ?_)
    · replace h := hT q h
      refine v_aload_n C dX4_nullsOf_53 rfl ?_
      refine v_getr (j := 23) C fk_X4_21 rfl dX4_nullsOf_54 ?_
      refine v_geti C fk_X4_50 rfl dX4_nullsOf_57 ?_
      refine v_aload_n C dX4_nullsOf_60 rfl ?_
      refine v_getr (j := 23) C fk_X4_21 rfl dX4_nullsOf_61 ?_
      obtain ⟨r3, M1, c2, h⟩ := hB h
      refine v_callVi C (Eq_useUpForRank_ok (xl X) C.ig c2) ml_X4_39 mb_X0_useUpForRank mv_X0_useUpForRank rfl rfl rfl (Nat.le_of_ble_eq_true rfl) (by decide) (by decide) dX4_nullsOf_64 ?_
      refine v_isub C dX4_nullsOf_67 ?_
      obtain ⟨rfl, rfl⟩ := hR h
      exact v_iret C hQ dX4_nullsOf_68
    · replace h := hF q h
      refine v_aload_n C dX4_nullsOf_21 rfl ?_
      refine v_getr (j := 23) C fk_X4_21 rfl dX4_nullsOf_22 ?_
      refine v_aload_n C dX4_nullsOf_25 rfl ?_
      refine v_iload_n C dX4_nullsOf_26 rfl ?_
      refine v_iload_n C dX4_nullsOf_27 rfl ?_
      refine v_iconst (v := 1) C dX4_nullsOf_28 (by decide) ?_
      refine v_iconst (v := 0) C dX4_nullsOf_29 (by decide) ?_
      obtain ⟨M4, c5, h⟩ := hV h
      refine v_callVv C (Eq_putBlock_ok (xl X) C.ig c5) ml_X4_46 mb_X0_putBlock mv_X0_putBlock rfl rfl rfl (Nat.le_of_ble_eq_true rfl) (by decide) (by decide) dX4_nullsOf_30 ?_
      refine v_aload_n C dX4_nullsOf_33 rfl ?_
      refine v_getr (j := 23) C fk_X4_21 rfl dX4_nullsOf_34 ?_
      refine v_aload_n C dX4_nullsOf_37 rfl ?_
      refine v_iload_n C dX4_nullsOf_38 rfl ?_
      refine v_iconst (v := 1) C dX4_nullsOf_39 (by decide) ?_
      refine v_iadd C dX4_nullsOf_40 ?_
      refine v_iload_n C dX4_nullsOf_41 rfl ?_
      refine v_iconst (v := 0) C dX4_nullsOf_42 (by decide) ?_
      refine v_iconst (v := (-1)) C dX4_nullsOf_43 (by decide) ?_
      obtain ⟨M6, c7, h⟩ := hV h
      refine v_callVv C (Eq_putBlock_ok (xl X) C.ig c7) ml_X4_46 mb_X0_putBlock mv_X0_putBlock rfl rfl rfl (Nat.le_of_ble_eq_true rfl) (by decide) (by decide) dX4_nullsOf_44 ?_
      refine v_iinc (v := 1) C dX4_nullsOf_47 rfl (by decide) (by decide) rfl ?_
      refine v_goto (tgt := 16) C dX4_nullsOf_50 (by decide) ?_
      exact v_weak [true, true, true, true] (ih _ _ _ _ g1 h)
set_option maxHeartbeats 4000000 in
set_option maxRecDepth 100000 in
theorem Un_nullsOf_ok (l : Launch) {G : GG} (hI : IG G) {M M' : Mem} {v1 : Nat} {v2 : Int32} {r : Int32} (h : Un_nullsOf v1 v2 M = some (r, M')) : Sp l G yX4_nullsOf cX4_nullsOf 4 (some .int) 3 74 [.ref (G.2.1 22), .ref (G.2.1 v1), .int v2] M (some (.int r)) M' := by
  unfold Un_nullsOf at h
  obtain ⟨g1, h⟩ := hG h
  refine sp_intro [some (.ref (G.2.1 22)), some (.ref (G.2.1 v1)), some (.int v2), none] hI (by decide) (Nat.le_of_ble_eq_true rfl) (fun _ hq => hq) (fun X _ C hQ => ?_)
  refine v_aload_n C dX4_nullsOf_0 rfl ?_
  refine v_getr (j := 23) C fk_X4_21 rfl dX4_nullsOf_1 ?_
  refine v_aload_n C dX4_nullsOf_4 rfl ?_
  refine v_iload_n C dX4_nullsOf_5 rfl ?_
  refine v_iconst (v := 2) C dX4_nullsOf_6 (by decide) ?_
  refine v_iadd C dX4_nullsOf_7 ?_
  refine v_iload_n C dX4_nullsOf_8 rfl ?_
  refine v_iconst (v := 1) C dX4_nullsOf_9 (by decide) ?_
  refine v_iadd C dX4_nullsOf_10 ?_
  obtain ⟨M1, c2, h⟩ := hV h
  refine v_callVv C (Eq_begin_ok (xl X) C.ig c2) ml_X4_43 mb_X0_begin mv_X0_begin rfl rfl rfl (Nat.le_of_ble_eq_true rfl) (by decide) (by decide) dX4_nullsOf_11 ?_
  refine v_iconst (v := 0) C dX4_nullsOf_14 (by decide) ?_
  refine v_istore_n C dX4_nullsOf_15 (by decide) rfl ?_
  exact v_weak [true, true, true, true] (Un_nullsOf_L16_ok C hQ _ _ _ _ _ g1 h)
set_option maxHeartbeats 4000000 in
set_option maxRecDepth 100000 in
theorem Un_chainsAt_ok (l : Launch) {G : GG} (hI : IG G) {M M' : Mem} {v1 : Nat} {v2 : Int32} {v3 : Int32} {r : Int32} (h : Un_chainsAt v1 v2 v3 M = some (r, M')) : Sp l G yX4_chainsAt cX4_chainsAt 4 (some .int) 4 99 [.ref (G.2.1 22), .ref (G.2.1 v1), .int v2, .int v3] M (some (.int r)) M' := by
  unfold Un_chainsAt at h
  obtain ⟨g1, h⟩ := hG h
  refine sp_intro [some (.ref (G.2.1 22)), some (.ref (G.2.1 v1)), some (.int v2), some (.int v3)] hI (by decide) (Nat.le_of_ble_eq_true rfl) (fun _ hq => hq) (fun X _ C hQ => ?_)
  refine v_aload_n C dX4_chainsAt_0 rfl ?_
  refine v_aload_n C dX4_chainsAt_1 rfl ?_
  refine v_iload_n C dX4_chainsAt_2 rfl ?_
  refine v_iload_n C dX4_chainsAt_3 rfl ?_
  obtain ⟨M1, c2, h⟩ := hV h
  refine v_callVv C (Un_putChains_ok (xl X) C.ig c2) ml_X4_35 mb_X4_putChains mv_X4_putChains rfl rfl rfl (Nat.le_of_ble_eq_true rfl) (by decide) (by decide) dX4_chainsAt_4 ?_
  refine v_aload_n C dX4_chainsAt_7 rfl ?_
  refine v_getr (j := 23) C fk_X4_21 rfl dX4_chainsAt_8 ?_
  refine v_geti C fk_X4_50 rfl dX4_chainsAt_11 ?_
  refine v_aload_n C dX4_chainsAt_14 rfl ?_
  refine v_getr (j := 23) C fk_X4_21 rfl dX4_chainsAt_15 ?_
  obtain ⟨r5, M3, c4, h⟩ := hB h
  refine v_callVi C (Eq_useUpForRank_ok (xl X) C.ig c4) ml_X4_39 mb_X0_useUpForRank mv_X0_useUpForRank rfl rfl rfl (Nat.le_of_ble_eq_true rfl) (by decide) (by decide) dX4_chainsAt_18 ?_
  refine v_isub C dX4_chainsAt_21 ?_
  obtain ⟨rfl, rfl⟩ := hR h
  exact v_iret C hQ dX4_chainsAt_22
set_option maxHeartbeats 4000000 in
set_option maxRecDepth 100000 in
theorem Un_stepsOf_L14_ok {X : XX} {G : GG} (C : Cx X G cX4_stepsOf 4 RX4 3 74 (some .int)) {r : Int32} {M' : Mem} (hQ : Rt X G (some (.int r)) M')   : ∀ (n : Nat) (v1 : Nat) (v2 : Int32) (v3 : Int32) (M : Mem), isP v1 = true → Un_stepsOf_L14 n v1 v2 v3 M = some (r, M') → V X G 4 M 14 [some (.ref (G.2.1 22)), some (.ref (G.2.1 v1)), some (.int v2), some (.int v3)] [] := by
  intro n
  induction n with
  | zero =>
    intro v1 v2 v3 M g1 h
    simp [Un_stepsOf_L14] at h
  | succ n ih =>
    intro v1 v2 v3 M g1 h
    rw [Un_stepsOf_L14] at h
    refine v_iload_n C dX4_stepsOf_14 rfl ?_
    refine v_iload_n C dX4_stepsOf_15 rfl ?_
    refine v_icmp_ge (tgt := 51) C dX4_stepsOf_16 (by decide) (fun q => ?_) (fun q => ?_)
    · replace h := hT q h
      refine v_aload_n C dX4_stepsOf_51 rfl ?_
      refine v_getr (j := 23) C fk_X4_21 rfl dX4_stepsOf_52 ?_
      refine v_geti C fk_X4_50 rfl dX4_stepsOf_55 ?_
      refine v_aload_n C dX4_stepsOf_58 rfl ?_
      refine v_getr (j := 23) C fk_X4_21 rfl dX4_stepsOf_59 ?_
      obtain ⟨r3, M1, c2, h⟩ := hB h
      refine v_callVi C (Eq_useUpForRank_ok (xl X) C.ig c2) ml_X4_39 mb_X0_useUpForRank mv_X0_useUpForRank rfl rfl rfl (Nat.le_of_ble_eq_true rfl) (by decide) (by decide) dX4_stepsOf_62 ?_
      refine v_isub C dX4_stepsOf_65 ?_
      obtain ⟨rfl, rfl⟩ := hR h
      exact v_iret C hQ dX4_stepsOf_66
    · replace h := hF q h
      refine v_aload_n C dX4_stepsOf_19 rfl ?_
      refine v_getr (j := 23) C fk_X4_21 rfl dX4_stepsOf_20 ?_
      refine v_aload_n C dX4_stepsOf_23 rfl ?_
      refine v_iload_n C dX4_stepsOf_24 rfl ?_
      refine v_iload_n C dX4_stepsOf_25 rfl ?_
      refine v_iconst (v := (-1)) C dX4_stepsOf_26 (by decide) ?_
      refine v_iconst (v := 0) C dX4_stepsOf_27 (by decide) ?_
      obtain ⟨M4, c5, h⟩ := hV h
      refine v_callVv C (Eq_putBlock_ok (xl X) C.ig c5) ml_X4_46 mb_X0_putBlock mv_X0_putBlock rfl rfl rfl (Nat.le_of_ble_eq_true rfl) (by decide) (by decide) dX4_stepsOf_28 ?_
      refine v_aload_n C dX4_stepsOf_31 rfl ?_
      refine v_getr (j := 23) C fk_X4_21 rfl dX4_stepsOf_32 ?_
      refine v_aload_n C dX4_stepsOf_35 rfl ?_
      refine v_iload_n C dX4_stepsOf_36 rfl ?_
      refine v_iload_n C dX4_stepsOf_37 rfl ?_
      refine v_iconst (v := 1) C dX4_stepsOf_38 (by decide) ?_
      refine v_iadd C dX4_stepsOf_39 ?_
      refine v_iconst (v := 0) C dX4_stepsOf_40 (by decide) ?_
      refine v_iconst (v := 1) C dX4_stepsOf_41 (by decide) ?_
      obtain ⟨M6, c7, h⟩ := hV h
      refine v_callVv C (Eq_putBlock_ok (xl X) C.ig c7) ml_X4_46 mb_X0_putBlock mv_X0_putBlock rfl rfl rfl (Nat.le_of_ble_eq_true rfl) (by decide) (by decide) dX4_stepsOf_42 ?_
      refine v_iinc (v := 1) C dX4_stepsOf_45 rfl (by decide) (by decide) rfl ?_
      refine v_goto (tgt := 14) C dX4_stepsOf_48 (by decide) ?_
      exact v_weak [true, true, true, true] (ih _ _ _ _ g1 h)
set_option maxHeartbeats 4000000 in
set_option maxRecDepth 100000 in
theorem Un_stepsOf_ok (l : Launch) {G : GG} (hI : IG G) {M M' : Mem} {v1 : Nat} {v2 : Int32} {r : Int32} (h : Un_stepsOf v1 v2 M = some (r, M')) : Sp l G yX4_stepsOf cX4_stepsOf 4 (some .int) 3 74 [.ref (G.2.1 22), .ref (G.2.1 v1), .int v2] M (some (.int r)) M' := by
  unfold Un_stepsOf at h
  obtain ⟨g1, h⟩ := hG h
  refine sp_intro [some (.ref (G.2.1 22)), some (.ref (G.2.1 v1)), some (.int v2), none] hI (by decide) (Nat.le_of_ble_eq_true rfl) (fun _ hq => hq) (fun X _ C hQ => ?_)
  refine v_aload_n C dX4_stepsOf_0 rfl ?_
  refine v_getr (j := 23) C fk_X4_21 rfl dX4_stepsOf_1 ?_
  refine v_aload_n C dX4_stepsOf_4 rfl ?_
  refine v_iload_n C dX4_stepsOf_5 rfl ?_
  refine v_iload_n C dX4_stepsOf_6 rfl ?_
  refine v_iconst (v := 1) C dX4_stepsOf_7 (by decide) ?_
  refine v_iadd C dX4_stepsOf_8 ?_
  obtain ⟨M1, c2, h⟩ := hV h
  refine v_callVv C (Eq_begin_ok (xl X) C.ig c2) ml_X4_43 mb_X0_begin mv_X0_begin rfl rfl rfl (Nat.le_of_ble_eq_true rfl) (by decide) (by decide) dX4_stepsOf_9 ?_
  refine v_iconst (v := 0) C dX4_stepsOf_12 (by decide) ?_
  refine v_istore_n C dX4_stepsOf_13 (by decide) rfl ?_
  exact v_weak [true, true, true, true] (Un_stepsOf_L14_ok C hQ _ _ _ _ _ g1 h)
set_option maxHeartbeats 4000000 in
set_option maxRecDepth 100000 in
theorem Un_goersOf_ok (l : Launch) {G : GG} (hI : IG G) {M M' : Mem} {v1 : Nat} {v2 : Int32} {r : Int32} (h : Un_goersOf v1 v2 M = some (r, M')) : Sp l G yX4_goersOf cX4_goersOf 3 (some .int) 5 122 [.ref (G.2.1 22), .ref (G.2.1 v1), .int v2] M (some (.int r)) M' := by
  unfold Un_goersOf at h
  obtain ⟨g1, h⟩ := hG h
  refine sp_intro [some (.ref (G.2.1 22)), some (.ref (G.2.1 v1)), some (.int v2)] hI (by decide) (Nat.le_of_ble_eq_true rfl) (fun _ hq => hq) (fun X _ C hQ => ?_)
  refine v_aload_n C dX4_goersOf_0 rfl ?_
  refine v_aload_n C dX4_goersOf_1 rfl ?_
  refine v_iload_n C dX4_goersOf_2 rfl ?_
  obtain ⟨r3, M1, c2, h⟩ := hB h
  refine v_callVi C (Un_stepsOf_ok (xl X) C.ig c2) ml_X4_54 mb_X4_stepsOf mv_X4_stepsOf rfl rfl rfl (Nat.le_of_ble_eq_true rfl) (by decide) (by decide) dX4_goersOf_3 ?_
  refine v_aload_n C dX4_goersOf_6 rfl ?_
  refine v_aload_n C dX4_goersOf_7 rfl ?_
  refine v_aload_n C dX4_goersOf_8 rfl ?_
  refine v_geti C fk_X4_58 (intP1 g1) dX4_goersOf_9 ?_
  refine v_iload_n C dX4_goersOf_12 rfl ?_
  obtain ⟨r6, M4, c5, h⟩ := hB h
  refine v_callVi C (Un_chainsAt_ok (xl X) C.ig c5) ml_X4_61 mb_X4_chainsAt mv_X4_chainsAt rfl rfl rfl (Nat.le_of_ble_eq_true rfl) (by decide) (by decide) dX4_goersOf_13 ?_
  refine v_isub C dX4_goersOf_16 ?_
  obtain ⟨rfl, rfl⟩ := hR h
  exact v_iret C hQ dX4_goersOf_17
set_option maxHeartbeats 4000000 in
set_option maxRecDepth 100000 in
theorem Un_takeColumn_b64_ok {X : XX} {G : GG} (C : Cx X G cX4_takeColumn 5 RX4 0 0 (some .boolean)) {r : Int32} {M' : Mem} (hQ : Rt X G (some (.int r)) M')   {v3 : Int32} {M : Mem}  (h : Un_takeColumn_b64 v3 M = some (r, M')) : V X G 5 M 64 [none, none, none, some (.int v3), none] [] := by
  unfold Un_takeColumn_b64 at h
  refine v_iload_n C dX4_takeColumn_64 rfl ?_
  refine v_if_ne (tgt := 72) C dX4_takeColumn_65 (by decide) (fun q => ?_) (fun q => ?_)
  · replace h := hF q h
    refine v_iconst (v := 0) C dX4_takeColumn_72 (by decide) ?_
    obtain ⟨rfl, rfl⟩ := hR h
    exact v_zret C hQ rfl dX4_takeColumn_73
  · replace h := hT q h
    refine v_iconst (v := 1) C dX4_takeColumn_68 (by decide) ?_
    refine v_goto (tgt := 73) C dX4_takeColumn_69 (by decide) ?_
    obtain ⟨rfl, rfl⟩ := hR h
    exact v_zret C hQ rfl dX4_takeColumn_73
set_option maxHeartbeats 4000000 in
set_option maxRecDepth 100000 in
theorem Un_takeColumn_L11_ok {X : XX} {G : GG} (C : Cx X G cX4_takeColumn 5 RX4 0 0 (some .boolean)) {r : Int32} {M' : Mem} (hQ : Rt X G (some (.int r)) M')   : ∀ (n : Nat) (v1 : Nat) (v3 : Int32) (v4 : Int32) (M : Mem), isP v1 = true → Un_takeColumn_L11 n v1 v3 v4 M = some (r, M') → V X G 5 M 11 [some (.ref (G.2.1 22)), some (.ref (G.2.1 v1)), none, some (.int v3), some (.int v4)] [] := by
  intro n
  induction n with
  | zero =>
    intro v1 v3 v4 M g1 h
    simp [Un_takeColumn_L11] at h
  | succ n ih =>
    intro v1 v3 v4 M g1 h
    rw [Un_takeColumn_L11] at h
    refine v_iload C dX4_takeColumn_11 rfl ?_
    refine v_aload_n C dX4_takeColumn_13 rfl ?_
    refine v_geti C fk_X4_65 (intP3 g1) dX4_takeColumn_14 ?_
    refine v_icmp_ge (tgt := 64) C dX4_takeColumn_17 (by decide) (fun q => ?_) (fun q => ?_)
    · replace h := hT q h
      exact v_weak [false, false, false, true, false] (Un_takeColumn_b64_ok C hQ h)
    · replace h := hF q h
      refine v_iload C dX4_takeColumn_20 rfl ?_
      refine v_iconst (v := 4) C dX4_takeColumn_22 (by decide) ?_
      refine v_icmp_ge (tgt := 64) C dX4_takeColumn_23 (by decide) (fun q => ?_) (fun q => ?_)
      · replace h := hT q h
        exact v_weak [false, false, false, true, false] (Un_takeColumn_b64_ok C hQ h)
      · replace h := hF q h
        refine v_aload_n C dX4_takeColumn_26 rfl ?_
        refine v_getr (j := 29) C fk_X4_32 rfl dX4_takeColumn_27 ?_
        refine v_iload C dX4_takeColumn_30 rfl ?_
        refine v_iload_n C dX4_takeColumn_32 rfl ?_
        refine v_bipush (v := 10) C dX4_takeColumn_33 (by decide) ?_
        refine v_irem C dX4_takeColumn_35 (by decide) ?_
        obtain ⟨q1, h⟩ := hG h
        refine v_iast C rfl q1 dX4_takeColumn_36 ?_
        refine v_iload_n C dX4_takeColumn_37 rfl ?_
        refine v_bipush (v := 10) C dX4_takeColumn_38 (by decide) ?_
        refine v_idiv C dX4_takeColumn_40 (by decide) ?_
        refine v_istore_n C dX4_takeColumn_41 (by decide) rfl ?_
        refine v_aload_n C dX4_takeColumn_42 rfl ?_
        refine v_getr (j := 29) C fk_X4_32 rfl dX4_takeColumn_43 ?_
        refine v_iload C dX4_takeColumn_46 rfl ?_
        obtain ⟨q2, h⟩ := hG h
        refine v_iald C rfl q2 dX4_takeColumn_48 ?_
        refine v_aload_n C dX4_takeColumn_49 rfl ?_
        refine v_geti C fk_X4_58 (intP1 g1) dX4_takeColumn_50 ?_
        refine v_icmp_lt (tgt := 58) C dX4_takeColumn_53 (by decide) (fun q => ?_) (fun q => ?_)
        · replace h := hT q h
          refine v_iinc (v := 1) C dX4_takeColumn_58 rfl (by decide) (by decide) rfl ?_
          refine v_goto (tgt := 11) C dX4_takeColumn_61 (by decide) ?_
          exact v_weak [true, true, false, true, true] (ih _ _ _ _ g1 h)
        · replace h := hF q h
          refine v_iconst (v := 0) C dX4_takeColumn_56 (by decide) ?_
          obtain ⟨rfl, rfl⟩ := hR h
          exact v_zret C hQ rfl dX4_takeColumn_57
set_option maxHeartbeats 4000000 in
set_option maxRecDepth 100000 in
theorem Un_takeColumn_ok (l : Launch) {G : GG} (hI : IG G) {M M' : Mem} {v1 : Nat} {v2 : Int32} {r : Int32} (h : Un_takeColumn v1 v2 M = some (r, M')) : Sp l G yX4_takeColumn cX4_takeColumn 5 (some .boolean) 0 0 [.ref (G.2.1 22), .ref (G.2.1 v1), .int v2] M (some (.int r)) M' := by
  unfold Un_takeColumn at h
  obtain ⟨g1, h⟩ := hG h
  refine sp_intro [some (.ref (G.2.1 22)), some (.ref (G.2.1 v1)), some (.int v2), none, none] hI (by decide) (Nat.le_of_ble_eq_true rfl) (fun _ hq => hq) (fun X _ C hQ => ?_)
  refine v_iload_n C dX4_takeColumn_0 rfl ?_
  refine v_if_ge (tgt := 6) C dX4_takeColumn_1 (by decide) (fun q => ?_) (fun q => ?_)
  · replace h := hT q h
    refine v_iload_n C dX4_takeColumn_6 rfl ?_
    refine v_istore_n C dX4_takeColumn_7 (by decide) rfl ?_
    refine v_iconst (v := 0) C dX4_takeColumn_8 (by decide) ?_
    refine v_istore C dX4_takeColumn_9 (by decide) rfl ?_
    exact v_weak [true, true, false, true, true] (Un_takeColumn_L11_ok C hQ _ _ _ _ _ g1 h)
  · replace h := hF q h
    refine v_iconst (v := 0) C dX4_takeColumn_4 (by decide) ?_
    obtain ⟨rfl, rfl⟩ := hR h
    exact v_zret C hQ rfl dX4_takeColumn_5
set_option maxHeartbeats 4000000 in
set_option maxRecDepth 100000 in
theorem Un_columnCanGo_b44_ok {X : XX} {G : GG} (C : Cx X G cX4_columnCanGo 4 RX4 4 99 (some .boolean)) {r : Int32} {M' : Mem} (hQ : Rt X G (some (.int r)) M')   {v3 : Int32} {M : Mem}  (h : Un_columnCanGo_b44 v3 M = some (r, M')) : V X G 4 M 44 [some (.ref (G.2.1 22)), none, none, some (.int v3)] [] := by
  unfold Un_columnCanGo_b44 at h
  refine v_aload_n C dX4_columnCanGo_44 rfl ?_
  refine v_getr (j := 23) C fk_X4_21 rfl dX4_columnCanGo_45 ?_
  obtain ⟨r3, M1, c2, h⟩ := hB h
  refine v_callVi C (Eq_useUpForRank_ok (xl X) C.ig c2) ml_X4_39 mb_X0_useUpForRank mv_X0_useUpForRank rfl rfl rfl (Nat.le_of_ble_eq_true rfl) (by decide) (by decide) dX4_columnCanGo_48 ?_
  refine v_iload_n C dX4_columnCanGo_51 rfl ?_
  refine v_icmp_ne (tgt := 59) C dX4_columnCanGo_52 (by decide) (fun q => ?_) (fun q => ?_)
  · replace h := hF q h
    refine v_iconst (v := 0) C dX4_columnCanGo_59 (by decide) ?_
    obtain ⟨rfl, rfl⟩ := hR h
    exact v_zret C hQ rfl dX4_columnCanGo_60
  · replace h := hT q h
    refine v_iconst (v := 1) C dX4_columnCanGo_55 (by decide) ?_
    refine v_goto (tgt := 60) C dX4_columnCanGo_56 (by decide) ?_
    obtain ⟨rfl, rfl⟩ := hR h
    exact v_zret C hQ rfl dX4_columnCanGo_60
set_option maxHeartbeats 4000000 in
set_option maxRecDepth 100000 in
theorem Un_columnCanGo_ok (l : Launch) {G : GG} (hI : IG G) {M M' : Mem} {v1 : Nat} {v2 : Int32} {r : Int32} (h : Un_columnCanGo v1 v2 M = some (r, M')) : Sp l G yX4_columnCanGo cX4_columnCanGo 4 (some .boolean) 4 99 [.ref (G.2.1 22), .ref (G.2.1 v1), .int v2] M (some (.int r)) M' := by
  unfold Un_columnCanGo at h
  obtain ⟨g1, h⟩ := hG h
  refine sp_intro [some (.ref (G.2.1 22)), some (.ref (G.2.1 v1)), some (.int v2), none] hI (by decide) (Nat.le_of_ble_eq_true rfl) (fun _ hq => hq) (fun X _ C hQ => ?_)
  refine v_aload_n C dX4_columnCanGo_0 rfl ?_
  refine v_aload_n C dX4_columnCanGo_1 rfl ?_
  refine v_aload_n C dX4_columnCanGo_2 rfl ?_
  refine v_geti C fk_X4_58 (intP1 g1) dX4_columnCanGo_3 ?_
  refine v_iload_n C dX4_columnCanGo_6 rfl ?_
  obtain ⟨M1, c2, h⟩ := hV h
  refine v_callVv C (Un_putChains_ok (xl X) C.ig c2) ml_X4_35 mb_X4_putChains mv_X4_putChains rfl rfl rfl (Nat.le_of_ble_eq_true rfl) (by decide) (by decide) dX4_columnCanGo_7 ?_
  refine v_aload_n C dX4_columnCanGo_10 rfl ?_
  refine v_getr (j := 23) C fk_X4_21 rfl dX4_columnCanGo_11 ?_
  obtain ⟨r5, M3, c4, h⟩ := hB h
  refine v_callVi C (Eq_useUpForRank_ok (xl X) C.ig c4) ml_X4_39 mb_X0_useUpForRank mv_X0_useUpForRank rfl rfl rfl (Nat.le_of_ble_eq_true rfl) (by decide) (by decide) dX4_columnCanGo_14 ?_
  refine v_istore_n C dX4_columnCanGo_17 (by decide) rfl ?_
  refine v_aload_n C dX4_columnCanGo_18 rfl ?_
  refine v_aload_n C dX4_columnCanGo_19 rfl ?_
  refine v_aload_n C dX4_columnCanGo_20 rfl ?_
  refine v_geti C fk_X4_58 (intP1 g1) dX4_columnCanGo_21 ?_
  refine v_iload_n C dX4_columnCanGo_24 rfl ?_
  obtain ⟨M6, c7, h⟩ := hV h
  refine v_callVv C (Un_putChains_ok (xl X) C.ig c7) ml_X4_35 mb_X4_putChains mv_X4_putChains rfl rfl rfl (Nat.le_of_ble_eq_true rfl) (by decide) (by decide) dX4_columnCanGo_25 ?_
  refine v_iload_n C dX4_columnCanGo_28 rfl ?_
  refine v_if_le (tgt := 44) C dX4_columnCanGo_29 (by decide) (fun q => ?_) (fun q => ?_)
  · replace h := hT q h
    exact v_weak [true, false, false, true] (Un_columnCanGo_b44_ok C hQ h)
  · replace h := hF q h
    refine v_aload_n C dX4_columnCanGo_32 rfl ?_
    refine v_getr (j := 23) C fk_X4_21 rfl dX4_columnCanGo_33 ?_
    refine v_aload_n C dX4_columnCanGo_36 rfl ?_
    refine v_aload_n C dX4_columnCanGo_37 rfl ?_
    refine v_getr (j := 29) C fk_X4_32 rfl dX4_columnCanGo_38 ?_
    obtain ⟨M8, c9, h⟩ := hV h
    refine v_callVv C (Eq_addImageUnderA_ok (xl X) C.ig c9) ml_X4_68 mb_X0_addImageUnderA mv_X0_addImageUnderA rfl rfl rfl (Nat.le_of_ble_eq_true rfl) (by decide) (by decide) dX4_columnCanGo_41 ?_
    exact v_weak [true, false, false, true] (Un_columnCanGo_b44_ok C hQ h)
set_option maxHeartbeats 4000000 in
set_option maxRecDepth 100000 in
theorem Un_countIndices_L11_ok {X : XX} {G : GG} (C : Cx X G cX4_countIndices 8 RX4 4 97 (some .int)) {r : Int32} {M' : Mem} (hQ : Rt X G (some (.int r)) M')   : ∀ (n : Nat) (v1 : Nat) (v2 : Nat) (v3 : Int32) (v4 : Int32) (v5 : Int32) (v6 : Int32) (M : Mem), isP v1 = true → isI v2 = true → Un_countIndices_L11 n v1 v2 v3 v4 v5 v6 M = some (r, M') → V X G 8 M 11 [some (.ref (G.2.1 22)), some (.ref (G.2.1 v1)), some (.ref (G.2.1 v2)), some (.int v3), some (.int v4), some (.int v5), some (.int v6), none] [] := by
  intro n
  induction n with
  | zero =>
    intro v1 v2 v3 v4 v5 v6 M g1 g2 h
    simp [Un_countIndices_L11] at h
  | succ n ih =>
    intro v1 v2 v3 v4 v5 v6 M g1 g2 h
    rw [Un_countIndices_L11] at h
    refine v_iload C dX4_countIndices_11 rfl ?_
    refine v_iconst (v := 5) C dX4_countIndices_13 (by decide) ?_
    refine v_icmp_ge (tgt := 68) C dX4_countIndices_14 (by decide) (fun q => ?_) (fun q => ?_)
    · replace h := hT q h
      refine v_iload_n C dX4_countIndices_68 rfl ?_
      obtain ⟨rfl, rfl⟩ := hR h
      exact v_iret C hQ dX4_countIndices_69
    · replace h := hF q h
      refine v_iload C dX4_countIndices_17 rfl ?_
      refine v_aload_n C dX4_countIndices_19 rfl ?_
      refine v_alen C (arrI g2) dX4_countIndices_20 ?_
      refine v_icmp_ge (tgt := 68) C dX4_countIndices_21 (by decide) (fun q => ?_) (fun q => ?_)
      · replace h := hT q h
        refine v_iload_n C dX4_countIndices_68 rfl ?_
        obtain ⟨rfl, rfl⟩ := hR h
        exact v_iret C hQ dX4_countIndices_69
      · replace h := hF q h
        refine v_aload_n C dX4_countIndices_24 rfl ?_
        refine v_aload_n C dX4_countIndices_25 rfl ?_
        refine v_iload C dX4_countIndices_26 rfl ?_
        obtain ⟨r3, M1, c2, h⟩ := hB h
        refine v_callVi C (Un_nullsOf_ok (xl X) C.ig c2) ml_X4_97 mb_X4_nullsOf mv_X4_nullsOf rfl rfl rfl (Nat.le_of_ble_eq_true rfl) (by decide) (by decide) dX4_countIndices_28 ?_
        refine v_istore C dX4_countIndices_31 (by decide) rfl ?_
        refine v_aload_n C dX4_countIndices_33 rfl ?_
        refine v_iload C dX4_countIndices_34 rfl ?_
        refine v_iload C dX4_countIndices_36 rfl ?_
        refine v_iconst (v := 2) C dX4_countIndices_38 (by decide) ?_
        refine v_iload C dX4_countIndices_39 rfl ?_
        refine v_imul C dX4_countIndices_41 ?_
        refine v_isub C dX4_countIndices_42 ?_
        refine v_iload C dX4_countIndices_43 rfl ?_
        refine v_iadd C dX4_countIndices_45 ?_
        obtain ⟨q4, h⟩ := hG h
        refine v_iast C (arrI g2) q4 dX4_countIndices_46 ?_
        refine v_iload_n C dX4_countIndices_47 rfl ?_
        refine v_aload_n C dX4_countIndices_48 rfl ?_
        refine v_iload C dX4_countIndices_49 rfl ?_
        obtain ⟨q5, h⟩ := hG h
        refine v_iald C (arrI g2) q5 dX4_countIndices_51 ?_
        refine v_iadd C dX4_countIndices_52 ?_
        refine v_istore_n C dX4_countIndices_53 (by decide) rfl ?_
        refine v_iload C dX4_countIndices_54 rfl ?_
        refine v_istore C dX4_countIndices_56 (by decide) rfl ?_
        refine v_iload C dX4_countIndices_58 rfl ?_
        refine v_istore C dX4_countIndices_60 (by decide) rfl ?_
        refine v_iinc (v := 1) C dX4_countIndices_62 rfl (by decide) (by decide) rfl ?_
        refine v_goto (tgt := 11) C dX4_countIndices_65 (by decide) ?_
        exact v_weak [true, true, true, true, true, true, true, false] (ih _ _ _ _ _ _ _ g1 g2 h)
set_option maxHeartbeats 4000000 in
set_option maxRecDepth 100000 in
theorem Un_countIndices_ok (l : Launch) {G : GG} (hI : IG G) {M M' : Mem} {v1 : Nat} {v2 : Nat} {r : Int32} (h : Un_countIndices v1 v2 M = some (r, M')) : Sp l G yX4_countIndices cX4_countIndices 8 (some .int) 4 97 [.ref (G.2.1 22), .ref (G.2.1 v1), .ref (G.2.1 v2)] M (some (.int r)) M' := by
  unfold Un_countIndices at h
  obtain ⟨g1, h⟩ := hG h
  obtain ⟨g2, h⟩ := hG h
  refine sp_intro [some (.ref (G.2.1 22)), some (.ref (G.2.1 v1)), some (.ref (G.2.1 v2)), none, none, none, none, none] hI (by decide) (Nat.le_of_ble_eq_true rfl) (fun _ hq => hq) (fun X _ C hQ => ?_)
  refine v_iconst (v := 0) C dX4_countIndices_0 (by decide) ?_
  refine v_istore_n C dX4_countIndices_1 (by decide) rfl ?_
  refine v_iconst (v := 0) C dX4_countIndices_2 (by decide) ?_
  refine v_istore C dX4_countIndices_3 (by decide) rfl ?_
  refine v_iconst (v := 0) C dX4_countIndices_5 (by decide) ?_
  refine v_istore C dX4_countIndices_6 (by decide) rfl ?_
  refine v_iconst (v := 0) C dX4_countIndices_8 (by decide) ?_
  refine v_istore C dX4_countIndices_9 (by decide) rfl ?_
  exact v_weak [true, true, true, true, true, true, true, false] (Un_countIndices_L11_ok C hQ _ _ _ _ _ _ _ _ g1 g2 h)
set_option maxHeartbeats 4000000 in
set_option maxRecDepth 100000 in
theorem Un_indexIn_L4_ok {X : XX} {G : GG} (C : Cx X G cX4_indexIn 4 RX4 0 0 (some .int)) {r : Int32} {M' : Mem} (hQ : Rt X G (some (.int r)) M')   : ∀ (n : Nat) (v0 : Nat) (v1 : Int32) (v2 : Int32) (v3 : Int32) (M : Mem), isI v0 = true → Un_indexIn_L4 n v0 v1 v2 v3 M = some (r, M') → V X G 4 M 4 [some (.ref (G.2.1 v0)), some (.int v1), some (.int v2), some (.int v3)] [] := by
  intro n
  induction n with
  | zero =>
    intro v0 v1 v2 v3 M g0 h
    simp [Un_indexIn_L4] at h
  | succ n ih =>
    intro v0 v1 v2 v3 M g0 h
    rw [Un_indexIn_L4] at h
    refine v_iload_n C dX4_indexIn_4 rfl ?_
    refine v_aload_n C dX4_indexIn_5 rfl ?_
    refine v_alen C (arrI g0) dX4_indexIn_6 ?_
    refine v_icmp_ge (tgt := 29) C dX4_indexIn_7 (by decide) (fun q => ?_) (fun q => ?_)
    · replace h := hT q h
      refine v_bipush (v := (-4)) C dX4_indexIn_29 (by decide) ?_
      obtain ⟨rfl, rfl⟩ := hR h
      exact v_iret C hQ dX4_indexIn_31
    · replace h := hF q h
      refine v_iload_n C dX4_indexIn_10 rfl ?_
      refine v_aload_n C dX4_indexIn_11 rfl ?_
      refine v_iload_n C dX4_indexIn_12 rfl ?_
      obtain ⟨q1, h⟩ := hG h
      refine v_iald C (arrI g0) q1 dX4_indexIn_13 ?_
      refine v_iadd C dX4_indexIn_14 ?_
      refine v_istore_n C dX4_indexIn_15 (by decide) rfl ?_
      refine v_iload_n C dX4_indexIn_16 rfl ?_
      refine v_iload_n C dX4_indexIn_17 rfl ?_
      refine v_icmp_ge (tgt := 23) C dX4_indexIn_18 (by decide) (fun q => ?_) (fun q => ?_)
      · replace h := hT q h
        refine v_iinc (v := 1) C dX4_indexIn_23 rfl (by decide) (by decide) rfl ?_
        refine v_goto (tgt := 4) C dX4_indexIn_26 (by decide) ?_
        exact v_weak [true, true, true, true] (ih _ _ _ _ _ g0 h)
      · replace h := hF q h
        refine v_iload_n C dX4_indexIn_21 rfl ?_
        obtain ⟨rfl, rfl⟩ := hR h
        exact v_iret C hQ dX4_indexIn_22
set_option maxHeartbeats 4000000 in
set_option maxRecDepth 100000 in
theorem Un_indexIn_ok (l : Launch) {G : GG} (hI : IG G) {M M' : Mem} {v0 : Nat} {v1 : Int32} {r : Int32} (h : Un_indexIn v0 v1 M = some (r, M')) : Sp l G yX4_indexIn cX4_indexIn 4 (some .int) 0 0 [.ref (G.2.1 v0), .int v1] M (some (.int r)) M' := by
  unfold Un_indexIn at h
  obtain ⟨g0, h⟩ := hG h
  refine sp_intro [some (.ref (G.2.1 v0)), some (.int v1), none, none] hI (by decide) (Nat.le_of_ble_eq_true rfl) (fun _ hq => hq) (fun X _ C hQ => ?_)
  refine v_iconst (v := 0) C dX4_indexIn_0 (by decide) ?_
  refine v_istore_n C dX4_indexIn_1 (by decide) rfl ?_
  refine v_iconst (v := 0) C dX4_indexIn_2 (by decide) ?_
  refine v_istore_n C dX4_indexIn_3 (by decide) rfl ?_
  exact v_weak [true, true, true, true] (Un_indexIn_L4_ok C hQ _ _ _ _ _ _ g0 h)
set_option maxHeartbeats 4000000 in
set_option maxRecDepth 100000 in
theorem Un_colIndex_ok (l : Launch) {G : GG} (hI : IG G) {M M' : Mem} {v1 : Nat} {v2 : Int32} {r : Int32} (h : Un_colIndex v1 v2 M = some (r, M')) : Sp l G yX4_colIndex cX4_colIndex 3 (some .int) 5 124 [.ref (G.2.1 22), .ref (G.2.1 v1), .int v2] M (some (.int r)) M' := by
  unfold Un_colIndex at h
  obtain ⟨g1, h⟩ := hG h
  refine sp_intro [some (.ref (G.2.1 22)), some (.ref (G.2.1 v1)), some (.int v2)] hI (by decide) (Nat.le_of_ble_eq_true rfl) (fun _ hq => hq) (fun X _ C hQ => ?_)
  refine v_aload_n C dX4_colIndex_0 rfl ?_
  refine v_aload_n C dX4_colIndex_1 rfl ?_
  refine v_aload_n C dX4_colIndex_2 rfl ?_
  refine v_getr (j := 27) C fk_X4_25 rfl dX4_colIndex_3 ?_
  obtain ⟨r3, M1, c2, h⟩ := hB h
  refine v_callVi C (Un_countIndices_ok (xl X) C.ig c2) ml_X4_72 mb_X4_countIndices mv_X4_countIndices rfl rfl rfl (Nat.le_of_ble_eq_true rfl) (by decide) (by decide) dX4_colIndex_6 ?_
  refine v_pop C dX4_colIndex_9 rfl ?_
  refine v_aload_n C dX4_colIndex_10 rfl ?_
  refine v_getr (j := 27) C fk_X4_25 rfl dX4_colIndex_11 ?_
  refine v_iload_n C dX4_colIndex_14 rfl ?_
  obtain ⟨r6, M4, c5, h⟩ := hB h
  refine v_callSi C (Un_indexIn_ok (xl X) C.ig c5) ml_X4_76 mb_X4_indexIn ms_X4_indexIn rfl rfl (Nat.le_of_ble_eq_true rfl) (by decide) (by decide) dX4_colIndex_15 ?_
  obtain ⟨rfl, rfl⟩ := hR h
  exact v_iret C hQ dX4_colIndex_18
set_option maxHeartbeats 4000000 in
set_option maxRecDepth 100000 in
theorem Un_flippedOf_ok (l : Launch) {G : GG} (hI : IG G) {M M' : Mem} {v1 : Nat} (h : Un_flippedOf v1 M = some M') : Sp l G yX4_flippedOf cX4_flippedOf 2 (some (.object "PencilForms$Pair")) 2 61 [.ref (G.2.1 22), .ref (G.2.1 v1)] M (some (.ref (G.2.1 25))) M' := by
  unfold Un_flippedOf at h
  obtain ⟨g1, h⟩ := hG h
  refine sp_intro [some (.ref (G.2.1 22)), some (.ref (G.2.1 v1))] hI (by decide) (Nat.le_of_ble_eq_true rfl) (fun _ hq => hq) (fun X _ C hQ => ?_)
  refine v_aload_n C dX4_flippedOf_0 rfl ?_
  refine v_getr (j := 25) C fk_X4_14 rfl dX4_flippedOf_1 ?_
  refine v_aload_n C dX4_flippedOf_4 rfl ?_
  obtain ⟨M1, c2, h⟩ := hV h
  refine v_callVv C (Pa_takeFrom_ok (xl X) C.ig c2) ml_X4_100 mb_X1_takeFrom mv_X1_takeFrom rfl rfl rfl (Nat.le_of_ble_eq_true rfl) (by decide) (by decide) dX4_flippedOf_5 ?_
  refine v_aload_n C dX4_flippedOf_8 rfl ?_
  refine v_getr (j := 25) C fk_X4_14 rfl dX4_flippedOf_9 ?_
  obtain ⟨M3, c4, h⟩ := hV h
  refine v_callVv C (Pa_flip_ok (xl X) C.ig c4) ml_X4_104 mb_X1_flip mv_X1_flip rfl rfl rfl (Nat.le_of_ble_eq_true rfl) (by decide) (by decide) dX4_flippedOf_12 ?_
  refine v_aload_n C dX4_flippedOf_15 rfl ?_
  refine v_getr (j := 25) C fk_X4_14 rfl dX4_flippedOf_16 ?_
  obtain rfl := hRv h
  exact v_aret C hQ dX4_flippedOf_19
set_option maxHeartbeats 4000000 in
set_option maxRecDepth 100000 in
theorem Un_rowIndex_ok (l : Launch) {G : GG} (hI : IG G) {M M' : Mem} {v1 : Nat} {v2 : Int32} {r : Int32} (h : Un_rowIndex v1 v2 M = some (r, M')) : Sp l G yX4_rowIndex cX4_rowIndex 3 (some .int) 5 124 [.ref (G.2.1 22), .ref (G.2.1 v1), .int v2] M (some (.int r)) M' := by
  unfold Un_rowIndex at h
  obtain ⟨g1, h⟩ := hG h
  refine sp_intro [some (.ref (G.2.1 22)), some (.ref (G.2.1 v1)), some (.int v2)] hI (by decide) (Nat.le_of_ble_eq_true rfl) (fun _ hq => hq) (fun X _ C hQ => ?_)
  refine v_aload_n C dX4_rowIndex_0 rfl ?_
  refine v_aload_n C dX4_rowIndex_1 rfl ?_
  refine v_aload_n C dX4_rowIndex_2 rfl ?_
  obtain ⟨M1, c2, h⟩ := hV h
  refine v_callVr C (Un_flippedOf_ok (xl X) C.ig c2) ml_X4_80 mb_X4_flippedOf mv_X4_flippedOf rfl rfl rfl (Nat.le_of_ble_eq_true rfl) (by decide) (by decide) dX4_rowIndex_3 ?_
  refine v_aload_n C dX4_rowIndex_6 rfl ?_
  refine v_getr (j := 28) C fk_X4_29 rfl dX4_rowIndex_7 ?_
  obtain ⟨r5, M3, c4, h⟩ := hB h
  refine v_callVi C (Un_countIndices_ok (xl X) C.ig c4) ml_X4_72 mb_X4_countIndices mv_X4_countIndices rfl rfl rfl (Nat.le_of_ble_eq_true rfl) (by decide) (by decide) dX4_rowIndex_10 ?_
  refine v_pop C dX4_rowIndex_13 rfl ?_
  refine v_aload_n C dX4_rowIndex_14 rfl ?_
  refine v_getr (j := 28) C fk_X4_29 rfl dX4_rowIndex_15 ?_
  refine v_iload_n C dX4_rowIndex_18 rfl ?_
  obtain ⟨r8, M6, c7, h⟩ := hB h
  refine v_callSi C (Un_indexIn_ok (xl X) C.ig c7) ml_X4_76 mb_X4_indexIn ms_X4_indexIn rfl rfl (Nat.le_of_ble_eq_true rfl) (by decide) (by decide) dX4_rowIndex_19 ?_
  obtain ⟨rfl, rfl⟩ := hR h
  exact v_iret C hQ dX4_rowIndex_22
set_option maxHeartbeats 4000000 in
set_option maxRecDepth 100000 in
theorem Un_howManyCols_ok (l : Launch) {G : GG} (hI : IG G) {M M' : Mem} {v1 : Nat} {r : Int32} (h : Un_howManyCols v1 M = some (r, M')) : Sp l G yX4_howManyCols cX4_howManyCols 2 (some .int) 5 124 [.ref (G.2.1 22), .ref (G.2.1 v1)] M (some (.int r)) M' := by
  unfold Un_howManyCols at h
  obtain ⟨g1, h⟩ := hG h
  refine sp_intro [some (.ref (G.2.1 22)), some (.ref (G.2.1 v1))] hI (by decide) (Nat.le_of_ble_eq_true rfl) (fun _ hq => hq) (fun X _ C hQ => ?_)
  refine v_aload_n C dX4_howManyCols_0 rfl ?_
  refine v_aload_n C dX4_howManyCols_1 rfl ?_
  refine v_aload_n C dX4_howManyCols_2 rfl ?_
  refine v_getr (j := 27) C fk_X4_25 rfl dX4_howManyCols_3 ?_
  obtain ⟨r3, M1, c2, h⟩ := hB h
  refine v_callVi C (Un_countIndices_ok (xl X) C.ig c2) ml_X4_72 mb_X4_countIndices mv_X4_countIndices rfl rfl rfl (Nat.le_of_ble_eq_true rfl) (by decide) (by decide) dX4_howManyCols_6 ?_
  obtain ⟨rfl, rfl⟩ := hR h
  exact v_iret C hQ dX4_howManyCols_9
set_option maxHeartbeats 4000000 in
set_option maxRecDepth 100000 in
theorem Un_howManyRows_ok (l : Launch) {G : GG} (hI : IG G) {M M' : Mem} {v1 : Nat} {r : Int32} (h : Un_howManyRows v1 M = some (r, M')) : Sp l G yX4_howManyRows cX4_howManyRows 2 (some .int) 5 124 [.ref (G.2.1 22), .ref (G.2.1 v1)] M (some (.int r)) M' := by
  unfold Un_howManyRows at h
  obtain ⟨g1, h⟩ := hG h
  refine sp_intro [some (.ref (G.2.1 22)), some (.ref (G.2.1 v1))] hI (by decide) (Nat.le_of_ble_eq_true rfl) (fun _ hq => hq) (fun X _ C hQ => ?_)
  refine v_aload_n C dX4_howManyRows_0 rfl ?_
  refine v_aload_n C dX4_howManyRows_1 rfl ?_
  refine v_aload_n C dX4_howManyRows_2 rfl ?_
  obtain ⟨M1, c2, h⟩ := hV h
  refine v_callVr C (Un_flippedOf_ok (xl X) C.ig c2) ml_X4_80 mb_X4_flippedOf mv_X4_flippedOf rfl rfl rfl (Nat.le_of_ble_eq_true rfl) (by decide) (by decide) dX4_howManyRows_3 ?_
  refine v_aload_n C dX4_howManyRows_6 rfl ?_
  refine v_getr (j := 28) C fk_X4_29 rfl dX4_howManyRows_7 ?_
  obtain ⟨r5, M3, c4, h⟩ := hB h
  refine v_callVi C (Un_countIndices_ok (xl X) C.ig c4) ml_X4_72 mb_X4_countIndices mv_X4_countIndices rfl rfl rfl (Nat.le_of_ble_eq_true rfl) (by decide) (by decide) dX4_howManyRows_10 ?_
  obtain ⟨rfl, rfl⟩ := hR h
  exact v_iret C hQ dX4_howManyRows_13
set_option maxHeartbeats 4000000 in
set_option maxRecDepth 100000 in
theorem Un_lengthAt_b52_ok {X : XX} {G : GG} (C : Cx X G cX4_lengthAt 9 RX4 5 124 (some .int)) {r : Int32} {M' : Mem} (hQ : Rt X G (some (.int r)) M') {k20 : Nat → Int32 → Int32 → Int32 → Int32 → Int32 → Int32 → Mem → Option (Int32 × Mem)} (H20 : ∀ (v1 : Nat) (v2 : Int32) (v3 : Int32) (v4 : Int32) (v5 : Int32) (v6 : Int32) (v7 : Int32) (M : Mem), isP v1 = true → k20 v1 v2 v3 v4 v5 v6 v7 M = some (r, M') → V X G 9 M 20 [some (.ref (G.2.1 22)), some (.ref (G.2.1 v1)), some (.int v2), some (.int v3), some (.int v4), some (.int v5), some (.int v6), some (.int v7), none] []) {v1 : Nat} {v2 : Int32} {v3 : Int32} {v4 : Int32} {v5 : Int32} {v7 : Int32} {v8 : Int32} {M : Mem} (g1 : isP v1 = true) (h : Un_lengthAt_b52 k20 v1 v2 v3 v4 v5 v7 v8 M = some (r, M')) : V X G 9 M 52 [some (.ref (G.2.1 22)), some (.ref (G.2.1 v1)), some (.int v2), some (.int v3), some (.int v4), some (.int v5), none, some (.int v7), some (.int v8)] [] := by
  unfold Un_lengthAt_b52 at h
  refine v_iload C dX4_lengthAt_52 rfl ?_
  refine v_istore C dX4_lengthAt_54 (by decide) rfl ?_
  refine v_iinc (v := 1) C dX4_lengthAt_56 rfl (by decide) (by decide) rfl ?_
  refine v_goto (tgt := 20) C dX4_lengthAt_59 (by decide) ?_
  exact v_weak [true, true, true, true, true, true, true, true, false] (H20 _ _ _ _ _ _ _ _ g1 h)
set_option maxHeartbeats 4000000 in
set_option maxRecDepth 100000 in
theorem Un_lengthAt_L20_ok {X : XX} {G : GG} (C : Cx X G cX4_lengthAt 9 RX4 5 124 (some .int)) {r : Int32} {M' : Mem} (hQ : Rt X G (some (.int r)) M')   : ∀ (n : Nat) (v1 : Nat) (v2 : Int32) (v3 : Int32) (v4 : Int32) (v5 : Int32) (v6 : Int32) (v7 : Int32) (M : Mem), isP v1 = true → Un_lengthAt_L20 n v1 v2 v3 v4 v5 v6 v7 M = some (r, M') → V X G 9 M 20 [some (.ref (G.2.1 22)), some (.ref (G.2.1 v1)), some (.int v2), some (.int v3), some (.int v4), some (.int v5), some (.int v6), some (.int v7), none] [] := by
  intro n
  induction n with
  | zero =>
    intro v1 v2 v3 v4 v5 v6 v7 M g1 h
    simp [Un_lengthAt_L20] at h
  | succ n ih =>
    intro v1 v2 v3 v4 v5 v6 v7 M g1 h
    rw [Un_lengthAt_L20] at h
    refine v_iload C dX4_lengthAt_20 rfl ?_
    refine v_iconst (v := 4) C dX4_lengthAt_22 (by decide) ?_
    refine v_icmp_gt (tgt := 62) C dX4_lengthAt_23 (by decide) (fun q => ?_) (fun q => ?_)
    · replace h := hT q h
      refine v_iload C dX4_lengthAt_62 rfl ?_
      refine v_if_ne (tgt := 72) C dX4_lengthAt_64 (by decide) (fun q => ?_) (fun q => ?_)
      · replace h := hF q h
        refine v_iload C dX4_lengthAt_72 rfl ?_
        obtain ⟨rfl, rfl⟩ := hR h
        exact v_iret C hQ dX4_lengthAt_74
      · replace h := hT q h
        refine v_bipush (v := (-4)) C dX4_lengthAt_67 (by decide) ?_
        refine v_goto (tgt := 74) C dX4_lengthAt_69 (by decide) ?_
        obtain ⟨rfl, rfl⟩ := hR h
        exact v_iret C hQ dX4_lengthAt_74
    · replace h := hF q h
      refine v_aload_n C dX4_lengthAt_26 rfl ?_
      refine v_aload_n C dX4_lengthAt_27 rfl ?_
      refine v_iload_n C dX4_lengthAt_28 rfl ?_
      refine v_iload C dX4_lengthAt_29 rfl ?_
      obtain ⟨r3, M1, c2, h⟩ := hB h
      refine v_callVi C (Un_chainsAt_ok (xl X) C.ig c2) ml_X4_61 mb_X4_chainsAt mv_X4_chainsAt rfl rfl rfl (Nat.le_of_ble_eq_true rfl) (by decide) (by decide) dX4_lengthAt_31 ?_
      refine v_istore C dX4_lengthAt_34 (by decide) rfl ?_
      refine v_iload C dX4_lengthAt_36 rfl ?_
      refine v_iload C dX4_lengthAt_38 rfl ?_
      refine v_isub C dX4_lengthAt_40 ?_
      refine v_iload C dX4_lengthAt_41 rfl ?_
      refine v_isub C dX4_lengthAt_43 ?_
      refine v_iload_n C dX4_lengthAt_44 rfl ?_
      refine v_icmp_le (tgt := 52) C dX4_lengthAt_45 (by decide) (fun q => ?_) (fun q => ?_)
      · replace h := hT q h
        exact v_weak [true, true, true, true, true, true, false, true, true] (Un_lengthAt_b52_ok C hQ ih g1 h)
      · replace h := hF q h
        refine v_iload C dX4_lengthAt_48 rfl ?_
        refine v_istore C dX4_lengthAt_50 (by decide) rfl ?_
        exact v_weak [true, true, true, true, true, true, false, true, true] (Un_lengthAt_b52_ok C hQ ih g1 h)
set_option maxHeartbeats 4000000 in
set_option maxRecDepth 100000 in
theorem Un_lengthAt_ok (l : Launch) {G : GG} (hI : IG G) {M M' : Mem} {v1 : Nat} {v2 : Int32} {v3 : Int32} {r : Int32} (h : Un_lengthAt v1 v2 v3 M = some (r, M')) : Sp l G yX4_lengthAt cX4_lengthAt 9 (some .int) 5 124 [.ref (G.2.1 22), .ref (G.2.1 v1), .int v2, .int v3] M (some (.int r)) M' := by
  unfold Un_lengthAt at h
  obtain ⟨g1, h⟩ := hG h
  refine sp_intro [some (.ref (G.2.1 22)), some (.ref (G.2.1 v1)), some (.int v2), some (.int v3), none, none, none, none, none] hI (by decide) (Nat.le_of_ble_eq_true rfl) (fun _ hq => hq) (fun X _ C hQ => ?_)
  refine v_aload_n C dX4_lengthAt_0 rfl ?_
  refine v_aload_n C dX4_lengthAt_1 rfl ?_
  refine v_aload_n C dX4_lengthAt_2 rfl ?_
  refine v_getr (j := 27) C fk_X4_25 rfl dX4_lengthAt_3 ?_
  obtain ⟨r3, M1, c2, h⟩ := hB h
  refine v_callVi C (Un_countIndices_ok (xl X) C.ig c2) ml_X4_72 mb_X4_countIndices mv_X4_countIndices rfl rfl rfl (Nat.le_of_ble_eq_true rfl) (by decide) (by decide) dX4_lengthAt_6 ?_
  refine v_istore C dX4_lengthAt_9 (by decide) rfl ?_
  refine v_iconst (v := 0) C dX4_lengthAt_11 (by decide) ?_
  refine v_istore C dX4_lengthAt_12 (by decide) rfl ?_
  refine v_iconst (v := 0) C dX4_lengthAt_14 (by decide) ?_
  refine v_istore C dX4_lengthAt_15 (by decide) rfl ?_
  refine v_iconst (v := 1) C dX4_lengthAt_17 (by decide) ?_
  refine v_istore C dX4_lengthAt_18 (by decide) rfl ?_
  exact v_weak [true, true, true, true, true, true, true, true, false] (Un_lengthAt_L20_ok C hQ _ _ _ _ _ _ _ _ _ g1 h)
set_option maxHeartbeats 4000000 in
set_option maxRecDepth 100000 in
theorem Un_lengthsFrom_L17_ok {X : XX} {G : GG} (C : Cx X G cX4_lengthsFrom 7 RX4 5 124 (some .int)) {r : Int32} {M' : Mem} (hQ : Rt X G (some (.int r)) M')   : ∀ (n : Nat) (v1 : Nat) (v3 : Int32) (v4 : Int32) (v5 : Int32) (v6 : Int32) (M : Mem), isP v1 = true → Un_lengthsFrom_L17 n v1 v3 v4 v5 v6 M = some (r, M') → V X G 7 M 17 [some (.ref (G.2.1 22)), some (.ref (G.2.1 v1)), none, some (.int v3), some (.int v4), some (.int v5), some (.int v6)] [] := by
  intro n
  induction n with
  | zero =>
    intro v1 v3 v4 v5 v6 M g1 h
    simp [Un_lengthsFrom_L17] at h
  | succ n ih =>
    intro v1 v3 v4 v5 v6 M g1 h
    rw [Un_lengthsFrom_L17] at h
    refine v_iload C dX4_lengthsFrom_17 rfl ?_
    refine v_iload_n C dX4_lengthsFrom_19 rfl ?_
    refine v_icmp_gt (tgt := 54) C dX4_lengthsFrom_20 (by decide) (fun q => ?_) (fun q => ?_)
    · replace h := hT q h
      refine v_iload C dX4_lengthsFrom_54 rfl ?_
      obtain ⟨rfl, rfl⟩ := hR h
      exact v_iret C hQ dX4_lengthsFrom_56
    · replace h := hF q h
      refine v_iload C dX4_lengthsFrom_23 rfl ?_
      refine v_bipush (v := 7) C dX4_lengthsFrom_25 (by decide) ?_
      refine v_icmp_gt (tgt := 54) C dX4_lengthsFrom_27 (by decide) (fun q => ?_) (fun q => ?_)
      · replace h := hT q h
        refine v_iload C dX4_lengthsFrom_54 rfl ?_
        obtain ⟨rfl, rfl⟩ := hR h
        exact v_iret C hQ dX4_lengthsFrom_56
      · replace h := hF q h
        refine v_iload C dX4_lengthsFrom_30 rfl ?_
        refine v_aload_n C dX4_lengthsFrom_32 rfl ?_
        refine v_aload_n C dX4_lengthsFrom_33 rfl ?_
        refine v_iload C dX4_lengthsFrom_34 rfl ?_
        refine v_iconst (v := 4) C dX4_lengthsFrom_36 (by decide) ?_
        obtain ⟨r3, M1, c2, h⟩ := hB h
        refine v_callVi C (Un_chainsAt_ok (xl X) C.ig c2) ml_X4_61 mb_X4_chainsAt mv_X4_chainsAt rfl rfl rfl (Nat.le_of_ble_eq_true rfl) (by decide) (by decide) dX4_lengthsFrom_37 ?_
        refine v_iconst (v := 4) C dX4_lengthsFrom_40 (by decide) ?_
        refine v_iload C dX4_lengthsFrom_41 rfl ?_
        refine v_imul C dX4_lengthsFrom_43 ?_
        refine v_isub C dX4_lengthsFrom_44 ?_
        refine v_iadd C dX4_lengthsFrom_45 ?_
        refine v_istore C dX4_lengthsFrom_46 (by decide) rfl ?_
        refine v_iinc (v := 1) C dX4_lengthsFrom_48 rfl (by decide) (by decide) rfl ?_
        refine v_goto (tgt := 17) C dX4_lengthsFrom_51 (by decide) ?_
        exact v_weak [true, true, false, true, true, true, true] (ih _ _ _ _ _ _ g1 h)
set_option maxHeartbeats 4000000 in
set_option maxRecDepth 100000 in
theorem Un_lengthsFrom_ok (l : Launch) {G : GG} (hI : IG G) {M M' : Mem} {v1 : Nat} {v2 : Int32} {v3 : Int32} {r : Int32} (h : Un_lengthsFrom v1 v2 v3 M = some (r, M')) : Sp l G yX4_lengthsFrom cX4_lengthsFrom 7 (some .int) 5 124 [.ref (G.2.1 22), .ref (G.2.1 v1), .int v2, .int v3] M (some (.int r)) M' := by
  unfold Un_lengthsFrom at h
  obtain ⟨g1, h⟩ := hG h
  refine sp_intro [some (.ref (G.2.1 22)), some (.ref (G.2.1 v1)), some (.int v2), some (.int v3), none, none, none] hI (by decide) (Nat.le_of_ble_eq_true rfl) (fun _ hq => hq) (fun X _ C hQ => ?_)
  refine v_aload_n C dX4_lengthsFrom_0 rfl ?_
  refine v_aload_n C dX4_lengthsFrom_1 rfl ?_
  refine v_aload_n C dX4_lengthsFrom_2 rfl ?_
  refine v_getr (j := 27) C fk_X4_25 rfl dX4_lengthsFrom_3 ?_
  obtain ⟨r3, M1, c2, h⟩ := hB h
  refine v_callVi C (Un_countIndices_ok (xl X) C.ig c2) ml_X4_72 mb_X4_countIndices mv_X4_countIndices rfl rfl rfl (Nat.le_of_ble_eq_true rfl) (by decide) (by decide) dX4_lengthsFrom_6 ?_
  refine v_istore C dX4_lengthsFrom_9 (by decide) rfl ?_
  refine v_iconst (v := 0) C dX4_lengthsFrom_11 (by decide) ?_
  refine v_istore C dX4_lengthsFrom_12 (by decide) rfl ?_
  refine v_iload_n C dX4_lengthsFrom_14 rfl ?_
  refine v_istore C dX4_lengthsFrom_15 (by decide) rfl ?_
  exact v_weak [true, true, false, true, true, true, true] (Un_lengthsFrom_L17_ok C hQ _ _ _ _ _ _ _ g1 h)
set_option maxHeartbeats 4000000 in
set_option maxRecDepth 100000 in
theorem Un_columnsOfIndices_L28_ok {X : XX} {G : GG} (C : Cx X G cX4_columnsOfIndices 4 RX4 5 124 (some .int)) {r : Int32} {M' : Mem} (hQ : Rt X G (some (.int r)) M')   : ∀ (n : Nat) (v2 : Int32) (v3 : Int32) (M : Mem), Un_columnsOfIndices_L28 n v2 v3 M = some (r, M') → V X G 4 M 28 [some (.ref (G.2.1 22)), none, some (.int v2), some (.int v3)] [] := by
  intro n
  induction n with
  | zero =>
    intro v2 v3 M h
    simp [Un_columnsOfIndices_L28] at h
  | succ n ih =>
    intro v2 v3 M h
    rw [Un_columnsOfIndices_L28] at h
    refine v_iload_n C dX4_columnsOfIndices_28 rfl ?_
    refine v_iconst (v := 5) C dX4_columnsOfIndices_29 (by decide) ?_
    refine v_icmp_ge (tgt := 61) C dX4_columnsOfIndices_30 (by decide) (fun q => ?_) (fun q => ?_)
    · replace h := hT q h
      refine v_iload_n C dX4_columnsOfIndices_61 rfl ?_
      obtain ⟨rfl, rfl⟩ := hR h
      exact v_iret C hQ dX4_columnsOfIndices_62
    · replace h := hF q h
      refine v_iload_n C dX4_columnsOfIndices_33 rfl ?_
      refine v_iload_n C dX4_columnsOfIndices_34 rfl ?_
      refine v_iconst (v := 1) C dX4_columnsOfIndices_35 (by decide) ?_
      refine v_iadd C dX4_columnsOfIndices_36 ?_
      refine v_aload_n C dX4_columnsOfIndices_37 rfl ?_
      refine v_getr (j := 27) C fk_X4_25 rfl dX4_columnsOfIndices_38 ?_
      refine v_iload_n C dX4_columnsOfIndices_41 rfl ?_
      obtain ⟨q1, h⟩ := hG h
      refine v_iald C rfl q1 dX4_columnsOfIndices_42 ?_
      refine v_imul C dX4_columnsOfIndices_43 ?_
      refine v_iload_n C dX4_columnsOfIndices_44 rfl ?_
      refine v_aload_n C dX4_columnsOfIndices_45 rfl ?_
      refine v_getr (j := 28) C fk_X4_29 rfl dX4_columnsOfIndices_46 ?_
      refine v_iload_n C dX4_columnsOfIndices_49 rfl ?_
      obtain ⟨q2, h⟩ := hG h
      refine v_iald C rfl q2 dX4_columnsOfIndices_50 ?_
      refine v_imul C dX4_columnsOfIndices_51 ?_
      refine v_iadd C dX4_columnsOfIndices_52 ?_
      refine v_iadd C dX4_columnsOfIndices_53 ?_
      refine v_istore_n C dX4_columnsOfIndices_54 (by decide) rfl ?_
      refine v_iinc (v := 1) C dX4_columnsOfIndices_55 rfl (by decide) (by decide) rfl ?_
      refine v_goto (tgt := 28) C dX4_columnsOfIndices_58 (by decide) ?_
      exact v_weak [true, false, true, true] (ih _ _ _ h)
set_option maxHeartbeats 4000000 in
set_option maxRecDepth 100000 in
theorem Un_columnsOfIndices_ok (l : Launch) {G : GG} (hI : IG G) {M M' : Mem} {v1 : Nat} {r : Int32} (h : Un_columnsOfIndices v1 M = some (r, M')) : Sp l G yX4_columnsOfIndices cX4_columnsOfIndices 4 (some .int) 5 124 [.ref (G.2.1 22), .ref (G.2.1 v1)] M (some (.int r)) M' := by
  unfold Un_columnsOfIndices at h
  obtain ⟨g1, h⟩ := hG h
  refine sp_intro [some (.ref (G.2.1 22)), some (.ref (G.2.1 v1)), none, none] hI (by decide) (Nat.le_of_ble_eq_true rfl) (fun _ hq => hq) (fun X _ C hQ => ?_)
  refine v_aload_n C dX4_columnsOfIndices_0 rfl ?_
  refine v_aload_n C dX4_columnsOfIndices_1 rfl ?_
  refine v_aload_n C dX4_columnsOfIndices_2 rfl ?_
  refine v_getr (j := 27) C fk_X4_25 rfl dX4_columnsOfIndices_3 ?_
  obtain ⟨r3, M1, c2, h⟩ := hB h
  refine v_callVi C (Un_countIndices_ok (xl X) C.ig c2) ml_X4_72 mb_X4_countIndices mv_X4_countIndices rfl rfl rfl (Nat.le_of_ble_eq_true rfl) (by decide) (by decide) dX4_columnsOfIndices_6 ?_
  refine v_pop C dX4_columnsOfIndices_9 rfl ?_
  refine v_aload_n C dX4_columnsOfIndices_10 rfl ?_
  refine v_aload_n C dX4_columnsOfIndices_11 rfl ?_
  refine v_aload_n C dX4_columnsOfIndices_12 rfl ?_
  obtain ⟨M4, c5, h⟩ := hV h
  refine v_callVr C (Un_flippedOf_ok (xl X) C.ig c5) ml_X4_80 mb_X4_flippedOf mv_X4_flippedOf rfl rfl rfl (Nat.le_of_ble_eq_true rfl) (by decide) (by decide) dX4_columnsOfIndices_13 ?_
  refine v_aload_n C dX4_columnsOfIndices_16 rfl ?_
  refine v_getr (j := 28) C fk_X4_29 rfl dX4_columnsOfIndices_17 ?_
  obtain ⟨r8, M6, c7, h⟩ := hB h
  refine v_callVi C (Un_countIndices_ok (xl X) C.ig c7) ml_X4_72 mb_X4_countIndices mv_X4_countIndices rfl rfl rfl (Nat.le_of_ble_eq_true rfl) (by decide) (by decide) dX4_columnsOfIndices_20 ?_
  refine v_pop C dX4_columnsOfIndices_23 rfl ?_
  refine v_iconst (v := 0) C dX4_columnsOfIndices_24 (by decide) ?_
  refine v_istore_n C dX4_columnsOfIndices_25 (by decide) rfl ?_
  refine v_iconst (v := 0) C dX4_columnsOfIndices_26 (by decide) ?_
  refine v_istore_n C dX4_columnsOfIndices_27 (by decide) rfl ?_
  exact v_weak [true, false, true, true] (Un_columnsOfIndices_L28_ok C hQ _ _ _ _ h)
