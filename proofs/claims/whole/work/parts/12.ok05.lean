set_option maxHeartbeats 4000000 in
set_option maxRecDepth 100000 in
theorem Un_putIn_ok (l : Launch) {G : GG} (hI : IG G) {M M' : Mem} {v0 : Nat} {v1 : Int32} {v2 : Int32} {r : Int32} (h : Un_putIn v0 v1 v2 M = some (r, M')) : Sp l G yX4_putIn cX4_putIn 3 (some .int) 0 0 [.ref (G.2.1 v0), .int v1, .int v2] M (some (.int r)) M' := by
  unfold Un_putIn at h
  obtain ⟨g0, h⟩ := hG h
  refine sp_intro [some (.ref (G.2.1 v0)), some (.int v1), some (.int v2)] hI (by decide) (Nat.le_of_ble_eq_true rfl) (fun _ hq => hq) (fun X _ C hQ => ?_)
  refine v_iload_n C dX4_putIn_0 rfl ?_
  refine v_if_lt (tgt := 14) C dX4_putIn_1 (by decide) (fun q => ?_) (fun q => ?_)
  · replace h := hT q h
    refine v_iload_n C dX4_putIn_14 rfl ?_
    refine v_iconst (v := 1) C dX4_putIn_15 (by decide) ?_
    refine v_iadd C dX4_putIn_16 ?_
    obtain ⟨rfl, rfl⟩ := hR h
    exact v_iret C hQ dX4_putIn_17
  · replace h := hF q h
    refine v_iload_n C dX4_putIn_4 rfl ?_
    refine v_aload_n C dX4_putIn_5 rfl ?_
    refine v_alen C (arrI g0) dX4_putIn_6 ?_
    refine v_icmp_ge (tgt := 14) C dX4_putIn_7 (by decide) (fun q => ?_) (fun q => ?_)
    · replace h := hT q h
      refine v_iload_n C dX4_putIn_14 rfl ?_
      refine v_iconst (v := 1) C dX4_putIn_15 (by decide) ?_
      refine v_iadd C dX4_putIn_16 ?_
      obtain ⟨rfl, rfl⟩ := hR h
      exact v_iret C hQ dX4_putIn_17
    · replace h := hF q h
      refine v_aload_n C dX4_putIn_10 rfl ?_
      refine v_iload_n C dX4_putIn_11 rfl ?_
      refine v_iload_n C dX4_putIn_12 rfl ?_
      obtain ⟨q1, h⟩ := hG h
      refine v_iast C (arrI g0) q1 dX4_putIn_13 ?_
      refine v_iload_n C dX4_putIn_14 rfl ?_
      refine v_iconst (v := 1) C dX4_putIn_15 (by decide) ?_
      refine v_iadd C dX4_putIn_16 ?_
      obtain ⟨rfl, rfl⟩ := hR h
      exact v_iret C hQ dX4_putIn_17
set_option maxHeartbeats 4000000 in
set_option maxRecDepth 100000 in
theorem Un_tellForm_L115_ok {X : XX} {G : GG} (C : Cx X G cX4_tellForm 6 RX4 5 124 none) {M' : Mem} (hQ : Rt X G none M') {k103 : Nat → Nat → Int32 → Int32 → Mem → Option Mem} (H103 : ∀ (v1 : Nat) (v2 : Nat) (v3 : Int32) (v4 : Int32) (M : Mem), isP v1 = true → isI v2 = true → k103 v1 v2 v3 v4 M = some M' → V X G 6 M 103 [some (.ref (G.2.1 22)), some (.ref (G.2.1 v1)), some (.ref (G.2.1 v2)), some (.int v3), some (.int v4), none] []) : ∀ (n : Nat) (v1 : Nat) (v2 : Nat) (v3 : Int32) (v4 : Int32) (v5 : Int32) (M : Mem), isP v1 = true → isI v2 = true → Un_tellForm_L115 k103 n v1 v2 v3 v4 v5 M = some M' → V X G 6 M 115 [some (.ref (G.2.1 22)), some (.ref (G.2.1 v1)), some (.ref (G.2.1 v2)), some (.int v3), some (.int v4), some (.int v5)] [] := by
  intro n
  induction n with
  | zero =>
    intro v1 v2 v3 v4 v5 M g1 g2 h
    simp [Un_tellForm_L115] at h
  | succ n ih =>
    intro v1 v2 v3 v4 v5 M g1 g2 h
    rw [Un_tellForm_L115] at h
    refine v_iload C dX4_tellForm_115 rfl ?_
    refine v_iconst (v := 4) C dX4_tellForm_117 (by decide) ?_
    refine v_icmp_gt (tgt := 142) C dX4_tellForm_118 (by decide) (fun q => ?_) (fun q => ?_)
    · replace h := hT q h
      refine v_iinc (v := 1) C dX4_tellForm_142 rfl (by decide) (by decide) rfl ?_
      refine v_goto (tgt := 103) C dX4_tellForm_145 (by decide) ?_
      exact v_weak [true, true, true, true, true, false] (H103 _ _ _ _ _ g1 g2 h)
    · replace h := hF q h
      refine v_aload_n C dX4_tellForm_121 rfl ?_
      refine v_iload_n C dX4_tellForm_122 rfl ?_
      refine v_aload_n C dX4_tellForm_123 rfl ?_
      refine v_aload_n C dX4_tellForm_124 rfl ?_
      refine v_iload C dX4_tellForm_125 rfl ?_
      refine v_iload C dX4_tellForm_127 rfl ?_
      obtain ⟨r3, M1, c2, h⟩ := hB h
      refine v_callVi C (Un_chainsAt_ok (xl X) C.ig c2) ml_X4_61 mb_X4_chainsAt mv_X4_chainsAt rfl rfl rfl (Nat.le_of_ble_eq_true rfl) (by decide) (by decide) dX4_tellForm_129 ?_
      obtain ⟨r6, M4, c5, h⟩ := hB h
      refine v_callSi C (Un_putIn_ok (xl X) C.ig c5) ml_X4_90 mb_X4_putIn ms_X4_putIn rfl rfl (Nat.le_of_ble_eq_true rfl) (by decide) (by decide) dX4_tellForm_132 ?_
      refine v_istore_n C dX4_tellForm_135 (by decide) rfl ?_
      refine v_iinc (v := 1) C dX4_tellForm_136 rfl (by decide) (by decide) rfl ?_
      refine v_goto (tgt := 115) C dX4_tellForm_139 (by decide) ?_
      exact v_weak [true, true, true, true, true, true] (ih _ _ _ _ _ _ g1 g2 h)
set_option maxHeartbeats 4000000 in
set_option maxRecDepth 100000 in
theorem Un_tellForm_L103_ok {X : XX} {G : GG} (C : Cx X G cX4_tellForm 6 RX4 5 124 none) {M' : Mem} (hQ : Rt X G none M')   : ∀ (n : Nat) (v1 : Nat) (v2 : Nat) (v3 : Int32) (v4 : Int32) (M : Mem), isP v1 = true → isI v2 = true → Un_tellForm_L103 n v1 v2 v3 v4 M = some M' → V X G 6 M 103 [some (.ref (G.2.1 22)), some (.ref (G.2.1 v1)), some (.ref (G.2.1 v2)), some (.int v3), some (.int v4), none] [] := by
  intro n
  induction n with
  | zero =>
    intro v1 v2 v3 v4 M g1 g2 h
    simp [Un_tellForm_L103] at h
  | succ n ih =>
    intro v1 v2 v3 v4 M g1 g2 h
    rw [Un_tellForm_L103] at h
    refine v_iload C dX4_tellForm_103 rfl ?_
    refine v_aload_n C dX4_tellForm_105 rfl ?_
    refine v_geti C fk_X4_58 (intP1 g1) dX4_tellForm_106 ?_
    refine v_icmp_gt (tgt := 148) C dX4_tellForm_109 (by decide) (fun q => ?_) (fun q => ?_)
    · replace h := hT q h
      obtain rfl := hRv h
      exact v_vret C hQ dX4_tellForm_148
    · replace h := hF q h
      refine v_iconst (v := 1) C dX4_tellForm_112 (by decide) ?_
      refine v_istore C dX4_tellForm_113 (by decide) rfl ?_
      exact v_weak [true, true, true, true, true, true] (Un_tellForm_L115_ok C hQ ih _ _ _ _ _ _ _ g1 g2 h)
set_option maxHeartbeats 4000000 in
set_option maxRecDepth 100000 in
theorem Un_tellForm_L62_ok {X : XX} {G : GG} (C : Cx X G cX4_tellForm 6 RX4 5 124 none) {M' : Mem} (hQ : Rt X G none M')   : ∀ (n : Nat) (v1 : Nat) (v2 : Nat) (v3 : Int32) (v4 : Int32) (M : Mem), isP v1 = true → isI v2 = true → Un_tellForm_L62 n v1 v2 v3 v4 M = some M' → V X G 6 M 62 [some (.ref (G.2.1 22)), some (.ref (G.2.1 v1)), some (.ref (G.2.1 v2)), some (.int v3), some (.int v4), none] [] := by
  intro n
  induction n with
  | zero =>
    intro v1 v2 v3 v4 M g1 g2 h
    simp [Un_tellForm_L62] at h
  | succ n ih =>
    intro v1 v2 v3 v4 M g1 g2 h
    rw [Un_tellForm_L62] at h
    refine v_iload C dX4_tellForm_62 rfl ?_
    refine v_iconst (v := 5) C dX4_tellForm_64 (by decide) ?_
    refine v_icmp_ge (tgt := 100) C dX4_tellForm_65 (by decide) (fun q => ?_) (fun q => ?_)
    · replace h := hT q h
      refine v_iconst (v := 0) C dX4_tellForm_100 (by decide) ?_
      refine v_istore C dX4_tellForm_101 (by decide) rfl ?_
      exact v_weak [true, true, true, true, true, false] (Un_tellForm_L103_ok C hQ _ _ _ _ _ _ g1 g2 h)
    · replace h := hF q h
      refine v_aload_n C dX4_tellForm_68 rfl ?_
      refine v_iload_n C dX4_tellForm_69 rfl ?_
      refine v_aload_n C dX4_tellForm_70 rfl ?_
      refine v_getr (j := 27) C fk_X4_25 rfl dX4_tellForm_71 ?_
      refine v_iload C dX4_tellForm_74 rfl ?_
      obtain ⟨q1, h⟩ := hG h
      refine v_iald C rfl q1 dX4_tellForm_76 ?_
      obtain ⟨r4, M2, c3, h⟩ := hB h
      refine v_callSi C (Un_putIn_ok (xl X) C.ig c3) ml_X4_90 mb_X4_putIn ms_X4_putIn rfl rfl (Nat.le_of_ble_eq_true rfl) (by decide) (by decide) dX4_tellForm_77 ?_
      refine v_istore_n C dX4_tellForm_80 (by decide) rfl ?_
      refine v_aload_n C dX4_tellForm_81 rfl ?_
      refine v_iload_n C dX4_tellForm_82 rfl ?_
      refine v_aload_n C dX4_tellForm_83 rfl ?_
      refine v_getr (j := 28) C fk_X4_29 rfl dX4_tellForm_84 ?_
      refine v_iload C dX4_tellForm_87 rfl ?_
      obtain ⟨q5, h⟩ := hG h
      refine v_iald C rfl q5 dX4_tellForm_89 ?_
      obtain ⟨r8, M6, c7, h⟩ := hB h
      refine v_callSi C (Un_putIn_ok (xl X) C.ig c7) ml_X4_90 mb_X4_putIn ms_X4_putIn rfl rfl (Nat.le_of_ble_eq_true rfl) (by decide) (by decide) dX4_tellForm_90 ?_
      refine v_istore_n C dX4_tellForm_93 (by decide) rfl ?_
      refine v_iinc (v := 1) C dX4_tellForm_94 rfl (by decide) (by decide) rfl ?_
      refine v_goto (tgt := 62) C dX4_tellForm_97 (by decide) ?_
      exact v_weak [true, true, true, true, true, false] (ih _ _ _ _ _ g1 g2 h)
set_option maxHeartbeats 4000000 in
set_option maxRecDepth 100000 in
theorem Un_tellForm_ok (l : Launch) {G : GG} (hI : IG G) {M M' : Mem} {v1 : Nat} {v2 : Nat} (h : Un_tellForm v1 v2 M = some M') : Sp l G yX4_tellForm cX4_tellForm 6 none 5 124 [.ref (G.2.1 22), .ref (G.2.1 v1), .ref (G.2.1 v2)] M none M' := by
  unfold Un_tellForm at h
  obtain ⟨g1, h⟩ := hG h
  obtain ⟨g2, h⟩ := hG h
  refine sp_intro [some (.ref (G.2.1 22)), some (.ref (G.2.1 v1)), some (.ref (G.2.1 v2)), none, none, none] hI (by decide) (Nat.le_of_ble_eq_true rfl) (fun _ hq => hq) (fun X _ C hQ => ?_)
  refine v_aload_n C dX4_tellForm_0 rfl ?_
  refine v_iconst (v := 0) C dX4_tellForm_1 (by decide) ?_
  obtain ⟨M1, c2, h⟩ := hV h
  refine v_callSv C (Ja_fill_ok (xl X) C.ig c2) ml_X4_84 mb_J7_fill_53178 ms_J7_fill_53178 rfl rfl (Nat.le_of_ble_eq_true rfl) (by decide) (by decide) dX4_tellForm_2 ?_
  refine v_aload_n C dX4_tellForm_5 rfl ?_
  refine v_aload_n C dX4_tellForm_6 rfl ?_
  refine v_aload_n C dX4_tellForm_7 rfl ?_
  refine v_getr (j := 27) C fk_X4_25 rfl dX4_tellForm_8 ?_
  obtain ⟨r5, M3, c4, h⟩ := hB h
  refine v_callVi C (Un_countIndices_ok (xl X) C.ig c4) ml_X4_72 mb_X4_countIndices mv_X4_countIndices rfl rfl rfl (Nat.le_of_ble_eq_true rfl) (by decide) (by decide) dX4_tellForm_11 ?_
  refine v_pop C dX4_tellForm_14 rfl ?_
  refine v_aload_n C dX4_tellForm_15 rfl ?_
  refine v_aload_n C dX4_tellForm_16 rfl ?_
  refine v_aload_n C dX4_tellForm_17 rfl ?_
  obtain ⟨M6, c7, h⟩ := hV h
  refine v_callVr C (Un_flippedOf_ok (xl X) C.ig c7) ml_X4_80 mb_X4_flippedOf mv_X4_flippedOf rfl rfl rfl (Nat.le_of_ble_eq_true rfl) (by decide) (by decide) dX4_tellForm_18 ?_
  refine v_aload_n C dX4_tellForm_21 rfl ?_
  refine v_getr (j := 28) C fk_X4_29 rfl dX4_tellForm_22 ?_
  obtain ⟨r10, M8, c9, h⟩ := hB h
  refine v_callVi C (Un_countIndices_ok (xl X) C.ig c9) ml_X4_72 mb_X4_countIndices mv_X4_countIndices rfl rfl rfl (Nat.le_of_ble_eq_true rfl) (by decide) (by decide) dX4_tellForm_25 ?_
  refine v_pop C dX4_tellForm_28 rfl ?_
  refine v_aload_n C dX4_tellForm_29 rfl ?_
  refine v_iconst (v := 0) C dX4_tellForm_30 (by decide) ?_
  refine v_aload_n C dX4_tellForm_31 rfl ?_
  refine v_geti C fk_X4_58 (intP1 g1) dX4_tellForm_32 ?_
  obtain ⟨r13, M11, c12, h⟩ := hB h
  refine v_callSi C (Un_putIn_ok (xl X) C.ig c12) ml_X4_90 mb_X4_putIn ms_X4_putIn rfl rfl (Nat.le_of_ble_eq_true rfl) (by decide) (by decide) dX4_tellForm_35 ?_
  refine v_istore_n C dX4_tellForm_38 (by decide) rfl ?_
  refine v_aload_n C dX4_tellForm_39 rfl ?_
  refine v_iload_n C dX4_tellForm_40 rfl ?_
  refine v_aload_n C dX4_tellForm_41 rfl ?_
  refine v_geti C fk_X4_94 (intP2 g1) dX4_tellForm_42 ?_
  obtain ⟨r16, M14, c15, h⟩ := hB h
  refine v_callSi C (Un_putIn_ok (xl X) C.ig c15) ml_X4_90 mb_X4_putIn ms_X4_putIn rfl rfl (Nat.le_of_ble_eq_true rfl) (by decide) (by decide) dX4_tellForm_45 ?_
  refine v_istore_n C dX4_tellForm_48 (by decide) rfl ?_
  refine v_aload_n C dX4_tellForm_49 rfl ?_
  refine v_iload_n C dX4_tellForm_50 rfl ?_
  refine v_aload_n C dX4_tellForm_51 rfl ?_
  refine v_geti C fk_X4_65 (intP3 g1) dX4_tellForm_52 ?_
  obtain ⟨r19, M17, c18, h⟩ := hB h
  refine v_callSi C (Un_putIn_ok (xl X) C.ig c18) ml_X4_90 mb_X4_putIn ms_X4_putIn rfl rfl (Nat.le_of_ble_eq_true rfl) (by decide) (by decide) dX4_tellForm_55 ?_
  refine v_istore_n C dX4_tellForm_58 (by decide) rfl ?_
  refine v_iconst (v := 0) C dX4_tellForm_59 (by decide) ?_
  refine v_istore C dX4_tellForm_60 (by decide) rfl ?_
  exact v_weak [true, true, true, true, true, false] (Un_tellForm_L62_ok C hQ _ _ _ _ _ _ g1 g2 h)
set_option maxHeartbeats 4000000 in
set_option maxRecDepth 100000 in
theorem Pf_feed_ok (l : Launch) {G : GG} (hI : IG G) {M M' : Mem} {v1 : Int32} {r : Int32} (h : Pf_feed v1 M = some (r, M')) : Sp l G yX5_feed cX5_feed 2 (some .int) 1 21 [.ref (G.2.1 0), .int v1] M (some (.int r)) M' := by
  unfold Pf_feed at h
  refine sp_intro [some (.ref (G.2.1 0)), some (.int v1)] hI (by decide) (Nat.le_of_ble_eq_true rfl) (fun _ hq => hq) (fun X _ C hQ => ?_)
  refine v_iload_n C dX5_feed_0 rfl ?_
  refine v_if_lt (tgt := 10) C dX5_feed_1 (by decide) (fun q => ?_) (fun q => ?_)
  · replace h := hT q h
    refine v_iconst (v := (-1)) C dX5_feed_10 (by decide) ?_
    obtain ⟨rfl, rfl⟩ := hR h
    exact v_iret C hQ dX5_feed_11
  · replace h := hF q h
    refine v_iload_n C dX5_feed_4 rfl ?_
    refine v_bipush (v := 127) C dX5_feed_5 (by decide) ?_
    refine v_icmp_le (tgt := 12) C dX5_feed_7 (by decide) (fun q => ?_) (fun q => ?_)
    · replace h := hT q h
      refine v_aload_n C dX5_feed_12 rfl ?_
      refine v_getr (j := 1) C fk_X5_10 rfl dX5_feed_13 ?_
      refine v_iload_n C dX5_feed_16 rfl ?_
      obtain ⟨r3, M1, c2, h⟩ := hB h
      refine v_callVi C (Tr_addByte_ok (xl X) C.ig c2) ml_X5_52 mb_X3_addByte mv_X3_addByte rfl rfl rfl (Nat.le_of_ble_eq_true rfl) (by decide) (by decide) dX5_feed_17 ?_
      refine v_if_eq (tgt := 33) C dX5_feed_20 (by decide) (fun q => ?_) (fun q => ?_)
      · replace h := hT q h
        refine v_bipush (v := (-3)) C dX5_feed_33 (by decide) ?_
        obtain ⟨rfl, rfl⟩ := hR h
        exact v_iret C hQ dX5_feed_35
      · replace h := hF q h
        refine v_aload_n C dX5_feed_23 rfl ?_
        refine v_getr (j := 1) C fk_X5_10 rfl dX5_feed_24 ?_
        refine v_geti C fk_X5_56 rfl dX5_feed_27 ?_
        refine v_goto (tgt := 35) C dX5_feed_30 (by decide) ?_
        obtain ⟨rfl, rfl⟩ := hR h
        exact v_iret C hQ dX5_feed_35
    · replace h := hF q h
      refine v_iconst (v := (-1)) C dX5_feed_10 (by decide) ?_
      obtain ⟨rfl, rfl⟩ := hR h
      exact v_iret C hQ dX5_feed_11
set_option maxHeartbeats 4000000 in
set_option maxRecDepth 100000 in
theorem Pf_end_ok (l : Launch) {G : GG} (hI : IG G) {M M' : Mem} {v1 : Int32} {r : Int32} (h : Pf_end v1 M = some (r, M')) : Sp l G yX5_end cX5_end 3 (some .int) 0 0 [.ref (G.2.1 0), .int v1] M (some (.int r)) M' := by
  unfold Pf_end at h
  refine sp_intro [some (.ref (G.2.1 0)), some (.int v1), none] hI (by decide) (Nat.le_of_ble_eq_true rfl) (fun _ hq => hq) (fun X _ C hQ => ?_)
  refine v_iload_n C dX5_end_0 rfl ?_
  refine v_if_lt (tgt := 15) C dX5_end_1 (by decide) (fun q => ?_) (fun q => ?_)
  · replace h := hT q h
    refine v_iconst (v := (-1)) C dX5_end_15 (by decide) ?_
    obtain ⟨rfl, rfl⟩ := hR h
    exact v_iret C hQ dX5_end_16
  · replace h := hF q h
    refine v_iload_n C dX5_end_4 rfl ?_
    refine v_aload_n C dX5_end_5 rfl ?_
    refine v_getr (j := 1) C fk_X5_10 rfl dX5_end_6 ?_
    refine v_geti C fk_X5_56 rfl dX5_end_9 ?_
    refine v_icmp_le (tgt := 17) C dX5_end_12 (by decide) (fun q => ?_) (fun q => ?_)
    · replace h := hT q h
      refine v_aload_n C dX5_end_17 rfl ?_
      refine v_getr (j := 1) C fk_X5_10 rfl dX5_end_18 ?_
      refine v_geti C fk_X5_56 rfl dX5_end_21 ?_
      refine v_istore_n C dX5_end_24 (by decide) rfl ?_
      refine v_aload_n C dX5_end_25 rfl ?_
      refine v_getr (j := 1) C fk_X5_10 rfl dX5_end_26 ?_
      refine v_iload_n C dX5_end_29 rfl ?_
      refine v_puti C fk_X5_56 rfl dX5_end_30 ?_
      refine v_iload_n C dX5_end_33 rfl ?_
      obtain ⟨rfl, rfl⟩ := hR h
      exact v_iret C hQ dX5_end_34
    · replace h := hF q h
      refine v_iconst (v := (-1)) C dX5_end_15 (by decide) ?_
      obtain ⟨rfl, rfl⟩ := hR h
      exact v_iret C hQ dX5_end_16
set_option maxHeartbeats 4000000 in
set_option maxRecDepth 100000 in
theorem Pf_text_L60_ok {X : XX} {G : GG} (C : Cx X G cX5_text 2 RX5 8 171 (some .int)) {r : Int32} {M' : Mem} (hQ : Rt X G (some (.int r)) M')   : ∀ (n : Nat) (v1 : Int32) (M : Mem), Pf_text_L60 n v1 M = some (r, M') → V X G 2 M 60 [some (.ref (G.2.1 0)), some (.int v1)] [] := by
  intro n
  induction n with
  | zero =>
    intro v1 M h
    simp [Pf_text_L60] at h
  | succ n ih =>
    intro v1 M h
    rw [Pf_text_L60] at h
    refine v_iload_n C dX5_text_60 rfl ?_
    refine v_iconst (v := 2) C dX5_text_61 (by decide) ?_
    refine v_icmp_ge (tgt := 78) C dX5_text_62 (by decide) (fun q => ?_) (fun q => ?_)
    · replace h := hT q h
      refine v_aload_n C dX5_text_78 rfl ?_
      refine v_getr (j := 1) C fk_X5_10 rfl dX5_text_79 ?_
      refine v_geti C fk_X5_79 rfl dX5_text_82 ?_
      obtain ⟨rfl, rfl⟩ := hR h
      exact v_iret C hQ dX5_text_85
    · replace h := hF q h
      refine v_aload_n C dX5_text_65 rfl ?_
      refine v_getr (j := 12) C fk_X5_27 rfl dX5_text_66 ?_
      refine v_iload_n C dX5_text_69 rfl ?_
      refine v_iconst (v := 0) C dX5_text_70 (by decide) ?_
      obtain ⟨q1, h⟩ := hG h
      refine v_zast C rfl q1 rfl dX5_text_71 ?_
      refine v_iinc (v := 1) C dX5_text_72 rfl (by decide) (by decide) rfl ?_
      refine v_goto (tgt := 60) C dX5_text_75 (by decide) ?_
      exact v_weak [true, true] (ih _ _ h)
set_option maxHeartbeats 4000000 in
set_option maxRecDepth 100000 in
theorem Pf_text_ok (l : Launch) {G : GG} (hI : IG G) {M M' : Mem}  {r : Int32} (h : Pf_text M = some (r, M')) : Sp l G yX5_text cX5_text 2 (some .int) 8 171 [.ref (G.2.1 0)] M (some (.int r)) M' := by
  unfold Pf_text at h
  refine sp_intro [some (.ref (G.2.1 0)), none] hI (by decide) (Nat.le_of_ble_eq_true rfl) (fun _ hq => hq) (fun X _ C hQ => ?_)
  refine v_aload_n C dX5_text_0 rfl ?_
  refine v_getr (j := 1) C fk_X5_10 rfl dX5_text_1 ?_
  obtain ⟨M1, c2, h⟩ := hV h
  refine v_callVv C (Tr_readText_ok (xl X) C.ig c2) ml_X5_60 mb_X3_readText mv_X3_readText rfl rfl rfl (Nat.le_of_ble_eq_true rfl) (by decide) (by decide) dX5_text_4 ?_
  refine v_aload_n C dX5_text_7 rfl ?_
  refine v_getr (j := 1) C fk_X5_10 rfl dX5_text_8 ?_
  refine v_iconst (v := 0) C dX5_text_11 (by decide) ?_
  refine v_puti C fk_X5_56 rfl dX5_text_12 ?_
  refine v_aload_n C dX5_text_15 rfl ?_
  refine v_aload_n C dX5_text_16 rfl ?_
  refine v_getr (j := 1) C fk_X5_10 rfl dX5_text_17 ?_
  refine v_geti C fk_X5_63 rfl dX5_text_20 ?_
  refine v_puti C fk_X5_66 rfl dX5_text_23 ?_
  refine v_aload_n C dX5_text_26 rfl ?_
  refine v_geti C fk_X5_66 rfl dX5_text_27 ?_
  refine v_if_eq (tgt := 44) C dX5_text_30 (by decide) (fun q => ?_) (fun q => ?_)
  · replace h := hT q h
    refine v_aload_n C dX5_text_44 rfl ?_
    refine v_getr (j := 5) C fk_X5_19 rfl dX5_text_45 ?_
    refine v_aload_n C dX5_text_48 rfl ?_
    refine v_getr (j := 1) C fk_X5_10 rfl dX5_text_49 ?_
    refine v_getr (j := 3) C fk_X5_72 rfl dX5_text_52 ?_
    obtain ⟨M3, c4, h⟩ := hV h
    refine v_callVv C (Pa_takeFrom_ok (xl X) C.ig c4) ml_X5_75 mb_X1_takeFrom mv_X1_takeFrom rfl rfl rfl (Nat.le_of_ble_eq_true rfl) (by decide) (by decide) dX5_text_55 ?_
    refine v_iconst (v := 0) C dX5_text_58 (by decide) ?_
    refine v_istore_n C dX5_text_59 (by decide) rfl ?_
    exact v_weak [true, true] (Pf_text_L60_ok C hQ _ _ _ h)
  · replace h := hF q h
    refine v_bipush (v := (-10)) C dX5_text_33 (by decide) ?_
    refine v_aload_n C dX5_text_35 rfl ?_
    refine v_getr (j := 1) C fk_X5_10 rfl dX5_text_36 ?_
    refine v_geti C fk_X5_69 rfl dX5_text_39 ?_
    refine v_isub C dX5_text_42 ?_
    obtain ⟨rfl, rfl⟩ := hR h
    exact v_iret C hQ dX5_text_43
set_option maxHeartbeats 4000000 in
set_option maxRecDepth 100000 in
theorem Pf_fault_ok (l : Launch) {G : GG} (hI : IG G) {M M' : Mem}  {r : Int32} (h : Pf_fault M = some (r, M')) : Sp l G yX5_fault cX5_fault 1 (some .int) 0 0 [.ref (G.2.1 0)] M (some (.int r)) M' := by
  unfold Pf_fault at h
  refine sp_intro [some (.ref (G.2.1 0))] hI (by decide) (Nat.le_of_ble_eq_true rfl) (fun _ hq => hq) (fun X _ C hQ => ?_)
  refine v_aload_n C dX5_fault_0 rfl ?_
  refine v_geti C fk_X5_66 rfl dX5_fault_1 ?_
  obtain ⟨rfl, rfl⟩ := hR h
  exact v_iret C hQ dX5_fault_4
set_option maxHeartbeats 4000000 in
set_option maxRecDepth 100000 in
theorem Pf_rule_ok (l : Launch) {G : GG} (hI : IG G) {M M' : Mem} {v1 : Int32} {r : Int32} (h : Pf_rule v1 M = some (r, M')) : Sp l G yX5_rule cX5_rule 2 (some .int) 6 150 [.ref (G.2.1 0), .int v1] M (some (.int r)) M' := by
  unfold Pf_rule at h
  refine sp_intro [some (.ref (G.2.1 0)), some (.int v1)] hI (by decide) (Nat.le_of_ble_eq_true rfl) (fun _ hq => hq) (fun X _ C hQ => ?_)
  refine v_iload_n C dX5_rule_0 rfl ?_
  by_cases q1_0 : v1 = 0
  · subst q1_0
    replace h := hT rfl h
    refine v_tin (tgt := 48) C dX5_rule_1 (by decide) (by decide) rfl (by decide) ?_
    refine v_aload_n C dX5_rule_48 rfl ?_
    refine v_getr (j := 5) C fk_X5_19 rfl dX5_rule_49 ?_
    refine v_geti C fk_X5_82 rfl dX5_rule_52 ?_
    obtain ⟨rfl, rfl⟩ := hR h
    exact v_iret C hQ dX5_rule_55
  replace h := hF q1_0 h
  by_cases q1_1 : v1 = 1
  · subst q1_1
    replace h := hT rfl h
    refine v_tin (tgt := 56) C dX5_rule_1 (by decide) (by decide) rfl (by decide) ?_
    refine v_aload_n C dX5_rule_56 rfl ?_
    refine v_getr (j := 5) C fk_X5_19 rfl dX5_rule_57 ?_
    refine v_geti C fk_X5_85 rfl dX5_rule_60 ?_
    obtain ⟨rfl, rfl⟩ := hR h
    exact v_iret C hQ dX5_rule_63
  replace h := hF q1_1 h
  by_cases q1_2 : v1 = 2
  · subst q1_2
    replace h := hT rfl h
    refine v_tin (tgt := 64) C dX5_rule_1 (by decide) (by decide) rfl (by decide) ?_
    refine v_aload_n C dX5_rule_64 rfl ?_
    refine v_getr (j := 5) C fk_X5_19 rfl dX5_rule_65 ?_
    refine v_geti C fk_X5_88 rfl dX5_rule_68 ?_
    obtain ⟨rfl, rfl⟩ := hR h
    exact v_iret C hQ dX5_rule_71
  replace h := hF q1_2 h
  by_cases q1_3 : v1 = 3
  · subst q1_3
    replace h := hT rfl h
    refine v_tin (tgt := 72) C dX5_rule_1 (by decide) (by decide) rfl (by decide) ?_
    refine v_aload_n C dX5_rule_72 rfl ?_
    refine v_getr (j := 22) C fk_X5_41 rfl dX5_rule_73 ?_
    refine v_aload_n C dX5_rule_76 rfl ?_
    refine v_getr (j := 5) C fk_X5_19 rfl dX5_rule_77 ?_
    obtain ⟨r3, M1, c2, h⟩ := hB h
    refine v_callVi C (Un_howManyCols_ok (xl X) C.ig c2) ml_X5_91 mb_X4_howManyCols mv_X4_howManyCols rfl rfl rfl (Nat.le_of_ble_eq_true rfl) (by decide) (by decide) dX5_rule_80 ?_
    obtain ⟨rfl, rfl⟩ := hR h
    exact v_iret C hQ dX5_rule_83
  replace h := hF q1_3 h
  by_cases q1_4 : v1 = 4
  · subst q1_4
    replace h := hT rfl h
    refine v_tin (tgt := 84) C dX5_rule_1 (by decide) (by decide) rfl (by decide) ?_
    refine v_aload_n C dX5_rule_84 rfl ?_
    refine v_getr (j := 22) C fk_X5_41 rfl dX5_rule_85 ?_
    refine v_aload_n C dX5_rule_88 rfl ?_
    refine v_getr (j := 5) C fk_X5_19 rfl dX5_rule_89 ?_
    obtain ⟨r6, M4, c5, h⟩ := hB h
    refine v_callVi C (Un_howManyRows_ok (xl X) C.ig c5) ml_X5_95 mb_X4_howManyRows mv_X4_howManyRows rfl rfl rfl (Nat.le_of_ble_eq_true rfl) (by decide) (by decide) dX5_rule_92 ?_
    obtain ⟨rfl, rfl⟩ := hR h
    exact v_iret C hQ dX5_rule_95
  replace h := hF q1_4 h
  by_cases q1_5 : v1 = 5
  · subst q1_5
    replace h := hT rfl h
    refine v_tin (tgt := 96) C dX5_rule_1 (by decide) (by decide) rfl (by decide) ?_
    refine v_aload_n C dX5_rule_96 rfl ?_
    refine v_getr (j := 22) C fk_X5_41 rfl dX5_rule_97 ?_
    refine v_aload_n C dX5_rule_100 rfl ?_
    refine v_getr (j := 5) C fk_X5_19 rfl dX5_rule_101 ?_
    refine v_aload_n C dX5_rule_104 rfl ?_
    refine v_getr (j := 5) C fk_X5_19 rfl dX5_rule_105 ?_
    refine v_geti C fk_X5_88 rfl dX5_rule_108 ?_
    refine v_aload_n C dX5_rule_111 rfl ?_
    refine v_getr (j := 5) C fk_X5_19 rfl dX5_rule_112 ?_
    refine v_geti C fk_X5_88 rfl dX5_rule_115 ?_
    obtain ⟨r9, M7, c8, h⟩ := hB h
    refine v_callVi C (Un_lengthsFrom_ok (xl X) C.ig c8) ml_X5_98 mb_X4_lengthsFrom mv_X4_lengthsFrom rfl rfl rfl (Nat.le_of_ble_eq_true rfl) (by decide) (by decide) dX5_rule_118 ?_
    obtain ⟨rfl, rfl⟩ := hR h
    exact v_iret C hQ dX5_rule_121
  replace h := hF q1_5 h
  by_cases q1_6 : v1 = 6
  · subst q1_6
    replace h := hT rfl h
    refine v_tin (tgt := 122) C dX5_rule_1 (by decide) (by decide) rfl (by decide) ?_
    refine v_aload_n C dX5_rule_122 rfl ?_
    refine v_getr (j := 22) C fk_X5_41 rfl dX5_rule_123 ?_
    refine v_aload_n C dX5_rule_126 rfl ?_
    refine v_getr (j := 5) C fk_X5_19 rfl dX5_rule_127 ?_
    refine v_iconst (v := 0) C dX5_rule_130 (by decide) ?_
    refine v_aload_n C dX5_rule_131 rfl ?_
    refine v_getr (j := 5) C fk_X5_19 rfl dX5_rule_132 ?_
    refine v_geti C fk_X5_88 rfl dX5_rule_135 ?_
    refine v_iconst (v := 1) C dX5_rule_138 (by decide) ?_
    refine v_isub C dX5_rule_139 ?_
    obtain ⟨r12, M10, c11, h⟩ := hB h
    refine v_callVi C (Un_lengthsFrom_ok (xl X) C.ig c11) ml_X5_98 mb_X4_lengthsFrom mv_X4_lengthsFrom rfl rfl rfl (Nat.le_of_ble_eq_true rfl) (by decide) (by decide) dX5_rule_140 ?_
    obtain ⟨rfl, rfl⟩ := hR h
    exact v_iret C hQ dX5_rule_143
  replace h := hF q1_6 h
  by_cases q1_7 : v1 = 7
  · subst q1_7
    replace h := hT rfl h
    refine v_tin (tgt := 144) C dX5_rule_1 (by decide) (by decide) rfl (by decide) ?_
    refine v_aload_n C dX5_rule_144 rfl ?_
    refine v_getr (j := 5) C fk_X5_19 rfl dX5_rule_145 ?_
    refine v_geti C fk_X5_85 rfl dX5_rule_148 ?_
    refine v_aload_n C dX5_rule_151 rfl ?_
    refine v_getr (j := 22) C fk_X5_41 rfl dX5_rule_152 ?_
    refine v_aload_n C dX5_rule_155 rfl ?_
    refine v_getr (j := 5) C fk_X5_19 rfl dX5_rule_156 ?_
    obtain ⟨r15, M13, c14, h⟩ := hB h
    refine v_callVi C (Un_columnsOfIndices_ok (xl X) C.ig c14) ml_X5_102 mb_X4_columnsOfIndices mv_X4_columnsOfIndices rfl rfl rfl (Nat.le_of_ble_eq_true rfl) (by decide) (by decide) dX5_rule_159 ?_
    refine v_isub C dX5_rule_162 ?_
    refine v_aload_n C dX5_rule_163 rfl ?_
    refine v_getr (j := 22) C fk_X5_41 rfl dX5_rule_164 ?_
    refine v_aload_n C dX5_rule_167 rfl ?_
    refine v_getr (j := 5) C fk_X5_19 rfl dX5_rule_168 ?_
    refine v_iconst (v := 0) C dX5_rule_171 (by decide) ?_
    refine v_aload_n C dX5_rule_172 rfl ?_
    refine v_getr (j := 5) C fk_X5_19 rfl dX5_rule_173 ?_
    refine v_geti C fk_X5_88 rfl dX5_rule_176 ?_
    obtain ⟨r18, M16, c17, h⟩ := hB h
    refine v_callVi C (Un_lengthsFrom_ok (xl X) C.ig c17) ml_X5_98 mb_X4_lengthsFrom mv_X4_lengthsFrom rfl rfl rfl (Nat.le_of_ble_eq_true rfl) (by decide) (by decide) dX5_rule_179 ?_
    refine v_isub C dX5_rule_182 ?_
    obtain ⟨rfl, rfl⟩ := hR h
    exact v_iret C hQ dX5_rule_183
  replace h := hF q1_7 h
  refine v_tout (tgt := 184) C dX5_rule_1 (tsw8 q1_0 q1_1 q1_2 q1_3 q1_4 q1_5 q1_6 q1_7) (by decide) ?_
  refine v_iconst (v := (-1)) C dX5_rule_184 (by decide) ?_
  obtain ⟨rfl, rfl⟩ := hR h
  exact v_iret C hQ dX5_rule_185
set_option maxHeartbeats 4000000 in
set_option maxRecDepth 100000 in
theorem Pf_cell_ok (l : Launch) {G : GG} (hI : IG G) {M M' : Mem} {v1 : Int32} {v2 : Int32} {v3 : Int32} {r : Int32} (h : Pf_cell v1 v2 v3 M = some (r, M')) : Sp l G yX5_cell cX5_cell 4 (some .int) 2 46 [.ref (G.2.1 0), .int v1, .int v2, .int v3] M (some (.int r)) M' := by
  unfold Pf_cell at h
  refine sp_intro [some (.ref (G.2.1 0)), some (.int v1), some (.int v2), some (.int v3)] hI (by decide) (Nat.le_of_ble_eq_true rfl) (fun _ hq => hq) (fun X _ C hQ => ?_)
  refine v_aload_n C dX5_cell_0 rfl ?_
  refine v_getr (j := 5) C fk_X5_19 rfl dX5_cell_1 ?_
  refine v_iload_n C dX5_cell_4 rfl ?_
  refine v_iload_n C dX5_cell_5 rfl ?_
  refine v_iload_n C dX5_cell_6 rfl ?_
  obtain ⟨r3, M1, c2, h⟩ := hB h
  refine v_callVi C (Pa_hasPlace_ok (xl X) C.ig c2) ml_X5_105 mb_X1_hasPlace mv_X1_hasPlace rfl rfl rfl (Nat.le_of_ble_eq_true rfl) (by decide) (by decide) dX5_cell_7 ?_
  refine v_if_eq (tgt := 26) C dX5_cell_10 (by decide) (fun q => ?_) (fun q => ?_)
  · replace h := hT q h
    refine v_iconst (v := (-1)) C dX5_cell_26 (by decide) ?_
    obtain ⟨rfl, rfl⟩ := hR h
    exact v_iret C hQ dX5_cell_27
  · replace h := hF q h
    refine v_aload_n C dX5_cell_13 rfl ?_
    refine v_getr (j := 5) C fk_X5_19 rfl dX5_cell_14 ?_
    refine v_iload_n C dX5_cell_17 rfl ?_
    refine v_iload_n C dX5_cell_18 rfl ?_
    refine v_iload_n C dX5_cell_19 rfl ?_
    obtain ⟨r6, M4, c5, h⟩ := hB h
    refine v_callVi C (Pa_valueAt_ok (xl X) C.ig c5) ml_X5_109 mb_X1_valueAt mv_X1_valueAt rfl rfl rfl (Nat.le_of_ble_eq_true rfl) (by decide) (by decide) dX5_cell_20 ?_
    refine v_goto (tgt := 27) C dX5_cell_23 (by decide) ?_
    obtain ⟨rfl, rfl⟩ := hR h
    exact v_iret C hQ dX5_cell_27
set_option maxHeartbeats 4000000 in
set_option maxRecDepth 100000 in
theorem Pf_isX_ok (l : Launch) {G : GG} (hI : IG G) {M M' : Mem} {v1 : Int32} {r : Int32} (h : Pf_isX v1 M = some (r, M')) : Sp l G yX5_isX cX5_isX 2 (some .boolean) 0 0 [.ref (G.2.1 0), .int v1] M (some (.int r)) M' := by
  unfold Pf_isX at h
  refine sp_intro [some (.ref (G.2.1 0)), some (.int v1)] hI (by decide) (Nat.le_of_ble_eq_true rfl) (fun _ hq => hq) (fun X _ C hQ => ?_)
  refine v_iload_n C dX5_isX_0 rfl ?_
  refine v_if_lt (tgt := 19) C dX5_isX_1 (by decide) (fun q => ?_) (fun q => ?_)
  · replace h := hT q h
    refine v_iconst (v := 0) C dX5_isX_19 (by decide) ?_
    obtain ⟨rfl, rfl⟩ := hR h
    exact v_zret C hQ rfl dX5_isX_20
  · replace h := hF q h
    refine v_iload_n C dX5_isX_4 rfl ?_
    refine v_aload_n C dX5_isX_5 rfl ?_
    refine v_getr (j := 5) C fk_X5_19 rfl dX5_isX_6 ?_
    refine v_geti C fk_X5_88 rfl dX5_isX_9 ?_
    refine v_icmp_gt (tgt := 19) C dX5_isX_12 (by decide) (fun q => ?_) (fun q => ?_)
    · replace h := hT q h
      refine v_iconst (v := 0) C dX5_isX_19 (by decide) ?_
      obtain ⟨rfl, rfl⟩ := hR h
      exact v_zret C hQ rfl dX5_isX_20
    · replace h := hF q h
      refine v_iconst (v := 1) C dX5_isX_15 (by decide) ?_
      refine v_goto (tgt := 20) C dX5_isX_16 (by decide) ?_
      obtain ⟨rfl, rfl⟩ := hR h
      exact v_zret C hQ rfl dX5_isX_20
set_option maxHeartbeats 4000000 in
set_option maxRecDepth 100000 in
theorem Pf_rank_ok (l : Launch) {G : GG} (hI : IG G) {M M' : Mem} {v1 : Int32} {r : Int32} (h : Pf_rank v1 M = some (r, M')) : Sp l G yX5_rank cX5_rank 2 (some .int) 5 121 [.ref (G.2.1 0), .int v1] M (some (.int r)) M' := by
  unfold Pf_rank at h
  refine sp_intro [some (.ref (G.2.1 0)), some (.int v1)] hI (by decide) (Nat.le_of_ble_eq_true rfl) (fun _ hq => hq) (fun X _ C hQ => ?_)
  refine v_aload_n C dX5_rank_0 rfl ?_
  refine v_iload_n C dX5_rank_1 rfl ?_
  obtain ⟨r3, M1, c2, h⟩ := hB h
  refine v_callVi C (Pf_isX_ok (xl X) C.ig c2) ml_X5_113 mb_X5_isX mv_X5_isX rfl rfl rfl (Nat.le_of_ble_eq_true rfl) (by decide) (by decide) dX5_rank_2 ?_
  refine v_if_eq (tgt := 23) C dX5_rank_5 (by decide) (fun q => ?_) (fun q => ?_)
  · replace h := hT q h
    refine v_iconst (v := (-1)) C dX5_rank_23 (by decide) ?_
    obtain ⟨rfl, rfl⟩ := hR h
    exact v_iret C hQ dX5_rank_24
  · replace h := hF q h
    refine v_aload_n C dX5_rank_8 rfl ?_
    refine v_getr (j := 22) C fk_X5_41 rfl dX5_rank_9 ?_
    refine v_aload_n C dX5_rank_12 rfl ?_
    refine v_getr (j := 5) C fk_X5_19 rfl dX5_rank_13 ?_
    refine v_iload_n C dX5_rank_16 rfl ?_
    obtain ⟨r6, M4, c5, h⟩ := hB h
    refine v_callVi C (Un_rankAt_ok (xl X) C.ig c5) ml_X5_116 mb_X4_rankAt mv_X4_rankAt rfl rfl rfl (Nat.le_of_ble_eq_true rfl) (by decide) (by decide) dX5_rank_17 ?_
    refine v_goto (tgt := 24) C dX5_rank_20 (by decide) ?_
    obtain ⟨rfl, rfl⟩ := hR h
    exact v_iret C hQ dX5_rank_24
set_option maxHeartbeats 4000000 in
set_option maxRecDepth 100000 in
theorem Pf_isStepCount_ok (l : Launch) {G : GG} (hI : IG G) {M M' : Mem} {v0 : Int32} {r : Int32} (h : Pf_isStepCount v0 M = some (r, M')) : Sp l G yX5_isStepCount cX5_isStepCount 1 (some .boolean) 0 0 [.int v0] M (some (.int r)) M' := by
  unfold Pf_isStepCount at h
  refine sp_intro [some (.int v0)] hI (by decide) (Nat.le_of_ble_eq_true rfl) (fun _ hq => hq) (fun X _ C hQ => ?_)
  refine v_iload_n C dX5_isStepCount_0 rfl ?_
  refine v_if_lt (tgt := 13) C dX5_isStepCount_1 (by decide) (fun q => ?_) (fun q => ?_)
  · replace h := hT q h
    refine v_iconst (v := 0) C dX5_isStepCount_13 (by decide) ?_
    obtain ⟨rfl, rfl⟩ := hR h
    exact v_zret C hQ rfl dX5_isStepCount_14
  · replace h := hF q h
    refine v_iload_n C dX5_isStepCount_4 rfl ?_
    refine v_iconst (v := 4) C dX5_isStepCount_5 (by decide) ?_
    refine v_icmp_gt (tgt := 13) C dX5_isStepCount_6 (by decide) (fun q => ?_) (fun q => ?_)
    · replace h := hT q h
      refine v_iconst (v := 0) C dX5_isStepCount_13 (by decide) ?_
      obtain ⟨rfl, rfl⟩ := hR h
      exact v_zret C hQ rfl dX5_isStepCount_14
    · replace h := hF q h
      refine v_iconst (v := 1) C dX5_isStepCount_9 (by decide) ?_
      refine v_goto (tgt := 14) C dX5_isStepCount_10 (by decide) ?_
      obtain ⟨rfl, rfl⟩ := hR h
      exact v_zret C hQ rfl dX5_isStepCount_14
set_option maxHeartbeats 4000000 in
set_option maxRecDepth 100000 in
theorem Pf_nulls_ok (l : Launch) {G : GG} (hI : IG G) {M M' : Mem} {v1 : Int32} {r : Int32} (h : Pf_nulls v1 M = some (r, M')) : Sp l G yX5_nulls cX5_nulls 2 (some .int) 4 97 [.ref (G.2.1 0), .int v1] M (some (.int r)) M' := by
  unfold Pf_nulls at h
  refine sp_intro [some (.ref (G.2.1 0)), some (.int v1)] hI (by decide) (Nat.le_of_ble_eq_true rfl) (fun _ hq => hq) (fun X _ C hQ => ?_)
  refine v_iload_n C dX5_nulls_0 rfl ?_
  obtain ⟨r3, M1, c2, h⟩ := hB h
  refine v_callSi C (Pf_isStepCount_ok (xl X) C.ig c2) ml_X5_120 mb_X5_isStepCount ms_X5_isStepCount rfl rfl (Nat.le_of_ble_eq_true rfl) (by decide) (by decide) dX5_nulls_1 ?_
  refine v_if_eq (tgt := 22) C dX5_nulls_4 (by decide) (fun q => ?_) (fun q => ?_)
  · replace h := hT q h
    refine v_iconst (v := (-1)) C dX5_nulls_22 (by decide) ?_
    obtain ⟨rfl, rfl⟩ := hR h
    exact v_iret C hQ dX5_nulls_23
  · replace h := hF q h
    refine v_aload_n C dX5_nulls_7 rfl ?_
    refine v_getr (j := 22) C fk_X5_41 rfl dX5_nulls_8 ?_
    refine v_aload_n C dX5_nulls_11 rfl ?_
    refine v_getr (j := 5) C fk_X5_19 rfl dX5_nulls_12 ?_
    refine v_iload_n C dX5_nulls_15 rfl ?_
    obtain ⟨r6, M4, c5, h⟩ := hB h
    refine v_callVi C (Un_nullsOf_ok (xl X) C.ig c5) ml_X5_123 mb_X4_nullsOf mv_X4_nullsOf rfl rfl rfl (Nat.le_of_ble_eq_true rfl) (by decide) (by decide) dX5_nulls_16 ?_
    refine v_goto (tgt := 23) C dX5_nulls_19 (by decide) ?_
    obtain ⟨rfl, rfl⟩ := hR h
    exact v_iret C hQ dX5_nulls_23
set_option maxHeartbeats 4000000 in
set_option maxRecDepth 100000 in
theorem Pf_col_ok (l : Launch) {G : GG} (hI : IG G) {M M' : Mem} {v1 : Int32} {r : Int32} (h : Pf_col v1 M = some (r, M')) : Sp l G yX5_col cX5_col 2 (some .int) 6 146 [.ref (G.2.1 0), .int v1] M (some (.int r)) M' := by
  unfold Pf_col at h
  refine sp_intro [some (.ref (G.2.1 0)), some (.int v1)] hI (by decide) (Nat.le_of_ble_eq_true rfl) (fun _ hq => hq) (fun X _ C hQ => ?_)
  refine v_iload_n C dX5_col_0 rfl ?_
  refine v_if_ge (tgt := 8) C dX5_col_1 (by decide) (fun q => ?_) (fun q => ?_)
  · replace h := hT q h
    refine v_aload_n C dX5_col_8 rfl ?_
    refine v_getr (j := 22) C fk_X5_41 rfl dX5_col_9 ?_
    refine v_aload_n C dX5_col_12 rfl ?_
    refine v_getr (j := 5) C fk_X5_19 rfl dX5_col_13 ?_
    refine v_iload_n C dX5_col_16 rfl ?_
    obtain ⟨r3, M1, c2, h⟩ := hB h
    refine v_callVi C (Un_colIndex_ok (xl X) C.ig c2) ml_X5_126 mb_X4_colIndex mv_X4_colIndex rfl rfl rfl (Nat.le_of_ble_eq_true rfl) (by decide) (by decide) dX5_col_17 ?_
    obtain ⟨rfl, rfl⟩ := hR h
    exact v_iret C hQ dX5_col_20
  · replace h := hF q h
    refine v_iconst (v := (-1)) C dX5_col_4 (by decide) ?_
    refine v_goto (tgt := 20) C dX5_col_5 (by decide) ?_
    obtain ⟨rfl, rfl⟩ := hR h
    exact v_iret C hQ dX5_col_20
set_option maxHeartbeats 4000000 in
set_option maxRecDepth 100000 in
theorem Pf_row_ok (l : Launch) {G : GG} (hI : IG G) {M M' : Mem} {v1 : Int32} {r : Int32} (h : Pf_row v1 M = some (r, M')) : Sp l G yX5_row cX5_row 2 (some .int) 6 146 [.ref (G.2.1 0), .int v1] M (some (.int r)) M' := by
  unfold Pf_row at h
  refine sp_intro [some (.ref (G.2.1 0)), some (.int v1)] hI (by decide) (Nat.le_of_ble_eq_true rfl) (fun _ hq => hq) (fun X _ C hQ => ?_)
  refine v_iload_n C dX5_row_0 rfl ?_
  refine v_if_ge (tgt := 8) C dX5_row_1 (by decide) (fun q => ?_) (fun q => ?_)
  · replace h := hT q h
    refine v_aload_n C dX5_row_8 rfl ?_
    refine v_getr (j := 22) C fk_X5_41 rfl dX5_row_9 ?_
    refine v_aload_n C dX5_row_12 rfl ?_
    refine v_getr (j := 5) C fk_X5_19 rfl dX5_row_13 ?_
    refine v_iload_n C dX5_row_16 rfl ?_
    obtain ⟨r3, M1, c2, h⟩ := hB h
    refine v_callVi C (Un_rowIndex_ok (xl X) C.ig c2) ml_X5_129 mb_X4_rowIndex mv_X4_rowIndex rfl rfl rfl (Nat.le_of_ble_eq_true rfl) (by decide) (by decide) dX5_row_17 ?_
    obtain ⟨rfl, rfl⟩ := hR h
    exact v_iret C hQ dX5_row_20
  · replace h := hF q h
    refine v_iconst (v := (-1)) C dX5_row_4 (by decide) ?_
    refine v_goto (tgt := 20) C dX5_row_5 (by decide) ?_
    obtain ⟨rfl, rfl⟩ := hR h
    exact v_iret C hQ dX5_row_20
set_option maxHeartbeats 4000000 in
set_option maxRecDepth 100000 in
theorem Pf_chains_ok (l : Launch) {G : GG} (hI : IG G) {M M' : Mem} {v1 : Int32} {v2 : Int32} {r : Int32} (h : Pf_chains v1 v2 M = some (r, M')) : Sp l G yX5_chains cX5_chains 3 (some .int) 5 122 [.ref (G.2.1 0), .int v1, .int v2] M (some (.int r)) M' := by
  unfold Pf_chains at h
  refine sp_intro [some (.ref (G.2.1 0)), some (.int v1), some (.int v2)] hI (by decide) (Nat.le_of_ble_eq_true rfl) (fun _ hq => hq) (fun X _ C hQ => ?_)
  refine v_aload_n C dX5_chains_0 rfl ?_
  refine v_iload_n C dX5_chains_1 rfl ?_
  obtain ⟨r3, M1, c2, h⟩ := hB h
  refine v_callVi C (Pf_isX_ok (xl X) C.ig c2) ml_X5_113 mb_X5_isX mv_X5_isX rfl rfl rfl (Nat.le_of_ble_eq_true rfl) (by decide) (by decide) dX5_chains_2 ?_
  refine v_if_eq (tgt := 31) C dX5_chains_5 (by decide) (fun q => ?_) (fun q => ?_)
  · replace h := hT q h
    refine v_iconst (v := (-1)) C dX5_chains_31 (by decide) ?_
    obtain ⟨rfl, rfl⟩ := hR h
    exact v_iret C hQ dX5_chains_32
  · replace h := hF q h
    refine v_iload_n C dX5_chains_8 rfl ?_
    obtain ⟨r6, M4, c5, h⟩ := hB h
    refine v_callSi C (Pf_isStepCount_ok (xl X) C.ig c5) ml_X5_120 mb_X5_isStepCount ms_X5_isStepCount rfl rfl (Nat.le_of_ble_eq_true rfl) (by decide) (by decide) dX5_chains_9 ?_
    refine v_if_eq (tgt := 31) C dX5_chains_12 (by decide) (fun q => ?_) (fun q => ?_)
    · replace h := hT q h
      refine v_iconst (v := (-1)) C dX5_chains_31 (by decide) ?_
      obtain ⟨rfl, rfl⟩ := hR h
      exact v_iret C hQ dX5_chains_32
    · replace h := hF q h
      refine v_aload_n C dX5_chains_15 rfl ?_
      refine v_getr (j := 22) C fk_X5_41 rfl dX5_chains_16 ?_
      refine v_aload_n C dX5_chains_19 rfl ?_
      refine v_getr (j := 5) C fk_X5_19 rfl dX5_chains_20 ?_
      refine v_iload_n C dX5_chains_23 rfl ?_
      refine v_iload_n C dX5_chains_24 rfl ?_
      obtain ⟨r9, M7, c8, h⟩ := hB h
      refine v_callVi C (Un_chainsAt_ok (xl X) C.ig c8) ml_X5_132 mb_X4_chainsAt mv_X4_chainsAt rfl rfl rfl (Nat.le_of_ble_eq_true rfl) (by decide) (by decide) dX5_chains_25 ?_
      refine v_goto (tgt := 32) C dX5_chains_28 (by decide) ?_
      obtain ⟨rfl, rfl⟩ := hR h
      exact v_iret C hQ dX5_chains_32
set_option maxHeartbeats 4000000 in
set_option maxRecDepth 100000 in
theorem Pf_length_ok (l : Launch) {G : GG} (hI : IG G) {M M' : Mem} {v1 : Int32} {v2 : Int32} {r : Int32} (h : Pf_length v1 v2 M = some (r, M')) : Sp l G yX5_length cX5_length 3 (some .int) 6 152 [.ref (G.2.1 0), .int v1, .int v2] M (some (.int r)) M' := by
  unfold Pf_length at h
  refine sp_intro [some (.ref (G.2.1 0)), some (.int v1), some (.int v2)] hI (by decide) (Nat.le_of_ble_eq_true rfl) (fun _ hq => hq) (fun X _ C hQ => ?_)
  refine v_aload_n C dX5_length_0 rfl ?_
  refine v_iload_n C dX5_length_1 rfl ?_
  obtain ⟨r3, M1, c2, h⟩ := hB h
  refine v_callVi C (Pf_isX_ok (xl X) C.ig c2) ml_X5_113 mb_X5_isX mv_X5_isX rfl rfl rfl (Nat.le_of_ble_eq_true rfl) (by decide) (by decide) dX5_length_2 ?_
  refine v_if_eq (tgt := 28) C dX5_length_5 (by decide) (fun q => ?_) (fun q => ?_)
  · replace h := hT q h
    refine v_iconst (v := (-1)) C dX5_length_28 (by decide) ?_
    obtain ⟨rfl, rfl⟩ := hR h
    exact v_iret C hQ dX5_length_29
  · replace h := hF q h
    refine v_iload_n C dX5_length_8 rfl ?_
    refine v_if_lt (tgt := 28) C dX5_length_9 (by decide) (fun q => ?_) (fun q => ?_)
    · replace h := hT q h
      refine v_iconst (v := (-1)) C dX5_length_28 (by decide) ?_
      obtain ⟨rfl, rfl⟩ := hR h
      exact v_iret C hQ dX5_length_29
    · replace h := hF q h
      refine v_aload_n C dX5_length_12 rfl ?_
      refine v_getr (j := 22) C fk_X5_41 rfl dX5_length_13 ?_
      refine v_aload_n C dX5_length_16 rfl ?_
      refine v_getr (j := 5) C fk_X5_19 rfl dX5_length_17 ?_
      refine v_iload_n C dX5_length_20 rfl ?_
      refine v_iload_n C dX5_length_21 rfl ?_
      obtain ⟨r6, M4, c5, h⟩ := hB h
      refine v_callVi C (Un_lengthAt_ok (xl X) C.ig c5) ml_X5_135 mb_X4_lengthAt mv_X4_lengthAt rfl rfl rfl (Nat.le_of_ble_eq_true rfl) (by decide) (by decide) dX5_length_22 ?_
      refine v_goto (tgt := 29) C dX5_length_25 (by decide) ?_
      obtain ⟨rfl, rfl⟩ := hR h
      exact v_iret C hQ dX5_length_29
set_option maxHeartbeats 4000000 in
set_option maxRecDepth 100000 in
theorem Pf_steps_ok (l : Launch) {G : GG} (hI : IG G) {M M' : Mem} {v1 : Int32} {v2 : Int32} {r : Int32} (h : Pf_steps v1 v2 M = some (r, M')) : Sp l G yX5_steps cX5_steps 3 (some .int) 6 144 [.ref (G.2.1 0), .int v1, .int v2] M (some (.int r)) M' := by
  unfold Pf_steps at h
  refine sp_intro [some (.ref (G.2.1 0)), some (.int v1), some (.int v2)] hI (by decide) (Nat.le_of_ble_eq_true rfl) (fun _ hq => hq) (fun X _ C hQ => ?_)
  refine v_iload_n C dX5_steps_0 rfl ?_
  obtain ⟨r3, M1, c2, h⟩ := hB h
  refine v_callSi C (Pf_isStepCount_ok (xl X) C.ig c2) ml_X5_120 mb_X5_isStepCount ms_X5_isStepCount rfl rfl (Nat.le_of_ble_eq_true rfl) (by decide) (by decide) dX5_steps_1 ?_
  refine v_if_eq (tgt := 14) C dX5_steps_4 (by decide) (fun q => ?_) (fun q => ?_)
  · replace h := hT q h
    refine v_iconst (v := (-1)) C dX5_steps_14 (by decide) ?_
    obtain ⟨rfl, rfl⟩ := hR h
    exact v_iret C hQ dX5_steps_15
  · replace h := hF q h
    refine v_iload_n C dX5_steps_7 rfl ?_
    obtain ⟨r6, M4, c5, h⟩ := hB h
    refine v_callSi C (Pf_isSide_ok (xl X) C.ig c5) ml_X5_138 mb_X5_isSide ms_X5_isSide rfl rfl (Nat.le_of_ble_eq_true rfl) (by decide) (by decide) dX5_steps_8 ?_
    refine v_if_ne (tgt := 16) C dX5_steps_11 (by decide) (fun q => ?_) (fun q => ?_)
    · replace h := hF q h
      refine v_iload_n C dX5_steps_16 rfl ?_
      refine v_if_ne (tgt := 35) C dX5_steps_17 (by decide) (fun q => ?_) (fun q => ?_)
      · replace h := hF q h
        refine v_aload_n C dX5_steps_35 rfl ?_
        refine v_getr (j := 22) C fk_X5_41 rfl dX5_steps_36 ?_
        refine v_aload_n C dX5_steps_39 rfl ?_
        refine v_getr (j := 5) C fk_X5_19 rfl dX5_steps_40 ?_
        refine v_iload_n C dX5_steps_43 rfl ?_
        obtain ⟨r9, M7, c8, h⟩ := hB h
        refine v_callVi C (Un_goersOf_ok (xl X) C.ig c8) ml_X5_144 mb_X4_goersOf mv_X4_goersOf rfl rfl rfl (Nat.le_of_ble_eq_true rfl) (by decide) (by decide) dX5_steps_44 ?_
        obtain ⟨rfl, rfl⟩ := hR h
        exact v_iret C hQ dX5_steps_47
      · replace h := hT q h
        refine v_aload_n C dX5_steps_20 rfl ?_
        refine v_getr (j := 22) C fk_X5_41 rfl dX5_steps_21 ?_
        refine v_aload_n C dX5_steps_24 rfl ?_
        refine v_getr (j := 5) C fk_X5_19 rfl dX5_steps_25 ?_
        refine v_iload_n C dX5_steps_28 rfl ?_
        obtain ⟨r12, M10, c11, h⟩ := hB h
        refine v_callVi C (Un_stepsOf_ok (xl X) C.ig c11) ml_X5_141 mb_X4_stepsOf mv_X4_stepsOf rfl rfl rfl (Nat.le_of_ble_eq_true rfl) (by decide) (by decide) dX5_steps_29 ?_
        refine v_goto (tgt := 47) C dX5_steps_32 (by decide) ?_
        obtain ⟨rfl, rfl⟩ := hR h
        exact v_iret C hQ dX5_steps_47
    · replace h := hT q h
      refine v_iconst (v := (-1)) C dX5_steps_14 (by decide) ?_
      obtain ⟨rfl, rfl⟩ := hR h
      exact v_iret C hQ dX5_steps_15
set_option maxHeartbeats 4000000 in
set_option maxRecDepth 100000 in
theorem Pf_go_ok (l : Launch) {G : GG} (hI : IG G) {M M' : Mem} {v1 : Int32} {v2 : Int32} {r : Int32} (h : Pf_go v1 v2 M = some (r, M')) : Sp l G yX5_go cX5_go 3 (some .int) 5 122 [.ref (G.2.1 0), .int v1, .int v2] M (some (.int r)) M' := by
  unfold Pf_go at h
  refine sp_intro [some (.ref (G.2.1 0)), some (.int v1), some (.int v2)] hI (by decide) (Nat.le_of_ble_eq_true rfl) (fun _ hq => hq) (fun X _ C hQ => ?_)
  refine v_iload_n C dX5_go_0 rfl ?_
  obtain ⟨r3, M1, c2, h⟩ := hB h
  refine v_callSi C (Pf_isStepCount_ok (xl X) C.ig c2) ml_X5_120 mb_X5_isStepCount ms_X5_isStepCount rfl rfl (Nat.le_of_ble_eq_true rfl) (by decide) (by decide) dX5_go_1 ?_
  refine v_if_eq (tgt := 22) C dX5_go_4 (by decide) (fun q => ?_) (fun q => ?_)
  · replace h := hT q h
    refine v_iconst (v := (-1)) C dX5_go_22 (by decide) ?_
    obtain ⟨rfl, rfl⟩ := hR h
    exact v_iret C hQ dX5_go_23
  · replace h := hF q h
    refine v_aload_n C dX5_go_7 rfl ?_
    refine v_getr (j := 22) C fk_X5_41 rfl dX5_go_8 ?_
    refine v_aload_n C dX5_go_11 rfl ?_
    refine v_getr (j := 5) C fk_X5_19 rfl dX5_go_12 ?_
    refine v_iload_n C dX5_go_15 rfl ?_
    obtain ⟨r6, M4, c5, h⟩ := hB h
    refine v_callVi C (Un_takeColumn_ok (xl X) C.ig c5) ml_X5_147 mb_X4_takeColumn mv_X4_takeColumn rfl rfl rfl (Nat.le_of_ble_eq_true rfl) (by decide) (by decide) dX5_go_16 ?_
    refine v_if_ne (tgt := 24) C dX5_go_19 (by decide) (fun q => ?_) (fun q => ?_)
    · replace h := hF q h
      refine v_aload_n C dX5_go_24 rfl ?_
      refine v_getr (j := 22) C fk_X5_41 rfl dX5_go_25 ?_
      refine v_aload_n C dX5_go_28 rfl ?_
      refine v_getr (j := 5) C fk_X5_19 rfl dX5_go_29 ?_
      refine v_iload_n C dX5_go_32 rfl ?_
      obtain ⟨r9, M7, c8, h⟩ := hB h
      refine v_callVi C (Un_columnCanGo_ok (xl X) C.ig c8) ml_X5_151 mb_X4_columnCanGo mv_X4_columnCanGo rfl rfl rfl (Nat.le_of_ble_eq_true rfl) (by decide) (by decide) dX5_go_33 ?_
      refine v_if_eq (tgt := 43) C dX5_go_36 (by decide) (fun q => ?_) (fun q => ?_)
      · replace h := hT q h
        refine v_iconst (v := 0) C dX5_go_43 (by decide) ?_
        obtain ⟨rfl, rfl⟩ := hR h
        exact v_iret C hQ dX5_go_44
      · replace h := hF q h
        refine v_iconst (v := 1) C dX5_go_39 (by decide) ?_
        refine v_goto (tgt := 44) C dX5_go_40 (by decide) ?_
        obtain ⟨rfl, rfl⟩ := hR h
        exact v_iret C hQ dX5_go_44
    · replace h := hT q h
      refine v_iconst (v := (-1)) C dX5_go_22 (by decide) ?_
      obtain ⟨rfl, rfl⟩ := hR h
      exact v_iret C hQ dX5_go_23
set_option maxHeartbeats 4000000 in
set_option maxRecDepth 100000 in
theorem Pf_maySet_ok (l : Launch) {G : GG} (hI : IG G) {M M' : Mem} {v1 : Int32} {v2 : Int32} {v3 : Int32} {v4 : Int32} {r : Int32} (h : Pf_maySet v1 v2 v3 v4 M = some (r, M')) : Sp l G yX5_maySet cX5_maySet 5 (some .boolean) 1 23 [.ref (G.2.1 0), .int v1, .int v2, .int v3, .int v4] M (some (.int r)) M' := by
  unfold Pf_maySet at h
  refine sp_intro [some (.ref (G.2.1 0)), some (.int v1), some (.int v2), some (.int v3), some (.int v4)] hI (by decide) (Nat.le_of_ble_eq_true rfl) (fun _ hq => hq) (fun X _ C hQ => ?_)
  refine v_aload_n C dX5_maySet_0 rfl ?_
  refine v_getr (j := 5) C fk_X5_19 rfl dX5_maySet_1 ?_
  refine v_iload_n C dX5_maySet_4 rfl ?_
  refine v_iload_n C dX5_maySet_5 rfl ?_
  refine v_iload_n C dX5_maySet_6 rfl ?_
  obtain ⟨r3, M1, c2, h⟩ := hB h
  refine v_callVi C (Pa_hasPlace_ok (xl X) C.ig c2) ml_X5_105 mb_X1_hasPlace mv_X1_hasPlace rfl rfl rfl (Nat.le_of_ble_eq_true rfl) (by decide) (by decide) dX5_maySet_7 ?_
  refine v_if_eq (tgt := 34) C dX5_maySet_10 (by decide) (fun q => ?_) (fun q => ?_)
  · replace h := hT q h
    refine v_iconst (v := 0) C dX5_maySet_34 (by decide) ?_
    obtain ⟨rfl, rfl⟩ := hR h
    exact v_zret C hQ rfl dX5_maySet_35
  · replace h := hF q h
    refine v_iload C dX5_maySet_13 rfl ?_
    refine v_if_lt (tgt := 34) C dX5_maySet_15 (by decide) (fun q => ?_) (fun q => ?_)
    · replace h := hT q h
      refine v_iconst (v := 0) C dX5_maySet_34 (by decide) ?_
      obtain ⟨rfl, rfl⟩ := hR h
      exact v_zret C hQ rfl dX5_maySet_35
    · replace h := hF q h
      refine v_iload C dX5_maySet_18 rfl ?_
      refine v_aload_n C dX5_maySet_20 rfl ?_
      refine v_getr (j := 5) C fk_X5_19 rfl dX5_maySet_21 ?_
      refine v_geti C fk_X5_88 rfl dX5_maySet_24 ?_
      refine v_icmp_ge (tgt := 34) C dX5_maySet_27 (by decide) (fun q => ?_) (fun q => ?_)
      · replace h := hT q h
        refine v_iconst (v := 0) C dX5_maySet_34 (by decide) ?_
        obtain ⟨rfl, rfl⟩ := hR h
        exact v_zret C hQ rfl dX5_maySet_35
      · replace h := hF q h
        refine v_iconst (v := 1) C dX5_maySet_30 (by decide) ?_
        refine v_goto (tgt := 35) C dX5_maySet_31 (by decide) ?_
        obtain ⟨rfl, rfl⟩ := hR h
        exact v_zret C hQ rfl dX5_maySet_35
