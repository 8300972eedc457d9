set_option maxHeartbeats 4000000 in
set_option maxRecDepth 100000 in
theorem Pf_set_ok (l : Launch) {G : GG} (hI : IG G) {M M' : Mem} {v1 : Int32} {v2 : Int32} {v3 : Int32} {v4 : Int32} {r : Int32} (h : Pf_set v1 v2 v3 v4 M = some (r, M')) : Sp l G yX5_set cX5_set 6 (some .int) 2 47 [.ref (G.2.1 0), .int v1, .int v2, .int v3, .int v4] M (some (.int r)) M' := by
  unfold Pf_set at h
  refine sp_intro [some (.ref (G.2.1 0)), some (.int v1), some (.int v2), some (.int v3), some (.int v4), none] hI (by decide) (Nat.le_of_ble_eq_true rfl) (fun _ hq => hq) (fun X _ C hQ => ?_)
  refine v_aload_n C dX5_set_0 rfl ?_
  refine v_iload_n C dX5_set_1 rfl ?_
  refine v_iload_n C dX5_set_2 rfl ?_
  refine v_iload_n C dX5_set_3 rfl ?_
  refine v_iload C dX5_set_4 rfl ?_
  obtain ⟨r3, M1, c2, h⟩ := hB h
  refine v_callVi C (Pf_maySet_ok (xl X) C.ig c2) ml_X5_154 mb_X5_maySet mv_X5_maySet rfl rfl rfl (Nat.le_of_ble_eq_true rfl) (by decide) (by decide) dX5_set_6 ?_
  refine v_if_ne (tgt := 14) C dX5_set_9 (by decide) (fun q => ?_) (fun q => ?_)
  · replace h := hF q h
    refine v_aload_n C dX5_set_14 rfl ?_
    refine v_getr (j := 5) C fk_X5_19 rfl dX5_set_15 ?_
    refine v_iload_n C dX5_set_18 rfl ?_
    refine v_iload_n C dX5_set_19 rfl ?_
    refine v_iload_n C dX5_set_20 rfl ?_
    obtain ⟨r6, M4, c5, h⟩ := hB h
    refine v_callVi C (Pa_valueAt_ok (xl X) C.ig c5) ml_X5_109 mb_X1_valueAt mv_X1_valueAt rfl rfl rfl (Nat.le_of_ble_eq_true rfl) (by decide) (by decide) dX5_set_21 ?_
    refine v_istore C dX5_set_24 (by decide) rfl ?_
    refine v_aload_n C dX5_set_26 rfl ?_
    refine v_getr (j := 5) C fk_X5_19 rfl dX5_set_27 ?_
    refine v_iload_n C dX5_set_30 rfl ?_
    refine v_iload_n C dX5_set_31 rfl ?_
    refine v_iload_n C dX5_set_32 rfl ?_
    refine v_iload C dX5_set_33 rfl ?_
    obtain ⟨M7, c8, h⟩ := hV h
    refine v_callVv C (Pa_putValue_ok (xl X) C.ig c8) ml_X5_158 mb_X1_putValue mv_X1_putValue rfl rfl rfl (Nat.le_of_ble_eq_true rfl) (by decide) (by decide) dX5_set_35 ?_
    refine v_iload C dX5_set_38 rfl ?_
    obtain ⟨rfl, rfl⟩ := hR h
    exact v_iret C hQ dX5_set_40
  · replace h := hT q h
    refine v_iconst (v := (-1)) C dX5_set_12 (by decide) ?_
    obtain ⟨rfl, rfl⟩ := hR h
    exact v_iret C hQ dX5_set_13
set_option maxHeartbeats 4000000 in
set_option maxRecDepth 100000 in
theorem Pf_open_ok (l : Launch) {G : GG} (hI : IG G) {M M' : Mem} {v1 : Int32} {r : Int32} (h : Pf_open v1 M = some (r, M')) : Sp l G yX5_open cX5_open 2 (some .int) 3 64 [.ref (G.2.1 0), .int v1] M (some (.int r)) M' := by
  unfold Pf_open at h
  refine sp_intro [some (.ref (G.2.1 0)), some (.int v1)] hI (by decide) (Nat.le_of_ble_eq_true rfl) (fun _ hq => hq) (fun X _ C hQ => ?_)
  refine v_iload_n C dX5_open_0 rfl ?_
  obtain ⟨r3, M1, c2, h⟩ := hB h
  refine v_callSi C (Pf_isSide_ok (xl X) C.ig c2) ml_X5_138 mb_X5_isSide ms_X5_isSide rfl rfl (Nat.le_of_ble_eq_true rfl) (by decide) (by decide) dX5_open_1 ?_
  refine v_if_ne (tgt := 9) C dX5_open_4 (by decide) (fun q => ?_) (fun q => ?_)
  · replace h := hF q h
    refine v_aload_n C dX5_open_9 rfl ?_
    refine v_getr (j := 5) C fk_X5_19 rfl dX5_open_10 ?_
    refine v_iload_n C dX5_open_13 rfl ?_
    obtain ⟨r6, M4, c5, h⟩ := hB h
    refine v_callVi C (Pa_linesOf_ok (xl X) C.ig c5) ml_X5_162 mb_X1_linesOf mv_X1_linesOf rfl rfl rfl (Nat.le_of_ble_eq_true rfl) (by decide) (by decide) dX5_open_14 ?_
    refine v_iconst (v := 4) C dX5_open_17 (by decide) ?_
    refine v_icmp_lt (tgt := 24) C dX5_open_18 (by decide) (fun q => ?_) (fun q => ?_)
    · replace h := hT q h
      refine v_aload_n C dX5_open_24 rfl ?_
      refine v_getr (j := 5) C fk_X5_19 rfl dX5_open_25 ?_
      refine v_iload_n C dX5_open_28 rfl ?_
      obtain ⟨M7, c8, h⟩ := hV h
      refine v_callVv C (Pa_addLine_ok (xl X) C.ig c8) ml_X5_166 mb_X1_addLine mv_X1_addLine rfl rfl rfl (Nat.le_of_ble_eq_true rfl) (by decide) (by decide) dX5_open_29 ?_
      refine v_aload_n C dX5_open_32 rfl ?_
      refine v_getr (j := 5) C fk_X5_19 rfl dX5_open_33 ?_
      refine v_iload_n C dX5_open_36 rfl ?_
      obtain ⟨r11, M9, c10, h⟩ := hB h
      refine v_callVi C (Pa_linesOf_ok (xl X) C.ig c10) ml_X5_162 mb_X1_linesOf mv_X1_linesOf rfl rfl rfl (Nat.le_of_ble_eq_true rfl) (by decide) (by decide) dX5_open_37 ?_
      obtain ⟨rfl, rfl⟩ := hR h
      exact v_iret C hQ dX5_open_40
    · replace h := hF q h
      refine v_bipush (v := (-3)) C dX5_open_21 (by decide) ?_
      obtain ⟨rfl, rfl⟩ := hR h
      exact v_iret C hQ dX5_open_23
  · replace h := hT q h
    refine v_iconst (v := (-1)) C dX5_open_7 (by decide) ?_
    obtain ⟨rfl, rfl⟩ := hR h
    exact v_iret C hQ dX5_open_8
set_option maxHeartbeats 4000000 in
set_option maxRecDepth 100000 in
theorem Pf_cut_ok (l : Launch) {G : GG} (hI : IG G) {M M' : Mem} {v1 : Int32} {v2 : Int32} {r : Int32} (h : Pf_cut v1 v2 M = some (r, M')) : Sp l G yX5_cut cX5_cut 4 (some .int) 3 72 [.ref (G.2.1 0), .int v1, .int v2] M (some (.int r)) M' := by
  unfold Pf_cut at h
  refine sp_intro [some (.ref (G.2.1 0)), some (.int v1), some (.int v2), none] hI (by decide) (Nat.le_of_ble_eq_true rfl) (fun _ hq => hq) (fun X _ C hQ => ?_)
  refine v_iload_n C dX5_cut_0 rfl ?_
  refine v_if_lt (tgt := 30) C dX5_cut_1 (by decide) (fun q => ?_) (fun q => ?_)
  · replace h := hT q h
    refine v_iconst (v := (-1)) C dX5_cut_30 (by decide) ?_
    obtain ⟨rfl, rfl⟩ := hR h
    exact v_iret C hQ dX5_cut_31
  · replace h := hF q h
    refine v_iload_n C dX5_cut_4 rfl ?_
    refine v_aload_n C dX5_cut_5 rfl ?_
    refine v_getr (j := 5) C fk_X5_19 rfl dX5_cut_6 ?_
    refine v_geti C fk_X5_82 rfl dX5_cut_9 ?_
    refine v_icmp_gt (tgt := 30) C dX5_cut_12 (by decide) (fun q => ?_) (fun q => ?_)
    · replace h := hT q h
      refine v_iconst (v := (-1)) C dX5_cut_30 (by decide) ?_
      obtain ⟨rfl, rfl⟩ := hR h
      exact v_iret C hQ dX5_cut_31
    · replace h := hF q h
      refine v_iload_n C dX5_cut_15 rfl ?_
      refine v_if_lt (tgt := 30) C dX5_cut_16 (by decide) (fun q => ?_) (fun q => ?_)
      · replace h := hT q h
        refine v_iconst (v := (-1)) C dX5_cut_30 (by decide) ?_
        obtain ⟨rfl, rfl⟩ := hR h
        exact v_iret C hQ dX5_cut_31
      · replace h := hF q h
        refine v_iload_n C dX5_cut_19 rfl ?_
        refine v_aload_n C dX5_cut_20 rfl ?_
        refine v_getr (j := 5) C fk_X5_19 rfl dX5_cut_21 ?_
        refine v_geti C fk_X5_85 rfl dX5_cut_24 ?_
        refine v_icmp_le (tgt := 32) C dX5_cut_27 (by decide) (fun q => ?_) (fun q => ?_)
        · replace h := hT q h
          refine v_aload_n C dX5_cut_32 rfl ?_
          refine v_getr (j := 5) C fk_X5_19 rfl dX5_cut_33 ?_
          obtain ⟨r3, M1, c2, h⟩ := hB h
          refine v_callVi C (Pa_shape_ok (xl X) C.ig c2) ml_X5_170 mb_X1_shape mv_X1_shape rfl rfl rfl (Nat.le_of_ble_eq_true rfl) (by decide) (by decide) dX5_cut_36 ?_
          refine v_istore_n C dX5_cut_39 (by decide) rfl ?_
          refine v_aload_n C dX5_cut_40 rfl ?_
          refine v_getr (j := 5) C fk_X5_19 rfl dX5_cut_41 ?_
          refine v_iload_n C dX5_cut_44 rfl ?_
          refine v_iload_n C dX5_cut_45 rfl ?_
          obtain ⟨M4, c5, h⟩ := hV h
          refine v_callVv C (Pa_shrinkTo_ok (xl X) C.ig c5) ml_X5_174 mb_X1_shrinkTo mv_X1_shrinkTo rfl rfl rfl (Nat.le_of_ble_eq_true rfl) (by decide) (by decide) dX5_cut_46 ?_
          refine v_iload_n C dX5_cut_49 rfl ?_
          obtain ⟨rfl, rfl⟩ := hR h
          exact v_iret C hQ dX5_cut_50
        · replace h := hF q h
          refine v_iconst (v := (-1)) C dX5_cut_30 (by decide) ?_
          obtain ⟨rfl, rfl⟩ := hR h
          exact v_iret C hQ dX5_cut_31
set_option maxHeartbeats 4000000 in
set_option maxRecDepth 100000 in
theorem Pf_isFactor_ok (l : Launch) {G : GG} (hI : IG G) {M M' : Mem} {v1 : Int32} {r : Int32} (h : Pf_isFactor v1 M = some (r, M')) : Sp l G yX5_isFactor cX5_isFactor 2 (some .boolean) 0 0 [.ref (G.2.1 0), .int v1] M (some (.int r)) M' := by
  unfold Pf_isFactor at h
  refine sp_intro [some (.ref (G.2.1 0)), some (.int v1)] hI (by decide) (Nat.le_of_ble_eq_true rfl) (fun _ hq => hq) (fun X _ C hQ => ?_)
  refine v_iload_n C dX5_isFactor_0 rfl ?_
  refine v_iconst (v := 1) C dX5_isFactor_1 (by decide) ?_
  refine v_icmp_lt (tgt := 20) C dX5_isFactor_2 (by decide) (fun q => ?_) (fun q => ?_)
  · replace h := hT q h
    refine v_iconst (v := 0) C dX5_isFactor_20 (by decide) ?_
    obtain ⟨rfl, rfl⟩ := hR h
    exact v_zret C hQ rfl dX5_isFactor_21
  · replace h := hF q h
    refine v_iload_n C dX5_isFactor_5 rfl ?_
    refine v_aload_n C dX5_isFactor_6 rfl ?_
    refine v_getr (j := 5) C fk_X5_19 rfl dX5_isFactor_7 ?_
    refine v_geti C fk_X5_88 rfl dX5_isFactor_10 ?_
    refine v_icmp_ge (tgt := 20) C dX5_isFactor_13 (by decide) (fun q => ?_) (fun q => ?_)
    · replace h := hT q h
      refine v_iconst (v := 0) C dX5_isFactor_20 (by decide) ?_
      obtain ⟨rfl, rfl⟩ := hR h
      exact v_zret C hQ rfl dX5_isFactor_21
    · replace h := hF q h
      refine v_iconst (v := 1) C dX5_isFactor_16 (by decide) ?_
      refine v_goto (tgt := 21) C dX5_isFactor_17 (by decide) ?_
      obtain ⟨rfl, rfl⟩ := hR h
      exact v_zret C hQ rfl dX5_isFactor_21
set_option maxHeartbeats 4000000 in
set_option maxRecDepth 100000 in
theorem Pf_mayMix_ok (l : Launch) {G : GG} (hI : IG G) {M M' : Mem} {v1 : Int32} {v2 : Int32} {v3 : Int32} {v4 : Int32} {r : Int32} (h : Pf_mayMix v1 v2 v3 v4 M = some (r, M')) : Sp l G yX5_mayMix cX5_mayMix 5 (some .boolean) 2 43 [.ref (G.2.1 0), .int v1, .int v2, .int v3, .int v4] M (some (.int r)) M' := by
  unfold Pf_mayMix at h
  refine sp_intro [some (.ref (G.2.1 0)), some (.int v1), some (.int v2), some (.int v3), some (.int v4)] hI (by decide) (Nat.le_of_ble_eq_true rfl) (fun _ hq => hq) (fun X _ C hQ => ?_)
  refine v_iload_n C dX5_mayMix_0 rfl ?_
  refine v_iload_n C dX5_mayMix_1 rfl ?_
  refine v_icmp_eq (tgt := 42) C dX5_mayMix_2 (by decide) (fun q => ?_) (fun q => ?_)
  · replace h := hT q h
    refine v_iconst (v := 0) C dX5_mayMix_42 (by decide) ?_
    obtain ⟨rfl, rfl⟩ := hR h
    exact v_zret C hQ rfl dX5_mayMix_43
  · replace h := hF q h
    refine v_aload_n C dX5_mayMix_5 rfl ?_
    refine v_getr (j := 5) C fk_X5_19 rfl dX5_mayMix_6 ?_
    refine v_iload_n C dX5_mayMix_9 rfl ?_
    refine v_iload_n C dX5_mayMix_10 rfl ?_
    obtain ⟨r3, M1, c2, h⟩ := hB h
    refine v_callVi C (Pa_hasLine_ok (xl X) C.ig c2) ml_X5_184 mb_X1_hasLine mv_X1_hasLine rfl rfl rfl (Nat.le_of_ble_eq_true rfl) (by decide) (by decide) dX5_mayMix_11 ?_
    refine v_if_eq (tgt := 42) C dX5_mayMix_14 (by decide) (fun q => ?_) (fun q => ?_)
    · replace h := hT q h
      refine v_iconst (v := 0) C dX5_mayMix_42 (by decide) ?_
      obtain ⟨rfl, rfl⟩ := hR h
      exact v_zret C hQ rfl dX5_mayMix_43
    · replace h := hF q h
      refine v_aload_n C dX5_mayMix_17 rfl ?_
      refine v_getr (j := 5) C fk_X5_19 rfl dX5_mayMix_18 ?_
      refine v_iload_n C dX5_mayMix_21 rfl ?_
      refine v_iload_n C dX5_mayMix_22 rfl ?_
      obtain ⟨r6, M4, c5, h⟩ := hB h
      refine v_callVi C (Pa_hasLine_ok (xl X) C.ig c5) ml_X5_184 mb_X1_hasLine mv_X1_hasLine rfl rfl rfl (Nat.le_of_ble_eq_true rfl) (by decide) (by decide) dX5_mayMix_23 ?_
      refine v_if_eq (tgt := 42) C dX5_mayMix_26 (by decide) (fun q => ?_) (fun q => ?_)
      · replace h := hT q h
        refine v_iconst (v := 0) C dX5_mayMix_42 (by decide) ?_
        obtain ⟨rfl, rfl⟩ := hR h
        exact v_zret C hQ rfl dX5_mayMix_43
      · replace h := hF q h
        refine v_aload_n C dX5_mayMix_29 rfl ?_
        refine v_iload C dX5_mayMix_30 rfl ?_
        obtain ⟨r9, M7, c8, h⟩ := hB h
        refine v_callVi C (Pf_isFactor_ok (xl X) C.ig c8) ml_X5_188 mb_X5_isFactor mv_X5_isFactor rfl rfl rfl (Nat.le_of_ble_eq_true rfl) (by decide) (by decide) dX5_mayMix_32 ?_
        refine v_if_eq (tgt := 42) C dX5_mayMix_35 (by decide) (fun q => ?_) (fun q => ?_)
        · replace h := hT q h
          refine v_iconst (v := 0) C dX5_mayMix_42 (by decide) ?_
          obtain ⟨rfl, rfl⟩ := hR h
          exact v_zret C hQ rfl dX5_mayMix_43
        · replace h := hF q h
          refine v_iconst (v := 1) C dX5_mayMix_38 (by decide) ?_
          refine v_goto (tgt := 43) C dX5_mayMix_39 (by decide) ?_
          obtain ⟨rfl, rfl⟩ := hR h
          exact v_zret C hQ rfl dX5_mayMix_43
set_option maxHeartbeats 4000000 in
set_option maxRecDepth 100000 in
theorem Pf_mix_ok (l : Launch) {G : GG} (hI : IG G) {M M' : Mem} {v1 : Int32} {v2 : Int32} {v3 : Int32} {v4 : Int32} {r : Int32} (h : Pf_mix v1 v2 v3 v4 M = some (r, M')) : Sp l G yX5_mix cX5_mix 5 (some .int) 4 99 [.ref (G.2.1 0), .int v1, .int v2, .int v3, .int v4] M (some (.int r)) M' := by
  unfold Pf_mix at h
  refine sp_intro [some (.ref (G.2.1 0)), some (.int v1), some (.int v2), some (.int v3), some (.int v4)] hI (by decide) (Nat.le_of_ble_eq_true rfl) (fun _ hq => hq) (fun X _ C hQ => ?_)
  refine v_aload_n C dX5_mix_0 rfl ?_
  refine v_iload_n C dX5_mix_1 rfl ?_
  refine v_iload_n C dX5_mix_2 rfl ?_
  refine v_iload_n C dX5_mix_3 rfl ?_
  refine v_iload C dX5_mix_4 rfl ?_
  obtain ⟨r3, M1, c2, h⟩ := hB h
  refine v_callVi C (Pf_mayMix_ok (xl X) C.ig c2) ml_X5_178 mb_X5_mayMix mv_X5_mayMix rfl rfl rfl (Nat.le_of_ble_eq_true rfl) (by decide) (by decide) dX5_mix_6 ?_
  refine v_if_ne (tgt := 14) C dX5_mix_9 (by decide) (fun q => ?_) (fun q => ?_)
  · replace h := hF q h
    refine v_aload_n C dX5_mix_14 rfl ?_
    refine v_getr (j := 5) C fk_X5_19 rfl dX5_mix_15 ?_
    refine v_iload_n C dX5_mix_18 rfl ?_
    refine v_iload_n C dX5_mix_19 rfl ?_
    refine v_iload_n C dX5_mix_20 rfl ?_
    refine v_iload C dX5_mix_21 rfl ?_
    obtain ⟨M4, c5, h⟩ := hV h
    refine v_callVv C (Pa_mixLines_ok (xl X) C.ig c5) ml_X5_181 mb_X1_mixLines mv_X1_mixLines rfl rfl rfl (Nat.le_of_ble_eq_true rfl) (by decide) (by decide) dX5_mix_23 ?_
    refine v_iconst (v := 1) C dX5_mix_26 (by decide) ?_
    obtain ⟨rfl, rfl⟩ := hR h
    exact v_iret C hQ dX5_mix_27
  · replace h := hT q h
    refine v_iconst (v := (-1)) C dX5_mix_12 (by decide) ?_
    obtain ⟨rfl, rfl⟩ := hR h
    exact v_iret C hQ dX5_mix_13
set_option maxHeartbeats 4000000 in
set_option maxRecDepth 100000 in
theorem Pf_times_ok (l : Launch) {G : GG} (hI : IG G) {M M' : Mem} {v1 : Int32} {v2 : Int32} {v3 : Int32} {r : Int32} (h : Pf_times v1 v2 v3 M = some (r, M')) : Sp l G yX5_times cX5_times 4 (some .int) 4 97 [.ref (G.2.1 0), .int v1, .int v2, .int v3] M (some (.int r)) M' := by
  unfold Pf_times at h
  refine sp_intro [some (.ref (G.2.1 0)), some (.int v1), some (.int v2), some (.int v3)] hI (by decide) (Nat.le_of_ble_eq_true rfl) (fun _ hq => hq) (fun X _ C hQ => ?_)
  refine v_aload_n C dX5_times_0 rfl ?_
  refine v_getr (j := 5) C fk_X5_19 rfl dX5_times_1 ?_
  refine v_iload_n C dX5_times_4 rfl ?_
  refine v_iload_n C dX5_times_5 rfl ?_
  obtain ⟨r3, M1, c2, h⟩ := hB h
  refine v_callVi C (Pa_hasLine_ok (xl X) C.ig c2) ml_X5_184 mb_X1_hasLine mv_X1_hasLine rfl rfl rfl (Nat.le_of_ble_eq_true rfl) (by decide) (by decide) dX5_times_6 ?_
  refine v_if_eq (tgt := 20) C dX5_times_9 (by decide) (fun q => ?_) (fun q => ?_)
  · replace h := hT q h
    refine v_iconst (v := (-1)) C dX5_times_20 (by decide) ?_
    obtain ⟨rfl, rfl⟩ := hR h
    exact v_iret C hQ dX5_times_21
  · replace h := hF q h
    refine v_aload_n C dX5_times_12 rfl ?_
    refine v_iload_n C dX5_times_13 rfl ?_
    obtain ⟨r6, M4, c5, h⟩ := hB h
    refine v_callVi C (Pf_isFactor_ok (xl X) C.ig c5) ml_X5_188 mb_X5_isFactor mv_X5_isFactor rfl rfl rfl (Nat.le_of_ble_eq_true rfl) (by decide) (by decide) dX5_times_14 ?_
    refine v_if_ne (tgt := 22) C dX5_times_17 (by decide) (fun q => ?_) (fun q => ?_)
    · replace h := hF q h
      refine v_aload_n C dX5_times_22 rfl ?_
      refine v_getr (j := 5) C fk_X5_19 rfl dX5_times_23 ?_
      refine v_iload_n C dX5_times_26 rfl ?_
      refine v_iload_n C dX5_times_27 rfl ?_
      refine v_iload_n C dX5_times_28 rfl ?_
      obtain ⟨M7, c8, h⟩ := hV h
      refine v_callVv C (Pa_multiplyLine_ok (xl X) C.ig c8) ml_X5_191 mb_X1_multiplyLine mv_X1_multiplyLine rfl rfl rfl (Nat.le_of_ble_eq_true rfl) (by decide) (by decide) dX5_times_29 ?_
      refine v_iconst (v := 1) C dX5_times_32 (by decide) ?_
      obtain ⟨rfl, rfl⟩ := hR h
      exact v_iret C hQ dX5_times_33
    · replace h := hT q h
      refine v_iconst (v := (-1)) C dX5_times_20 (by decide) ?_
      obtain ⟨rfl, rfl⟩ := hR h
      exact v_iret C hQ dX5_times_21
set_option maxHeartbeats 4000000 in
set_option maxRecDepth 100000 in
theorem Pf_swap_ok (l : Launch) {G : GG} (hI : IG G) {M M' : Mem} {v1 : Int32} {v2 : Int32} {v3 : Int32} {r : Int32} (h : Pf_swap v1 v2 v3 M = some (r, M')) : Sp l G yX5_swap cX5_swap 4 (some .int) 4 98 [.ref (G.2.1 0), .int v1, .int v2, .int v3] M (some (.int r)) M' := by
  unfold Pf_swap at h
  refine sp_intro [some (.ref (G.2.1 0)), some (.int v1), some (.int v2), some (.int v3)] hI (by decide) (Nat.le_of_ble_eq_true rfl) (fun _ hq => hq) (fun X _ C hQ => ?_)
  refine v_aload_n C dX5_swap_0 rfl ?_
  refine v_getr (j := 5) C fk_X5_19 rfl dX5_swap_1 ?_
  refine v_iload_n C dX5_swap_4 rfl ?_
  refine v_iload_n C dX5_swap_5 rfl ?_
  obtain ⟨r3, M1, c2, h⟩ := hB h
  refine v_callVi C (Pa_hasLine_ok (xl X) C.ig c2) ml_X5_184 mb_X1_hasLine mv_X1_hasLine rfl rfl rfl (Nat.le_of_ble_eq_true rfl) (by decide) (by decide) dX5_swap_6 ?_
  refine v_if_eq (tgt := 24) C dX5_swap_9 (by decide) (fun q => ?_) (fun q => ?_)
  · replace h := hT q h
    refine v_iconst (v := (-1)) C dX5_swap_24 (by decide) ?_
    obtain ⟨rfl, rfl⟩ := hR h
    exact v_iret C hQ dX5_swap_25
  · replace h := hF q h
    refine v_aload_n C dX5_swap_12 rfl ?_
    refine v_getr (j := 5) C fk_X5_19 rfl dX5_swap_13 ?_
    refine v_iload_n C dX5_swap_16 rfl ?_
    refine v_iload_n C dX5_swap_17 rfl ?_
    obtain ⟨r6, M4, c5, h⟩ := hB h
    refine v_callVi C (Pa_hasLine_ok (xl X) C.ig c5) ml_X5_184 mb_X1_hasLine mv_X1_hasLine rfl rfl rfl (Nat.le_of_ble_eq_true rfl) (by decide) (by decide) dX5_swap_18 ?_
    refine v_if_ne (tgt := 26) C dX5_swap_21 (by decide) (fun q => ?_) (fun q => ?_)
    · replace h := hF q h
      refine v_aload_n C dX5_swap_26 rfl ?_
      refine v_getr (j := 5) C fk_X5_19 rfl dX5_swap_27 ?_
      refine v_iload_n C dX5_swap_30 rfl ?_
      refine v_iload_n C dX5_swap_31 rfl ?_
      refine v_iload_n C dX5_swap_32 rfl ?_
      obtain ⟨M7, c8, h⟩ := hV h
      refine v_callVv C (Pa_exchangeLines_ok (xl X) C.ig c8) ml_X5_195 mb_X1_exchangeLines mv_X1_exchangeLines rfl rfl rfl (Nat.le_of_ble_eq_true rfl) (by decide) (by decide) dX5_swap_33 ?_
      refine v_iconst (v := 1) C dX5_swap_36 (by decide) ?_
      obtain ⟨rfl, rfl⟩ := hR h
      exact v_iret C hQ dX5_swap_37
    · replace h := hT q h
      refine v_iconst (v := (-1)) C dX5_swap_24 (by decide) ?_
      obtain ⟨rfl, rfl⟩ := hR h
      exact v_iret C hQ dX5_swap_25
set_option maxHeartbeats 4000000 in
set_option maxRecDepth 100000 in
theorem Pf_mixByNumber_ok (l : Launch) {G : GG} (hI : IG G) {M M' : Mem} {v1 : Int32} {r : Int32} (h : Pf_mixByNumber v1 M = some (r, M')) : Sp l G yX5_mixByNumber cX5_mixByNumber 7 (some .boolean) 4 99 [.ref (G.2.1 0), .int v1] M (some (.int r)) M' := by
  unfold Pf_mixByNumber at h
  refine sp_intro [some (.ref (G.2.1 0)), some (.int v1), none, none, none, none, none] hI (by decide) (Nat.le_of_ble_eq_true rfl) (fun _ hq => hq) (fun X _ C hQ => ?_)
  refine v_iload_n C dX5_mixByNumber_0 rfl ?_
  refine v_iconst (v := 2) C dX5_mixByNumber_1 (by decide) ?_
  refine v_irem C dX5_mixByNumber_2 (by decide) ?_
  refine v_istore_n C dX5_mixByNumber_3 (by decide) rfl ?_
  refine v_aload_n C dX5_mixByNumber_4 rfl ?_
  refine v_getr (j := 5) C fk_X5_19 rfl dX5_mixByNumber_5 ?_
  refine v_iload_n C dX5_mixByNumber_8 rfl ?_
  obtain ⟨r3, M1, c2, h⟩ := hB h
  refine v_callVi C (Pa_linesOf_ok (xl X) C.ig c2) ml_X5_162 mb_X1_linesOf mv_X1_linesOf rfl rfl rfl (Nat.le_of_ble_eq_true rfl) (by decide) (by decide) dX5_mixByNumber_9 ?_
  refine v_istore_n C dX5_mixByNumber_12 (by decide) rfl ?_
  refine v_iload_n C dX5_mixByNumber_13 rfl ?_
  refine v_if_ne (tgt := 19) C dX5_mixByNumber_14 (by decide) (fun q => ?_) (fun q => ?_)
  · replace h := hF q h
    refine v_iload_n C dX5_mixByNumber_19 rfl ?_
    refine v_iconst (v := 2) C dX5_mixByNumber_20 (by decide) ?_
    refine v_idiv C dX5_mixByNumber_21 (by decide) ?_
    refine v_iload_n C dX5_mixByNumber_22 rfl ?_
    obtain ⟨r6, M4, c5, h⟩ := hB h
    refine v_callSi C (Pf_reduce_ok (xl X) C.ig c5) ml_X5_211 mb_X5_reduce ms_X5_reduce rfl rfl (Nat.le_of_ble_eq_true rfl) (by decide) (by decide) dX5_mixByNumber_23 ?_
    refine v_istore C dX5_mixByNumber_26 (by decide) rfl ?_
    refine v_iload_n C dX5_mixByNumber_28 rfl ?_
    refine v_bipush (v := 8) C dX5_mixByNumber_29 (by decide) ?_
    refine v_idiv C dX5_mixByNumber_31 (by decide) ?_
    refine v_iload_n C dX5_mixByNumber_32 rfl ?_
    obtain ⟨r9, M7, c8, h⟩ := hB h
    refine v_callSi C (Pf_reduce_ok (xl X) C.ig c8) ml_X5_211 mb_X5_reduce ms_X5_reduce rfl rfl (Nat.le_of_ble_eq_true rfl) (by decide) (by decide) dX5_mixByNumber_33 ?_
    refine v_istore C dX5_mixByNumber_36 (by decide) rfl ?_
    refine v_iload_n C dX5_mixByNumber_38 rfl ?_
    refine v_bipush (v := 32) C dX5_mixByNumber_39 (by decide) ?_
    refine v_idiv C dX5_mixByNumber_41 (by decide) ?_
    refine v_aload_n C dX5_mixByNumber_42 rfl ?_
    refine v_getr (j := 5) C fk_X5_19 rfl dX5_mixByNumber_43 ?_
    refine v_geti C fk_X5_88 rfl dX5_mixByNumber_46 ?_
    obtain ⟨r12, M10, c11, h⟩ := hB h
    refine v_callSi C (Pf_reduce_ok (xl X) C.ig c11) ml_X5_211 mb_X5_reduce ms_X5_reduce rfl rfl (Nat.le_of_ble_eq_true rfl) (by decide) (by decide) dX5_mixByNumber_49 ?_
    refine v_istore C dX5_mixByNumber_52 (by decide) rfl ?_
    refine v_aload_n C dX5_mixByNumber_54 rfl ?_
    refine v_iload_n C dX5_mixByNumber_55 rfl ?_
    refine v_iload C dX5_mixByNumber_56 rfl ?_
    refine v_iload C dX5_mixByNumber_58 rfl ?_
    refine v_iload C dX5_mixByNumber_60 rfl ?_
    obtain ⟨r15, M13, c14, h⟩ := hB h
    refine v_callVi C (Pf_mayMix_ok (xl X) C.ig c14) ml_X5_178 mb_X5_mayMix mv_X5_mayMix rfl rfl rfl (Nat.le_of_ble_eq_true rfl) (by decide) (by decide) dX5_mixByNumber_62 ?_
    refine v_if_ne (tgt := 70) C dX5_mixByNumber_65 (by decide) (fun q => ?_) (fun q => ?_)
    · replace h := hF q h
      refine v_aload_n C dX5_mixByNumber_70 rfl ?_
      refine v_getr (j := 5) C fk_X5_19 rfl dX5_mixByNumber_71 ?_
      refine v_iload_n C dX5_mixByNumber_74 rfl ?_
      refine v_iload C dX5_mixByNumber_75 rfl ?_
      refine v_iload C dX5_mixByNumber_77 rfl ?_
      refine v_iload C dX5_mixByNumber_79 rfl ?_
      obtain ⟨M16, c17, h⟩ := hV h
      refine v_callVv C (Pa_mixLines_ok (xl X) C.ig c17) ml_X5_181 mb_X1_mixLines mv_X1_mixLines rfl rfl rfl (Nat.le_of_ble_eq_true rfl) (by decide) (by decide) dX5_mixByNumber_81 ?_
      refine v_iconst (v := 1) C dX5_mixByNumber_84 (by decide) ?_
      obtain ⟨rfl, rfl⟩ := hR h
      exact v_zret C hQ rfl dX5_mixByNumber_85
    · replace h := hT q h
      refine v_iconst (v := 0) C dX5_mixByNumber_68 (by decide) ?_
      obtain ⟨rfl, rfl⟩ := hR h
      exact v_zret C hQ rfl dX5_mixByNumber_69
  · replace h := hT q h
    refine v_iconst (v := 0) C dX5_mixByNumber_17 (by decide) ?_
    obtain ⟨rfl, rfl⟩ := hR h
    exact v_zret C hQ rfl dX5_mixByNumber_18
set_option maxHeartbeats 4000000 in
set_option maxRecDepth 100000 in
theorem Pf_scramble_b56_ok {X : XX} {G : GG} (C : Cx X G cX5_scramble 6 RX5 5 125 (some .int)) {r : Int32} {M' : Mem} (hQ : Rt X G (some (.int r)) M') {k20 : Int32 → Int32 → Int32 → Int32 → Mem → Option (Int32 × Mem)} (H20 : ∀ (v2 : Int32) (v3 : Int32) (v4 : Int32) (v5 : Int32) (M : Mem), k20 v2 v3 v4 v5 M = some (r, M') → V X G 6 M 20 [some (.ref (G.2.1 0)), none, some (.int v2), some (.int v3), some (.int v4), some (.int v5)] []) {v2 : Int32} {v3 : Int32} {v4 : Int32} {v5 : Int32} {M : Mem}  (h : Pf_scramble_b56 k20 v2 v3 v4 v5 M = some (r, M')) : V X G 6 M 56 [some (.ref (G.2.1 0)), none, some (.int v2), some (.int v3), some (.int v4), some (.int v5)] [] := by
  unfold Pf_scramble_b56 at h
  refine v_iinc (v := 1) C dX5_scramble_56 rfl (by decide) (by decide) rfl ?_
  refine v_goto (tgt := 20) C dX5_scramble_59 (by decide) ?_
  exact v_weak [true, false, true, true, true, true] (H20 _ _ _ _ _ h)
set_option maxHeartbeats 4000000 in
set_option maxRecDepth 100000 in
theorem Pf_scramble_L20_ok {X : XX} {G : GG} (C : Cx X G cX5_scramble 6 RX5 5 125 (some .int)) {r : Int32} {M' : Mem} (hQ : Rt X G (some (.int r)) M')   : ∀ (n : Nat) (v2 : Int32) (v3 : Int32) (v4 : Int32) (v5 : Int32) (M : Mem), Pf_scramble_L20 n v2 v3 v4 v5 M = some (r, M') → V X G 6 M 20 [some (.ref (G.2.1 0)), none, some (.int v2), some (.int v3), some (.int v4), some (.int v5)] [] := by
  intro n
  induction n with
  | zero =>
    intro v2 v3 v4 v5 M h
    simp [Pf_scramble_L20] at h
  | succ n ih =>
    intro v2 v3 v4 v5 M h
    rw [Pf_scramble_L20] at h
    refine v_iload C dX5_scramble_20 rfl ?_
    refine v_iload_n C dX5_scramble_22 rfl ?_
    refine v_icmp_ge (tgt := 62) C dX5_scramble_23 (by decide) (fun q => ?_) (fun q => ?_)
    · replace h := hT q h
      refine v_iload_n C dX5_scramble_62 rfl ?_
      obtain ⟨rfl, rfl⟩ := hR h
      exact v_iret C hQ dX5_scramble_63
    · replace h := hF q h
      refine v_iload C dX5_scramble_26 rfl ?_
      refine v_ldc (v := 1103515245) C dX5_scramble_28 (tT 620 (by decide +kernel) rfl) ?_
      refine v_imul C dX5_scramble_30 ?_
      refine v_sipush (v := 12345) C dX5_scramble_31 (by decide) ?_
      refine v_iadd C dX5_scramble_34 ?_
      refine v_istore C dX5_scramble_35 (by decide) rfl ?_
      refine v_aload_n C dX5_scramble_37 rfl ?_
      refine v_iload C dX5_scramble_38 rfl ?_
      refine v_bipush (v := 16) C dX5_scramble_40 (by decide) ?_
      refine v_iushr C dX5_scramble_42 ?_
      refine v_sipush (v := 32767) C dX5_scramble_43 (by decide) ?_
      refine v_iand C dX5_scramble_46 ?_
      obtain ⟨r3, M1, c2, h⟩ := hB h
      refine v_callVi C (Pf_mixByNumber_ok (xl X) C.ig c2) ml_X5_199 mb_X5_mixByNumber mv_X5_mixByNumber rfl rfl rfl (Nat.le_of_ble_eq_true rfl) (by decide) (by decide) dX5_scramble_47 ?_
      refine v_if_eq (tgt := 56) C dX5_scramble_50 (by decide) (fun q => ?_) (fun q => ?_)
      · replace h := hT q h
        exact v_weak [true, false, true, true, true, true] (Pf_scramble_b56_ok C hQ ih h)
      · replace h := hF q h
        refine v_iinc (v := 1) C dX5_scramble_53 rfl (by decide) (by decide) rfl ?_
        exact v_weak [true, false, true, true, true, true] (Pf_scramble_b56_ok C hQ ih h)
set_option maxHeartbeats 4000000 in
set_option maxRecDepth 100000 in
theorem Pf_scramble_ok (l : Launch) {G : GG} (hI : IG G) {M M' : Mem} {v1 : Int32} {v2 : Int32} {r : Int32} (h : Pf_scramble v1 v2 M = some (r, M')) : Sp l G yX5_scramble cX5_scramble 6 (some .int) 5 125 [.ref (G.2.1 0), .int v1, .int v2] M (some (.int r)) M' := by
  unfold Pf_scramble at h
  refine sp_intro [some (.ref (G.2.1 0)), some (.int v1), some (.int v2), none, none, none] hI (by decide) (Nat.le_of_ble_eq_true rfl) (fun _ hq => hq) (fun X _ C hQ => ?_)
  refine v_iload_n C dX5_scramble_0 rfl ?_
  refine v_if_lt (tgt := 10) C dX5_scramble_1 (by decide) (fun q => ?_) (fun q => ?_)
  · replace h := hT q h
    refine v_iconst (v := (-1)) C dX5_scramble_10 (by decide) ?_
    obtain ⟨rfl, rfl⟩ := hR h
    exact v_iret C hQ dX5_scramble_11
  · replace h := hF q h
    refine v_iload_n C dX5_scramble_4 rfl ?_
    refine v_bipush (v := 100) C dX5_scramble_5 (by decide) ?_
    refine v_icmp_le (tgt := 12) C dX5_scramble_7 (by decide) (fun q => ?_) (fun q => ?_)
    · replace h := hT q h
      refine v_iconst (v := 0) C dX5_scramble_12 (by decide) ?_
      refine v_istore_n C dX5_scramble_13 (by decide) rfl ?_
      refine v_iload_n C dX5_scramble_14 rfl ?_
      refine v_istore C dX5_scramble_15 (by decide) rfl ?_
      refine v_iconst (v := 0) C dX5_scramble_17 (by decide) ?_
      refine v_istore C dX5_scramble_18 (by decide) rfl ?_
      exact v_weak [true, false, true, true, true, true] (Pf_scramble_L20_ok C hQ _ _ _ _ _ _ h)
    · replace h := hF q h
      refine v_iconst (v := (-1)) C dX5_scramble_10 (by decide) ?_
      obtain ⟨rfl, rfl⟩ := hR h
      exact v_iret C hQ dX5_scramble_11
set_option maxHeartbeats 4000000 in
set_option maxRecDepth 100000 in
theorem Pf_turn_b60_ok {X : XX} {G : GG} (C : Cx X G cX5_turn 2 RX5 2 46 (some .int)) {r : Int32} {M' : Mem} (hQ : Rt X G (some (.int r)) M')    {M : Mem}  (h : Pf_turn_b60 M = some (r, M')) : V X G 2 M 60 [some (.ref (G.2.1 0)), none] [] := by
  unfold Pf_turn_b60 at h
  refine v_aload_n C dX5_turn_60 rfl ?_
  refine v_getr (j := 5) C fk_X5_19 rfl dX5_turn_61 ?_
  obtain ⟨r3, M1, c2, h⟩ := hB h
  refine v_callVi C (Pa_shape_ok (xl X) C.ig c2) ml_X5_170 mb_X1_shape mv_X1_shape rfl rfl rfl (Nat.le_of_ble_eq_true rfl) (by decide) (by decide) dX5_turn_64 ?_
  obtain ⟨rfl, rfl⟩ := hR h
  exact v_iret C hQ dX5_turn_67
set_option maxHeartbeats 4000000 in
set_option maxRecDepth 100000 in
theorem Pf_turn_ok (l : Launch) {G : GG} (hI : IG G) {M M' : Mem} {v1 : Int32} {r : Int32} (h : Pf_turn v1 M = some (r, M')) : Sp l G yX5_turn cX5_turn 2 (some .int) 2 46 [.ref (G.2.1 0), .int v1] M (some (.int r)) M' := by
  unfold Pf_turn at h
  refine sp_intro [some (.ref (G.2.1 0)), some (.int v1)] hI (by decide) (Nat.le_of_ble_eq_true rfl) (fun _ hq => hq) (fun X _ C hQ => ?_)
  refine v_iload_n C dX5_turn_0 rfl ?_
  by_cases q1_0 : v1 = 0
  · subst q1_0
    replace h := hT rfl h
    refine v_tin (tgt := 28) C dX5_turn_1 (by decide) (by decide) rfl (by decide) ?_
    refine v_aload_n C dX5_turn_28 rfl ?_
    refine v_getr (j := 5) C fk_X5_19 rfl dX5_turn_29 ?_
    obtain ⟨M1, c2, h⟩ := hV h
    refine v_callVv C (Pa_exchangeTables_ok (xl X) C.ig c2) ml_X5_202 mb_X1_exchangeTables mv_X1_exchangeTables rfl rfl rfl (Nat.le_of_ble_eq_true rfl) (by decide) (by decide) dX5_turn_32 ?_
    refine v_goto (tgt := 60) C dX5_turn_35 (by decide) ?_
    exact v_weak [true, false] (Pf_turn_b60_ok C hQ h)
  replace h := hF q1_0 h
  by_cases q1_1 : v1 = 1
  · subst q1_1
    replace h := hT rfl h
    refine v_tin (tgt := 38) C dX5_turn_1 (by decide) (by decide) rfl (by decide) ?_
    refine v_aload_n C dX5_turn_38 rfl ?_
    refine v_getr (j := 5) C fk_X5_19 rfl dX5_turn_39 ?_
    obtain ⟨M3, c4, h⟩ := hV h
    refine v_callVv C (Pa_flip_ok (xl X) C.ig c4) ml_X5_205 mb_X1_flip mv_X1_flip rfl rfl rfl (Nat.le_of_ble_eq_true rfl) (by decide) (by decide) dX5_turn_42 ?_
    refine v_goto (tgt := 60) C dX5_turn_45 (by decide) ?_
    exact v_weak [true, false] (Pf_turn_b60_ok C hQ h)
  replace h := hF q1_1 h
  by_cases q1_2 : v1 = 2
  · subst q1_2
    replace h := hT rfl h
    refine v_tin (tgt := 48) C dX5_turn_1 (by decide) (by decide) rfl (by decide) ?_
    refine v_aload_n C dX5_turn_48 rfl ?_
    refine v_getr (j := 5) C fk_X5_19 rfl dX5_turn_49 ?_
    obtain ⟨M5, c6, h⟩ := hV h
    refine v_callVv C (Pa_shift_ok (xl X) C.ig c6) ml_X5_208 mb_X1_shift mv_X1_shift rfl rfl rfl (Nat.le_of_ble_eq_true rfl) (by decide) (by decide) dX5_turn_52 ?_
    refine v_goto (tgt := 60) C dX5_turn_55 (by decide) ?_
    exact v_weak [true, false] (Pf_turn_b60_ok C hQ h)
  replace h := hF q1_2 h
  refine v_tout (tgt := 58) C dX5_turn_1 (tsw3 q1_0 q1_1 q1_2) (by decide) ?_
  refine v_iconst (v := (-1)) C dX5_turn_58 (by decide) ?_
  obtain ⟨rfl, rfl⟩ := hR h
  exact v_iret C hQ dX5_turn_59
set_option maxHeartbeats 4000000 in
set_option maxRecDepth 100000 in
theorem Pf_isImage_ok (l : Launch) {G : GG} (hI : IG G) {M M' : Mem} {v0 : Int32} {r : Int32} (h : Pf_isImage v0 M = some (r, M')) : Sp l G yX5_isImage cX5_isImage 1 (some .boolean) 0 0 [.int v0] M (some (.int r)) M' := by
  unfold Pf_isImage at h
  refine sp_intro [some (.int v0)] hI (by decide) (Nat.le_of_ble_eq_true rfl) (fun _ hq => hq) (fun X _ C hQ => ?_)
  refine v_iload_n C dX5_isImage_0 rfl ?_
  refine v_if_lt (tgt := 13) C dX5_isImage_1 (by decide) (fun q => ?_) (fun q => ?_)
  · replace h := hT q h
    refine v_iconst (v := 0) C dX5_isImage_13 (by decide) ?_
    obtain ⟨rfl, rfl⟩ := hR h
    exact v_zret C hQ rfl dX5_isImage_14
  · replace h := hF q h
    refine v_iload_n C dX5_isImage_4 rfl ?_
    refine v_iconst (v := 2) C dX5_isImage_5 (by decide) ?_
    refine v_icmp_ge (tgt := 13) C dX5_isImage_6 (by decide) (fun q => ?_) (fun q => ?_)
    · replace h := hT q h
      refine v_iconst (v := 0) C dX5_isImage_13 (by decide) ?_
      obtain ⟨rfl, rfl⟩ := hR h
      exact v_zret C hQ rfl dX5_isImage_14
    · replace h := hF q h
      refine v_iconst (v := 1) C dX5_isImage_9 (by decide) ?_
      refine v_goto (tgt := 14) C dX5_isImage_10 (by decide) ?_
      obtain ⟨rfl, rfl⟩ := hR h
      exact v_zret C hQ rfl dX5_isImage_14
set_option maxHeartbeats 4000000 in
set_option maxRecDepth 100000 in
theorem Pf_keep_b23_ok {X : XX} {G : GG} (C : Cx X G cX5_keep 3 RX5 2 61 (some .int)) {r : Int32} {M' : Mem} (hQ : Rt X G (some (.int r)) M')   {v1 : Int32} {s0 : Int32} {M : Mem}  (h : Pf_keep_b23 v1 s0 M = some (r, M')) : V X G 3 M 23 [some (.ref (G.2.1 0)), some (.int v1), none] [.int s0] := by
  unfold Pf_keep_b23 at h
  refine v_istore_n C dX5_keep_23 (by decide) rfl ?_
  refine v_aload_n C dX5_keep_24 rfl ?_
  refine v_getr (j := 7) C fk_X5_23 rfl dX5_keep_25 ?_
  refine v_iload_n C dX5_keep_28 rfl ?_
  obtain ⟨q1, h⟩ := hG h
  refine v_aald (t := 13) C rfl (by decide) q1 (rfP q1) dX5_keep_29 ?_
  refine v_aload_n C dX5_keep_30 rfl ?_
  refine v_getr (j := 5) C fk_X5_19 rfl dX5_keep_31 ?_
  obtain ⟨M2, c3, h⟩ := hV h
  refine v_callVv C (Pa_takeFrom_ok (xl X) C.ig c3) ml_X5_75 mb_X1_takeFrom mv_X1_takeFrom (clsP q1) rfl rfl (Nat.le_of_ble_eq_true rfl) (by decide) (by decide) dX5_keep_34 ?_
  refine v_aload_n C dX5_keep_37 rfl ?_
  refine v_getr (j := 12) C fk_X5_27 rfl dX5_keep_38 ?_
  refine v_iload_n C dX5_keep_41 rfl ?_
  refine v_iconst (v := 1) C dX5_keep_42 (by decide) ?_
  obtain ⟨q4, h⟩ := hG h
  refine v_zast C rfl q4 rfl dX5_keep_43 ?_
  refine v_iload_n C dX5_keep_44 rfl ?_
  obtain ⟨rfl, rfl⟩ := hR h
  exact v_iret C hQ dX5_keep_45
set_option maxHeartbeats 4000000 in
set_option maxRecDepth 100000 in
theorem Pf_keep_ok (l : Launch) {G : GG} (hI : IG G) {M M' : Mem} {v1 : Int32} {r : Int32} (h : Pf_keep v1 M = some (r, M')) : Sp l G yX5_keep cX5_keep 3 (some .int) 2 61 [.ref (G.2.1 0), .int v1] M (some (.int r)) M' := by
  unfold Pf_keep at h
  refine sp_intro [some (.ref (G.2.1 0)), some (.int v1), none] hI (by decide) (Nat.le_of_ble_eq_true rfl) (fun _ hq => hq) (fun X _ C hQ => ?_)
  refine v_iload_n C dX5_keep_0 rfl ?_
  obtain ⟨r3, M1, c2, h⟩ := hB h
  refine v_callSi C (Pf_isImage_ok (xl X) C.ig c2) ml_X5_215 mb_X5_isImage ms_X5_isImage rfl rfl (Nat.le_of_ble_eq_true rfl) (by decide) (by decide) dX5_keep_1 ?_
  refine v_if_ne (tgt := 9) C dX5_keep_4 (by decide) (fun q => ?_) (fun q => ?_)
  · replace h := hF q h
    refine v_aload_n C dX5_keep_9 rfl ?_
    refine v_getr (j := 12) C fk_X5_27 rfl dX5_keep_10 ?_
    refine v_iload_n C dX5_keep_13 rfl ?_
    obtain ⟨q4, h⟩ := hG h
    refine v_zald C rfl q4 dX5_keep_14 ?_
    refine v_if_eq (tgt := 22) C dX5_keep_15 (by decide) (fun q => ?_) (fun q => ?_)
    · replace h := hT q h
      refine v_iconst (v := 0) C dX5_keep_22 (by decide) ?_
      exact v_weak [true, true, false] (Pf_keep_b23_ok C hQ h)
    · replace h := hF q h
      refine v_iconst (v := 1) C dX5_keep_18 (by decide) ?_
      refine v_goto (tgt := 23) C dX5_keep_19 (by decide) ?_
      exact v_weak [true, true, false] (Pf_keep_b23_ok C hQ h)
  · replace h := hT q h
    refine v_iconst (v := (-1)) C dX5_keep_7 (by decide) ?_
    obtain ⟨rfl, rfl⟩ := hR h
    exact v_iret C hQ dX5_keep_8
set_option maxHeartbeats 4000000 in
set_option maxRecDepth 100000 in
theorem Pf_back_ok (l : Launch) {G : GG} (hI : IG G) {M M' : Mem} {v1 : Int32} {r : Int32} (h : Pf_back v1 M = some (r, M')) : Sp l G yX5_back cX5_back 2 (some .int) 2 61 [.ref (G.2.1 0), .int v1] M (some (.int r)) M' := by
  unfold Pf_back at h
  refine sp_intro [some (.ref (G.2.1 0)), some (.int v1)] hI (by decide) (Nat.le_of_ble_eq_true rfl) (fun _ hq => hq) (fun X _ C hQ => ?_)
  refine v_iload_n C dX5_back_0 rfl ?_
  obtain ⟨r3, M1, c2, h⟩ := hB h
  refine v_callSi C (Pf_isImage_ok (xl X) C.ig c2) ml_X5_215 mb_X5_isImage ms_X5_isImage rfl rfl (Nat.le_of_ble_eq_true rfl) (by decide) (by decide) dX5_back_1 ?_
  refine v_if_ne (tgt := 9) C dX5_back_4 (by decide) (fun q => ?_) (fun q => ?_)
  · replace h := hF q h
    refine v_aload_n C dX5_back_9 rfl ?_
    refine v_getr (j := 12) C fk_X5_27 rfl dX5_back_10 ?_
    refine v_iload_n C dX5_back_13 rfl ?_
    obtain ⟨q4, h⟩ := hG h
    refine v_zald C rfl q4 dX5_back_14 ?_
    refine v_if_ne (tgt := 21) C dX5_back_15 (by decide) (fun q => ?_) (fun q => ?_)
    · replace h := hF q h
      refine v_aload_n C dX5_back_21 rfl ?_
      refine v_getr (j := 5) C fk_X5_19 rfl dX5_back_22 ?_
      refine v_aload_n C dX5_back_25 rfl ?_
      refine v_getr (j := 7) C fk_X5_23 rfl dX5_back_26 ?_
      refine v_iload_n C dX5_back_29 rfl ?_
      obtain ⟨q5, h⟩ := hG h
      refine v_aald (t := 13) C rfl (by decide) q5 (rfP q5) dX5_back_30 ?_
      obtain ⟨M6, c7, h⟩ := hV h
      refine v_callVv C (Pa_takeFrom_ok (xl X) C.ig c7) ml_X5_75 mb_X1_takeFrom mv_X1_takeFrom rfl rfl rfl (Nat.le_of_ble_eq_true rfl) (by decide) (by decide) dX5_back_31 ?_
      refine v_aload_n C dX5_back_34 rfl ?_
      refine v_getr (j := 5) C fk_X5_19 rfl dX5_back_35 ?_
      obtain ⟨r10, M8, c9, h⟩ := hB h
      refine v_callVi C (Pa_shape_ok (xl X) C.ig c9) ml_X5_170 mb_X1_shape mv_X1_shape rfl rfl rfl (Nat.le_of_ble_eq_true rfl) (by decide) (by decide) dX5_back_38 ?_
      obtain ⟨rfl, rfl⟩ := hR h
      exact v_iret C hQ dX5_back_41
    · replace h := hT q h
      refine v_bipush (v := (-2)) C dX5_back_18 (by decide) ?_
      obtain ⟨rfl, rfl⟩ := hR h
      exact v_iret C hQ dX5_back_20
  · replace h := hT q h
    refine v_iconst (v := (-1)) C dX5_back_7 (by decide) ?_
    obtain ⟨rfl, rfl⟩ := hR h
    exact v_iret C hQ dX5_back_8
set_option maxHeartbeats 4000000 in
set_option maxRecDepth 100000 in
theorem Pf_alike_L55_ok {X : XX} {G : GG} (C : Cx X G cX5_alike 3 RX5 6 149 (some .int)) {r : Int32} {M' : Mem} (hQ : Rt X G (some (.int r)) M')   : ∀ (n : Nat) (v2 : Int32) (M : Mem), Pf_alike_L55 n v2 M = some (r, M') → V X G 3 M 55 [some (.ref (G.2.1 0)), none, some (.int v2)] [] := by
  intro n
  induction n with
  | zero =>
    intro v2 M h
    simp [Pf_alike_L55] at h
  | succ n ih =>
    intro v2 M h
    rw [Pf_alike_L55] at h
    refine v_iload_n C dX5_alike_55 rfl ?_
    refine v_bipush (v := 45) C dX5_alike_56 (by decide) ?_
    refine v_icmp_ge (tgt := 84) C dX5_alike_58 (by decide) (fun q => ?_) (fun q => ?_)
    · replace h := hT q h
      refine v_iconst (v := 1) C dX5_alike_84 (by decide) ?_
      obtain ⟨rfl, rfl⟩ := hR h
      exact v_iret C hQ dX5_alike_85
    · replace h := hF q h
      refine v_aload_n C dX5_alike_61 rfl ?_
      refine v_getr (j := 30) C fk_X5_45 rfl dX5_alike_62 ?_
      refine v_iload_n C dX5_alike_65 rfl ?_
      obtain ⟨q1, h⟩ := hG h
      refine v_iald C rfl q1 dX5_alike_66 ?_
      refine v_aload_n C dX5_alike_67 rfl ?_
      refine v_getr (j := 31) C fk_X5_49 rfl dX5_alike_68 ?_
      refine v_iload_n C dX5_alike_71 rfl ?_
      obtain ⟨q2, h⟩ := hG h
      refine v_iald C rfl q2 dX5_alike_72 ?_
      refine v_icmp_eq (tgt := 78) C dX5_alike_73 (by decide) (fun q => ?_) (fun q => ?_)
      · replace h := hT q h
        refine v_iinc (v := 1) C dX5_alike_78 rfl (by decide) (by decide) rfl ?_
        refine v_goto (tgt := 55) C dX5_alike_81 (by decide) ?_
        exact v_weak [true, false, true] (ih _ _ h)
      · replace h := hF q h
        refine v_iconst (v := 0) C dX5_alike_76 (by decide) ?_
        obtain ⟨rfl, rfl⟩ := hR h
        exact v_iret C hQ dX5_alike_77
set_option maxHeartbeats 4000000 in
set_option maxRecDepth 100000 in
theorem Pf_alike_ok (l : Launch) {G : GG} (hI : IG G) {M M' : Mem} {v1 : Int32} {r : Int32} (h : Pf_alike v1 M = some (r, M')) : Sp l G yX5_alike cX5_alike 3 (some .int) 6 149 [.ref (G.2.1 0), .int v1] M (some (.int r)) M' := by
  unfold Pf_alike at h
  refine sp_intro [some (.ref (G.2.1 0)), some (.int v1), none] hI (by decide) (Nat.le_of_ble_eq_true rfl) (fun _ hq => hq) (fun X _ C hQ => ?_)
  refine v_iload_n C dX5_alike_0 rfl ?_
  obtain ⟨r3, M1, c2, h⟩ := hB h
  refine v_callSi C (Pf_isImage_ok (xl X) C.ig c2) ml_X5_215 mb_X5_isImage ms_X5_isImage rfl rfl (Nat.le_of_ble_eq_true rfl) (by decide) (by decide) dX5_alike_1 ?_
  refine v_if_ne (tgt := 9) C dX5_alike_4 (by decide) (fun q => ?_) (fun q => ?_)
  · replace h := hF q h
    refine v_aload_n C dX5_alike_9 rfl ?_
    refine v_getr (j := 12) C fk_X5_27 rfl dX5_alike_10 ?_
    refine v_iload_n C dX5_alike_13 rfl ?_
    obtain ⟨q4, h⟩ := hG h
    refine v_zald C rfl q4 dX5_alike_14 ?_
    refine v_if_ne (tgt := 21) C dX5_alike_15 (by decide) (fun q => ?_) (fun q => ?_)
    · replace h := hF q h
      refine v_aload_n C dX5_alike_21 rfl ?_
      refine v_getr (j := 22) C fk_X5_41 rfl dX5_alike_22 ?_
      refine v_aload_n C dX5_alike_25 rfl ?_
      refine v_getr (j := 5) C fk_X5_19 rfl dX5_alike_26 ?_
      refine v_aload_n C dX5_alike_29 rfl ?_
      refine v_getr (j := 30) C fk_X5_45 rfl dX5_alike_30 ?_
      obtain ⟨M5, c6, h⟩ := hV h
      refine v_callVv C (Un_tellForm_ok (xl X) C.ig c6) ml_X5_218 mb_X4_tellForm mv_X4_tellForm rfl rfl rfl (Nat.le_of_ble_eq_true rfl) (by decide) (by decide) dX5_alike_33 ?_
      refine v_aload_n C dX5_alike_36 rfl ?_
      refine v_getr (j := 22) C fk_X5_41 rfl dX5_alike_37 ?_
      refine v_aload_n C dX5_alike_40 rfl ?_
      refine v_getr (j := 7) C fk_X5_23 rfl dX5_alike_41 ?_
      refine v_iload_n C dX5_alike_44 rfl ?_
      obtain ⟨q7, h⟩ := hG h
      refine v_aald (t := 13) C rfl (by decide) q7 (rfP q7) dX5_alike_45 ?_
      refine v_aload_n C dX5_alike_46 rfl ?_
      refine v_getr (j := 31) C fk_X5_49 rfl dX5_alike_47 ?_
      obtain ⟨M8, c9, h⟩ := hV h
      refine v_callVv C (Un_tellForm_ok (xl X) C.ig c9) ml_X5_218 mb_X4_tellForm mv_X4_tellForm rfl rfl rfl (Nat.le_of_ble_eq_true rfl) (by decide) (by decide) dX5_alike_50 ?_
      refine v_iconst (v := 0) C dX5_alike_53 (by decide) ?_
      refine v_istore_n C dX5_alike_54 (by decide) rfl ?_
      exact v_weak [true, false, true] (Pf_alike_L55_ok C hQ _ _ _ h)
    · replace h := hT q h
      refine v_bipush (v := (-2)) C dX5_alike_18 (by decide) ?_
      obtain ⟨rfl, rfl⟩ := hR h
      exact v_iret C hQ dX5_alike_20
  · replace h := hT q h
    refine v_iconst (v := (-1)) C dX5_alike_7 (by decide) ?_
    obtain ⟨rfl, rfl⟩ := hR h
    exact v_iret C hQ dX5_alike_8
set_option maxHeartbeats 4000000 in
set_option maxRecDepth 100000 in
theorem Pf_isSheet_ok (l : Launch) {G : GG} (hI : IG G) {M M' : Mem} {v0 : Int32} {r : Int32} (h : Pf_isSheet v0 M = some (r, M')) : Sp l G yX5_isSheet cX5_isSheet 1 (some .boolean) 0 0 [.int v0] M (some (.int r)) M' := by
  unfold Pf_isSheet at h
  refine sp_intro [some (.int v0)] hI (by decide) (Nat.le_of_ble_eq_true rfl) (fun _ hq => hq) (fun X _ C hQ => ?_)
  refine v_iload_n C dX5_isSheet_0 rfl ?_
  refine v_if_lt (tgt := 13) C dX5_isSheet_1 (by decide) (fun q => ?_) (fun q => ?_)
  · replace h := hT q h
    refine v_iconst (v := 0) C dX5_isSheet_13 (by decide) ?_
    obtain ⟨rfl, rfl⟩ := hR h
    exact v_zret C hQ rfl dX5_isSheet_14
  · replace h := hF q h
    refine v_iload_n C dX5_isSheet_4 rfl ?_
    refine v_iconst (v := 4) C dX5_isSheet_5 (by decide) ?_
    refine v_icmp_ge (tgt := 13) C dX5_isSheet_6 (by decide) (fun q => ?_) (fun q => ?_)
    · replace h := hT q h
      refine v_iconst (v := 0) C dX5_isSheet_13 (by decide) ?_
      obtain ⟨rfl, rfl⟩ := hR h
      exact v_zret C hQ rfl dX5_isSheet_14
    · replace h := hF q h
      refine v_iconst (v := 1) C dX5_isSheet_9 (by decide) ?_
      refine v_goto (tgt := 14) C dX5_isSheet_10 (by decide) ?_
      obtain ⟨rfl, rfl⟩ := hR h
      exact v_zret C hQ rfl dX5_isSheet_14
set_option maxHeartbeats 4000000 in
set_option maxRecDepth 100000 in
theorem Pf_isLane_ok (l : Launch) {G : GG} (hI : IG G) {M M' : Mem} {v0 : Int32} {r : Int32} (h : Pf_isLane v0 M = some (r, M')) : Sp l G yX5_isLane cX5_isLane 1 (some .boolean) 0 0 [.int v0] M (some (.int r)) M' := by
  unfold Pf_isLane at h
  refine sp_intro [some (.int v0)] hI (by decide) (Nat.le_of_ble_eq_true rfl) (fun _ hq => hq) (fun X _ C hQ => ?_)
  refine v_iload_n C dX5_isLane_0 rfl ?_
  refine v_if_lt (tgt := 13) C dX5_isLane_1 (by decide) (fun q => ?_) (fun q => ?_)
  · replace h := hT q h
    refine v_iconst (v := 0) C dX5_isLane_13 (by decide) ?_
    obtain ⟨rfl, rfl⟩ := hR h
    exact v_zret C hQ rfl dX5_isLane_14
  · replace h := hF q h
    refine v_iload_n C dX5_isLane_4 rfl ?_
    refine v_iconst (v := 3) C dX5_isLane_5 (by decide) ?_
    refine v_icmp_ge (tgt := 13) C dX5_isLane_6 (by decide) (fun q => ?_) (fun q => ?_)
    · replace h := hT q h
      refine v_iconst (v := 0) C dX5_isLane_13 (by decide) ?_
      obtain ⟨rfl, rfl⟩ := hR h
      exact v_zret C hQ rfl dX5_isLane_14
    · replace h := hF q h
      refine v_iconst (v := 1) C dX5_isLane_9 (by decide) ?_
      refine v_goto (tgt := 14) C dX5_isLane_10 (by decide) ?_
      obtain ⟨rfl, rfl⟩ := hR h
      exact v_zret C hQ rfl dX5_isLane_14
set_option maxHeartbeats 4000000 in
set_option maxRecDepth 100000 in
theorem Pf_sheet_ok (l : Launch) {G : GG} (hI : IG G) {M M' : Mem} {v1 : Int32} {v2 : Int32} {v3 : Int32} {r : Int32} (h : Pf_sheet v1 v2 v3 M = some (r, M')) : Sp l G yX5_sheet cX5_sheet 4 (some .int) 2 45 [.ref (G.2.1 0), .int v1, .int v2, .int v3] M (some (.int r)) M' := by
  unfold Pf_sheet at h
  refine sp_intro [some (.ref (G.2.1 0)), some (.int v1), some (.int v2), some (.int v3)] hI (by decide) (Nat.le_of_ble_eq_true rfl) (fun _ hq => hq) (fun X _ C hQ => ?_)
  refine v_iload_n C dX5_sheet_0 rfl ?_
  obtain ⟨r3, M1, c2, h⟩ := hB h
  refine v_callSi C (Pf_isSheet_ok (xl X) C.ig c2) ml_X5_222 mb_X5_isSheet ms_X5_isSheet rfl rfl (Nat.le_of_ble_eq_true rfl) (by decide) (by decide) dX5_sheet_1 ?_
  refine v_if_eq (tgt := 20) C dX5_sheet_4 (by decide) (fun q => ?_) (fun q => ?_)
  · replace h := hT q h
    refine v_iconst (v := (-1)) C dX5_sheet_20 (by decide) ?_
    obtain ⟨rfl, rfl⟩ := hR h
    exact v_iret C hQ dX5_sheet_21
  · replace h := hF q h
    refine v_iload_n C dX5_sheet_7 rfl ?_
    obtain ⟨r6, M4, c5, h⟩ := hB h
    refine v_callSi C (Pf_isLane_ok (xl X) C.ig c5) ml_X5_225 mb_X5_isLane ms_X5_isLane rfl rfl (Nat.le_of_ble_eq_true rfl) (by decide) (by decide) dX5_sheet_8 ?_
    refine v_if_eq (tgt := 20) C dX5_sheet_11 (by decide) (fun q => ?_) (fun q => ?_)
    · replace h := hT q h
      refine v_iconst (v := (-1)) C dX5_sheet_20 (by decide) ?_
      obtain ⟨rfl, rfl⟩ := hR h
      exact v_iret C hQ dX5_sheet_21
    · replace h := hF q h
      refine v_iload_n C dX5_sheet_14 rfl ?_
      refine v_bipush (v := 40) C dX5_sheet_15 (by decide) ?_
      refine v_icmp_le (tgt := 22) C dX5_sheet_17 (by decide) (fun q => ?_) (fun q => ?_)
      · replace h := hT q h
        refine v_iload_n C dX5_sheet_22 rfl ?_
        refine v_if_ge (tgt := 29) C dX5_sheet_23 (by decide) (fun q => ?_) (fun q => ?_)
        · replace h := hT q h
          refine v_aload_n C dX5_sheet_29 rfl ?_
          refine v_getr (j := 13) C fk_X5_33 rfl dX5_sheet_30 ?_
          refine v_iload_n C dX5_sheet_33 rfl ?_
          obtain ⟨q7, h⟩ := hG h
          refine v_aald (t := 14) C rfl (by decide) q7 (rfS q7) dX5_sheet_34 ?_
          refine v_iload_n C dX5_sheet_35 rfl ?_
          refine v_iload_n C dX5_sheet_36 rfl ?_
          obtain ⟨M8, c9, h⟩ := hV h
          refine v_callVv C (Se_makeNew_ok (xl X) C.ig c9) ml_X5_228 mb_X2_makeNew mv_X2_makeNew (clsS q7) rfl rfl (Nat.le_of_ble_eq_true rfl) (by decide) (by decide) dX5_sheet_37 ?_
          refine v_iconst (v := 1) C dX5_sheet_40 (by decide) ?_
          obtain ⟨rfl, rfl⟩ := hR h
          exact v_iret C hQ dX5_sheet_41
        · replace h := hF q h
          refine v_bipush (v := (-14)) C dX5_sheet_26 (by decide) ?_
          obtain ⟨rfl, rfl⟩ := hR h
          exact v_iret C hQ dX5_sheet_28
      · replace h := hF q h
        refine v_iconst (v := (-1)) C dX5_sheet_20 (by decide) ?_
        obtain ⟨rfl, rfl⟩ := hR h
        exact v_iret C hQ dX5_sheet_21
