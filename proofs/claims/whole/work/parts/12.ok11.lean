set_option maxHeartbeats 4000000 in
set_option maxRecDepth 100000 in
theorem Mo_cell_ok (l : Launch) {G : GG} (hI : IG G) {M M' : Mem} {v1 : Int32} {v2 : Int32} {v3 : Int32} {r : Int32} (h : Mo_cell v1 v2 v3 M = some (r, M')) : Sp l G yX6_cell cX6_cell 4 (some .int) 2 47 [.ref (G.2.1 32), .int v1, .int v2, .int v3] M (some (.int r)) M' := by
  unfold Mo_cell at h
  refine sp_intro [some (.ref (G.2.1 32)), some (.int v1), some (.int v2), some (.int v3)] hI (by decide) (Nat.le_of_ble_eq_true rfl) (fun _ hq => hq) (fun X _ C hQ => ?_)
  refine v_aload_n C dX6_cell_0 rfl ?_
  refine v_iload_n C dX6_cell_1 rfl ?_
  obtain ⟨r3, M1, c2, h⟩ := hB h
  refine v_callVi C (Mo_isTable_ok (xl X) C.ig c2) ml_X6_233 mb_X6_isTable mv_X6_isTable rfl rfl rfl (Nat.le_of_ble_eq_true rfl) (by decide) (by decide) dX6_cell_2 ?_
  refine v_if_eq (tgt := 27) C dX6_cell_5 (by decide) (fun q => ?_) (fun q => ?_)
  · replace h := hT q h
    refine v_iconst (v := (-1)) C dX6_cell_27 (by decide) ?_
    obtain ⟨rfl, rfl⟩ := hR h
    exact v_iret C hQ dX6_cell_28
  · replace h := hF q h
    refine v_aload_n C dX6_cell_8 rfl ?_
    refine v_iload_n C dX6_cell_9 rfl ?_
    refine v_iload_n C dX6_cell_10 rfl ?_
    obtain ⟨r6, M4, c5, h⟩ := hB h
    refine v_callVi C (Mo_isPlace_ok (xl X) C.ig c5) ml_X6_236 mb_X6_isPlace mv_X6_isPlace rfl rfl rfl (Nat.le_of_ble_eq_true rfl) (by decide) (by decide) dX6_cell_11 ?_
    refine v_if_eq (tgt := 27) C dX6_cell_14 (by decide) (fun q => ?_) (fun q => ?_)
    · replace h := hT q h
      refine v_iconst (v := (-1)) C dX6_cell_27 (by decide) ?_
      obtain ⟨rfl, rfl⟩ := hR h
      exact v_iret C hQ dX6_cell_28
    · replace h := hF q h
      refine v_aload_n C dX6_cell_17 rfl ?_
      refine v_iload_n C dX6_cell_18 rfl ?_
      refine v_iload_n C dX6_cell_19 rfl ?_
      refine v_iload_n C dX6_cell_20 rfl ?_
      obtain ⟨r9, M7, c8, h⟩ := hB h
      refine v_callVi C (Mo_of_ok (xl X) C.ig c8) ml_X6_150 mb_X6_of mv_X6_of rfl rfl rfl (Nat.le_of_ble_eq_true rfl) (by decide) (by decide) dX6_cell_21 ?_
      refine v_goto (tgt := 28) C dX6_cell_24 (by decide) ?_
      obtain ⟨rfl, rfl⟩ := hR h
      exact v_iret C hQ dX6_cell_28
set_option maxHeartbeats 4000000 in
set_option maxRecDepth 100000 in
theorem Mo_rank_ok (l : Launch) {G : GG} (hI : IG G) {M M' : Mem} {v1 : Int32} {r : Int32} (h : Mo_rank v1 M = some (r, M')) : Sp l G yX6_rank cX6_rank 2 (some .int) 4 97 [.ref (G.2.1 32), .int v1] M (some (.int r)) M' := by
  unfold Mo_rank at h
  refine sp_intro [some (.ref (G.2.1 32)), some (.int v1)] hI (by decide) (Nat.le_of_ble_eq_true rfl) (fun _ hq => hq) (fun X _ C hQ => ?_)
  refine v_aload_n C dX6_rank_0 rfl ?_
  refine v_iload_n C dX6_rank_1 rfl ?_
  obtain ⟨r3, M1, c2, h⟩ := hB h
  refine v_callVi C (Mo_isX_ok (xl X) C.ig c2) ml_X6_240 mb_X6_isX mv_X6_isX rfl rfl rfl (Nat.le_of_ble_eq_true rfl) (by decide) (by decide) dX6_rank_2 ?_
  refine v_if_ne (tgt := 10) C dX6_rank_5 (by decide) (fun q => ?_) (fun q => ?_)
  · replace h := hF q h
    refine v_aload_n C dX6_rank_10 rfl ?_
    refine v_iconst (v := 1) C dX6_rank_11 (by decide) ?_
    refine v_iconst (v := 1) C dX6_rank_12 (by decide) ?_
    obtain ⟨M4, c5, h⟩ := hV h
    refine v_callVv C (Mo_startsLarge_ok (xl X) C.ig c5) ml_X6_188 mb_X6_startsLarge mv_X6_startsLarge rfl rfl rfl (Nat.le_of_ble_eq_true rfl) (by decide) (by decide) dX6_rank_13 ?_
    refine v_aload_n C dX6_rank_16 rfl ?_
    refine v_iconst (v := 0) C dX6_rank_17 (by decide) ?_
    refine v_iconst (v := 0) C dX6_rank_18 (by decide) ?_
    refine v_iload_n C dX6_rank_19 rfl ?_
    obtain ⟨M6, c7, h⟩ := hV h
    refine v_callVv C (Mo_addsAt_ok (xl X) C.ig c7) ml_X6_204 mb_X6_addsAt mv_X6_addsAt rfl rfl rfl (Nat.le_of_ble_eq_true rfl) (by decide) (by decide) dX6_rank_20 ?_
    refine v_aload_n C dX6_rank_23 rfl ?_
    refine v_aload_n C dX6_rank_24 rfl ?_
    refine v_geti C fk_X6_163 rfl dX6_rank_25 ?_
    obtain ⟨r10, M8, c9, h⟩ := hB h
    refine v_callVi C (Mo_rankOf_ok (xl X) C.ig c9) ml_X6_185 mb_X6_rankOf mv_X6_rankOf rfl rfl rfl (Nat.le_of_ble_eq_true rfl) (by decide) (by decide) dX6_rank_28 ?_
    obtain ⟨rfl, rfl⟩ := hR h
    exact v_iret C hQ dX6_rank_31
  · replace h := hT q h
    refine v_iconst (v := (-1)) C dX6_rank_8 (by decide) ?_
    obtain ⟨rfl, rfl⟩ := hR h
    exact v_iret C hQ dX6_rank_9
set_option maxHeartbeats 4000000 in
set_option maxRecDepth 100000 in
theorem Mo_nulls_ok (l : Launch) {G : GG} (hI : IG G) {M M' : Mem} {v1 : Int32} {r : Int32} (h : Mo_nulls v1 M = some (r, M')) : Sp l G yX6_nulls cX6_nulls 2 (some .int) 5 113 [.ref (G.2.1 32), .int v1] M (some (.int r)) M' := by
  unfold Mo_nulls at h
  refine sp_intro [some (.ref (G.2.1 32)), some (.int v1)] hI (by decide) (Nat.le_of_ble_eq_true rfl) (fun _ hq => hq) (fun X _ C hQ => ?_)
  refine v_iload_n C dX6_nulls_0 rfl ?_
  refine v_i2l C dX6_nulls_1 ?_
  refine v_lconst (v := 0) C dX6_nulls_2 (by decide) ?_
  refine v_ldc2 (v := 4) C dX6_nulls_3 (tT 1015 (by decide +kernel) rfl) ?_
  obtain ⟨r3, M1, c2, h⟩ := hB h
  refine v_callSi C (Mo_in_ok (xl X) C.ig c2) ml_X6_64 mb_X6_in ms_X6_in rfl rfl (Nat.le_of_ble_eq_true rfl) (by decide) (by decide) dX6_nulls_6 ?_
  refine v_if_eq (tgt := 20) C dX6_nulls_9 (by decide) (fun q => ?_) (fun q => ?_)
  · replace h := hT q h
    refine v_iconst (v := (-1)) C dX6_nulls_20 (by decide) ?_
    obtain ⟨rfl, rfl⟩ := hR h
    exact v_iret C hQ dX6_nulls_21
  · replace h := hF q h
    refine v_aload_n C dX6_nulls_12 rfl ?_
    refine v_iload_n C dX6_nulls_13 rfl ?_
    obtain ⟨r6, M4, c5, h⟩ := hB h
    refine v_callVi C (Mo_nullsOf_ok (xl X) C.ig c5) ml_X6_197 mb_X6_nullsOf mv_X6_nullsOf rfl rfl rfl (Nat.le_of_ble_eq_true rfl) (by decide) (by decide) dX6_nulls_14 ?_
    refine v_goto (tgt := 21) C dX6_nulls_17 (by decide) ?_
    obtain ⟨rfl, rfl⟩ := hR h
    exact v_iret C hQ dX6_nulls_21
set_option maxHeartbeats 4000000 in
set_option maxRecDepth 100000 in
theorem Mo_col_ok (l : Launch) {G : GG} (hI : IG G) {M M' : Mem} {v1 : Int32} {r : Int32} (h : Mo_col v1 M = some (r, M')) : Sp l G yX6_col cX6_col 2 (some .int) 7 158 [.ref (G.2.1 32), .int v1] M (some (.int r)) M' := by
  unfold Mo_col at h
  refine sp_intro [some (.ref (G.2.1 32)), some (.int v1)] hI (by decide) (Nat.le_of_ble_eq_true rfl) (fun _ hq => hq) (fun X _ C hQ => ?_)
  refine v_iload_n C dX6_col_0 rfl ?_
  refine v_if_ge (tgt := 6) C dX6_col_1 (by decide) (fun q => ?_) (fun q => ?_)
  · replace h := hT q h
    refine v_aload_n C dX6_col_6 rfl ?_
    obtain ⟨M1, c2, h⟩ := hV h
    refine v_callVv C (Mo_findAllIndices_ok (xl X) C.ig c2) ml_X6_227 mb_X6_findAllIndices mv_X6_findAllIndices rfl rfl rfl (Nat.le_of_ble_eq_true rfl) (by decide) (by decide) dX6_col_7 ?_
    refine v_aload_n C dX6_col_10 rfl ?_
    refine v_getr (j := 39) C fk_X6_29 rfl dX6_col_11 ?_
    refine v_iload_n C dX6_col_14 rfl ?_
    obtain ⟨r5, M3, c4, h⟩ := hB h
    refine v_callSi C (Mo_indexAt_ok (xl X) C.ig c4) ml_X6_245 mb_X6_indexAt ms_X6_indexAt rfl rfl (Nat.le_of_ble_eq_true rfl) (by decide) (by decide) dX6_col_15 ?_
    obtain ⟨rfl, rfl⟩ := hR h
    exact v_iret C hQ dX6_col_18
  · replace h := hF q h
    refine v_iconst (v := (-1)) C dX6_col_4 (by decide) ?_
    obtain ⟨rfl, rfl⟩ := hR h
    exact v_iret C hQ dX6_col_5
set_option maxHeartbeats 4000000 in
set_option maxRecDepth 100000 in
theorem Mo_row_ok (l : Launch) {G : GG} (hI : IG G) {M M' : Mem} {v1 : Int32} {r : Int32} (h : Mo_row v1 M = some (r, M')) : Sp l G yX6_row cX6_row 2 (some .int) 7 158 [.ref (G.2.1 32), .int v1] M (some (.int r)) M' := by
  unfold Mo_row at h
  refine sp_intro [some (.ref (G.2.1 32)), some (.int v1)] hI (by decide) (Nat.le_of_ble_eq_true rfl) (fun _ hq => hq) (fun X _ C hQ => ?_)
  refine v_iload_n C dX6_row_0 rfl ?_
  refine v_if_ge (tgt := 6) C dX6_row_1 (by decide) (fun q => ?_) (fun q => ?_)
  · replace h := hT q h
    refine v_aload_n C dX6_row_6 rfl ?_
    obtain ⟨M1, c2, h⟩ := hV h
    refine v_callVv C (Mo_findAllIndices_ok (xl X) C.ig c2) ml_X6_227 mb_X6_findAllIndices mv_X6_findAllIndices rfl rfl rfl (Nat.le_of_ble_eq_true rfl) (by decide) (by decide) dX6_row_7 ?_
    refine v_aload_n C dX6_row_10 rfl ?_
    refine v_getr (j := 40) C fk_X6_32 rfl dX6_row_11 ?_
    refine v_iload_n C dX6_row_14 rfl ?_
    obtain ⟨r5, M3, c4, h⟩ := hB h
    refine v_callSi C (Mo_indexAt_ok (xl X) C.ig c4) ml_X6_245 mb_X6_indexAt ms_X6_indexAt rfl rfl (Nat.le_of_ble_eq_true rfl) (by decide) (by decide) dX6_row_15 ?_
    obtain ⟨rfl, rfl⟩ := hR h
    exact v_iret C hQ dX6_row_18
  · replace h := hF q h
    refine v_iconst (v := (-1)) C dX6_row_4 (by decide) ?_
    obtain ⟨rfl, rfl⟩ := hR h
    exact v_iret C hQ dX6_row_5
set_option maxHeartbeats 4000000 in
set_option maxRecDepth 100000 in
theorem Mo_chains_ok (l : Launch) {G : GG} (hI : IG G) {M M' : Mem} {v1 : Int32} {v2 : Int32} {r : Int32} (h : Mo_chains v1 v2 M = some (r, M')) : Sp l G yX6_chains cX6_chains 3 (some .int) 5 121 [.ref (G.2.1 32), .int v1, .int v2] M (some (.int r)) M' := by
  unfold Mo_chains at h
  refine sp_intro [some (.ref (G.2.1 32)), some (.int v1), some (.int v2)] hI (by decide) (Nat.le_of_ble_eq_true rfl) (fun _ hq => hq) (fun X _ C hQ => ?_)
  refine v_aload_n C dX6_chains_0 rfl ?_
  refine v_iload_n C dX6_chains_1 rfl ?_
  obtain ⟨r3, M1, c2, h⟩ := hB h
  refine v_callVi C (Mo_isX_ok (xl X) C.ig c2) ml_X6_240 mb_X6_isX mv_X6_isX rfl rfl rfl (Nat.le_of_ble_eq_true rfl) (by decide) (by decide) dX6_chains_2 ?_
  refine v_if_eq (tgt := 29) C dX6_chains_5 (by decide) (fun q => ?_) (fun q => ?_)
  · replace h := hT q h
    refine v_iconst (v := (-1)) C dX6_chains_29 (by decide) ?_
    obtain ⟨rfl, rfl⟩ := hR h
    exact v_iret C hQ dX6_chains_30
  · replace h := hF q h
    refine v_iload_n C dX6_chains_8 rfl ?_
    refine v_i2l C dX6_chains_9 ?_
    refine v_lconst (v := 0) C dX6_chains_10 (by decide) ?_
    refine v_ldc2 (v := 4) C dX6_chains_11 (tT 1015 (by decide +kernel) rfl) ?_
    obtain ⟨r6, M4, c5, h⟩ := hB h
    refine v_callSi C (Mo_in_ok (xl X) C.ig c5) ml_X6_64 mb_X6_in ms_X6_in rfl rfl (Nat.le_of_ble_eq_true rfl) (by decide) (by decide) dX6_chains_14 ?_
    refine v_if_eq (tgt := 29) C dX6_chains_17 (by decide) (fun q => ?_) (fun q => ?_)
    · replace h := hT q h
      refine v_iconst (v := (-1)) C dX6_chains_29 (by decide) ?_
      obtain ⟨rfl, rfl⟩ := hR h
      exact v_iret C hQ dX6_chains_30
    · replace h := hF q h
      refine v_aload_n C dX6_chains_20 rfl ?_
      refine v_iload_n C dX6_chains_21 rfl ?_
      refine v_iload_n C dX6_chains_22 rfl ?_
      obtain ⟨r9, M7, c8, h⟩ := hB h
      refine v_callVi C (Mo_chainsOf_ok (xl X) C.ig c8) ml_X6_211 mb_X6_chainsOf mv_X6_chainsOf rfl rfl rfl (Nat.le_of_ble_eq_true rfl) (by decide) (by decide) dX6_chains_23 ?_
      refine v_goto (tgt := 30) C dX6_chains_26 (by decide) ?_
      obtain ⟨rfl, rfl⟩ := hR h
      exact v_iret C hQ dX6_chains_30
set_option maxHeartbeats 4000000 in
set_option maxRecDepth 100000 in
theorem Mo_length_ok (l : Launch) {G : GG} (hI : IG G) {M M' : Mem} {v1 : Int32} {v2 : Int32} {r : Int32} (h : Mo_length v1 v2 M = some (r, M')) : Sp l G yX6_length cX6_length 4 (some .int) 7 158 [.ref (G.2.1 32), .int v1, .int v2] M (some (.int r)) M' := by
  unfold Mo_length at h
  refine sp_intro [some (.ref (G.2.1 32)), some (.int v1), some (.int v2), none] hI (by decide) (Nat.le_of_ble_eq_true rfl) (fun _ hq => hq) (fun X _ C hQ => ?_)
  refine v_aload_n C dX6_length_0 rfl ?_
  refine v_iload_n C dX6_length_1 rfl ?_
  obtain ⟨r3, M1, c2, h⟩ := hB h
  refine v_callVi C (Mo_isX_ok (xl X) C.ig c2) ml_X6_240 mb_X6_isX mv_X6_isX rfl rfl rfl (Nat.le_of_ble_eq_true rfl) (by decide) (by decide) dX6_length_2 ?_
  refine v_if_eq (tgt := 12) C dX6_length_5 (by decide) (fun q => ?_) (fun q => ?_)
  · replace h := hT q h
    refine v_iconst (v := (-1)) C dX6_length_12 (by decide) ?_
    obtain ⟨rfl, rfl⟩ := hR h
    exact v_iret C hQ dX6_length_13
  · replace h := hF q h
    refine v_iload_n C dX6_length_8 rfl ?_
    refine v_if_ge (tgt := 14) C dX6_length_9 (by decide) (fun q => ?_) (fun q => ?_)
    · replace h := hT q h
      refine v_aload_n C dX6_length_14 rfl ?_
      obtain ⟨M4, c5, h⟩ := hV h
      refine v_callVv C (Mo_findAllIndices_ok (xl X) C.ig c5) ml_X6_227 mb_X6_findAllIndices mv_X6_findAllIndices rfl rfl rfl (Nat.le_of_ble_eq_true rfl) (by decide) (by decide) dX6_length_15 ?_
      refine v_aload_n C dX6_length_18 rfl ?_
      refine v_iload_n C dX6_length_19 rfl ?_
      obtain ⟨M6, c7, h⟩ := hV h
      refine v_callVv C (Mo_findLong_ok (xl X) C.ig c7) ml_X6_218 mb_X6_findLong mv_X6_findLong rfl rfl rfl (Nat.le_of_ble_eq_true rfl) (by decide) (by decide) dX6_length_20 ?_
      refine v_aload_n C dX6_length_23 rfl ?_
      refine v_iload_n C dX6_length_24 rfl ?_
      obtain ⟨r10, M8, c9, h⟩ := hB h
      refine v_callVi C (Mo_lengthAt_ok (xl X) C.ig c9) ml_X6_249 mb_X6_lengthAt mv_X6_lengthAt rfl rfl rfl (Nat.le_of_ble_eq_true rfl) (by decide) (by decide) dX6_length_25 ?_
      refine v_istore_n C dX6_length_28 (by decide) rfl ?_
      refine v_iload_n C dX6_length_29 rfl ?_
      refine v_if_ne (tgt := 38) C dX6_length_30 (by decide) (fun q => ?_) (fun q => ?_)
      · replace h := hF q h
        refine v_iload_n C dX6_length_38 rfl ?_
        obtain ⟨rfl, rfl⟩ := hR h
        exact v_iret C hQ dX6_length_39
      · replace h := hT q h
        refine v_bipush (v := (-4)) C dX6_length_33 (by decide) ?_
        refine v_goto (tgt := 39) C dX6_length_35 (by decide) ?_
        obtain ⟨rfl, rfl⟩ := hR h
        exact v_iret C hQ dX6_length_39
    · replace h := hF q h
      refine v_iconst (v := (-1)) C dX6_length_12 (by decide) ?_
      obtain ⟨rfl, rfl⟩ := hR h
      exact v_iret C hQ dX6_length_13
set_option maxHeartbeats 4000000 in
set_option maxRecDepth 100000 in
theorem Mo_startsSteps_b50_ok {X : XX} {G : GG} (C : Cx X G cX6_startsSteps 5 RX6 3 73 none) {M' : Mem} (hQ : Rt X G none M') {k18 : Int32 → Int32 → Int32 → Mem → Option Mem} (H18 : ∀ (v1 : Int32) (v2 : Int32) (v3 : Int32) (M : Mem), k18 v1 v2 v3 M = some M' → V X G 5 M 18 [some (.ref (G.2.1 32)), some (.int v1), some (.int v2), some (.int v3), none] []) {v1 : Int32} {v2 : Int32} {v3 : Int32} {v4 : Int32} {M : Mem}  (h : Mo_startsSteps_b50 k18 v1 v2 v3 v4 M = some M') : V X G 5 M 50 [some (.ref (G.2.1 32)), some (.int v1), some (.int v2), some (.int v3), some (.int v4)] [] := by
  unfold Mo_startsSteps_b50 at h
  refine v_aload_n C dX6_startsSteps_50 rfl ?_
  refine v_iload_n C dX6_startsSteps_51 rfl ?_
  refine v_iload C dX6_startsSteps_52 rfl ?_
  refine v_iconst (v := 1) C dX6_startsSteps_54 (by decide) ?_
  refine v_iadd C dX6_startsSteps_55 ?_
  refine v_iconst (v := 0) C dX6_startsSteps_56 (by decide) ?_
  refine v_iconst (v := 1) C dX6_startsSteps_57 (by decide) ?_
  obtain ⟨M1, c2, h⟩ := hV h
  refine v_callVv C (Mo_adds_ok (xl X) C.ig c2) ml_X6_191 mb_X6_adds mv_X6_adds rfl rfl rfl (Nat.le_of_ble_eq_true rfl) (by decide) (by decide) dX6_startsSteps_58 ?_
  refine v_iinc (v := 1) C dX6_startsSteps_61 rfl (by decide) (by decide) rfl ?_
  refine v_goto (tgt := 18) C dX6_startsSteps_64 (by decide) ?_
  exact v_weak [true, true, true, true, false] (H18 _ _ _ _ h)
set_option maxHeartbeats 4000000 in
set_option maxRecDepth 100000 in
theorem Mo_startsSteps_b34_ok {X : XX} {G : GG} (C : Cx X G cX6_startsSteps 5 RX6 3 73 none) {M' : Mem} (hQ : Rt X G none M') {k18 : Int32 → Int32 → Int32 → Mem → Option Mem} (H18 : ∀ (v1 : Int32) (v2 : Int32) (v3 : Int32) (M : Mem), k18 v1 v2 v3 M = some M' → V X G 5 M 18 [some (.ref (G.2.1 32)), some (.int v1), some (.int v2), some (.int v3), none] []) {v1 : Int32} {v2 : Int32} {v3 : Int32} {s0 : Int32} {M : Mem}  (h : Mo_startsSteps_b34 k18 v1 v2 v3 s0 M = some M') : V X G 5 M 34 [some (.ref (G.2.1 32)), some (.int v1), some (.int v2), some (.int v3), none] [.int s0] := by
  unfold Mo_startsSteps_b34 at h
  refine v_istore C dX6_startsSteps_34 (by decide) rfl ?_
  refine v_iload C dX6_startsSteps_36 rfl ?_
  refine v_if_lt (tgt := 50) C dX6_startsSteps_38 (by decide) (fun q => ?_) (fun q => ?_)
  · replace h := hT q h
    exact v_weak [true, true, true, true, true] (Mo_startsSteps_b50_ok C hQ H18 h)
  · replace h := hF q h
    refine v_aload_n C dX6_startsSteps_41 rfl ?_
    refine v_iload_n C dX6_startsSteps_42 rfl ?_
    refine v_iload C dX6_startsSteps_43 rfl ?_
    refine v_iconst (v := (-1)) C dX6_startsSteps_45 (by decide) ?_
    refine v_iconst (v := 0) C dX6_startsSteps_46 (by decide) ?_
    obtain ⟨M1, c2, h⟩ := hV h
    refine v_callVv C (Mo_adds_ok (xl X) C.ig c2) ml_X6_191 mb_X6_adds mv_X6_adds rfl rfl rfl (Nat.le_of_ble_eq_true rfl) (by decide) (by decide) dX6_startsSteps_47 ?_
    exact v_weak [true, true, true, true, true] (Mo_startsSteps_b50_ok C hQ H18 h)
set_option maxHeartbeats 4000000 in
set_option maxRecDepth 100000 in
theorem Mo_startsSteps_L18_ok {X : XX} {G : GG} (C : Cx X G cX6_startsSteps 5 RX6 3 73 none) {M' : Mem} (hQ : Rt X G none M')   : ∀ (n : Nat) (v1 : Int32) (v2 : Int32) (v3 : Int32) (M : Mem), Mo_startsSteps_L18 n v1 v2 v3 M = some M' → V X G 5 M 18 [some (.ref (G.2.1 32)), some (.int v1), some (.int v2), some (.int v3), none] [] := by
  intro n
  induction n with
  | zero =>
    intro v1 v2 v3 M h
    simp [Mo_startsSteps_L18] at h
  | succ n ih =>
    intro v1 v2 v3 M h
    rw [Mo_startsSteps_L18] at h
    refine v_iload_n C dX6_startsSteps_18 rfl ?_
    refine v_iload_n C dX6_startsSteps_19 rfl ?_
    refine v_icmp_ge (tgt := 67) C dX6_startsSteps_20 (by decide) (fun q => ?_) (fun q => ?_)
    · replace h := hT q h
      obtain rfl := hRv h
      exact v_vret C hQ dX6_startsSteps_67
    · replace h := hF q h
      refine v_iload_n C dX6_startsSteps_23 rfl ?_
      refine v_if_eq (tgt := 33) C dX6_startsSteps_24 (by decide) (fun q => ?_) (fun q => ?_)
      · replace h := hT q h
        refine v_iload_n C dX6_startsSteps_33 rfl ?_
        exact v_weak [true, true, true, true, false] (Mo_startsSteps_b34_ok C hQ ih h)
      · replace h := hF q h
        refine v_iload_n C dX6_startsSteps_27 rfl ?_
        refine v_iconst (v := 1) C dX6_startsSteps_28 (by decide) ?_
        refine v_isub C dX6_startsSteps_29 ?_
        refine v_goto (tgt := 34) C dX6_startsSteps_30 (by decide) ?_
        exact v_weak [true, true, true, true, false] (Mo_startsSteps_b34_ok C hQ ih h)
set_option maxHeartbeats 4000000 in
set_option maxRecDepth 100000 in
theorem Mo_startsSteps_b13_ok {X : XX} {G : GG} (C : Cx X G cX6_startsSteps 5 RX6 3 73 none) {M' : Mem} (hQ : Rt X G none M')   {v1 : Int32} {v2 : Int32} {s1 : Int32} {s2 : Int32} {M : Mem}  (h : Mo_startsSteps_b13 v1 v2 s1 s2 M = some M') : V X G 5 M 13 [some (.ref (G.2.1 32)), some (.int v1), some (.int v2), none, none] [.int s2, .int s1, .ref (G.2.1 32)] := by
  unfold Mo_startsSteps_b13 at h
  obtain ⟨M1, c2, h⟩ := hV h
  refine v_callVv C (Mo_startsLarge_ok (xl X) C.ig c2) ml_X6_188 mb_X6_startsLarge mv_X6_startsLarge rfl rfl rfl (Nat.le_of_ble_eq_true rfl) (by decide) (by decide) dX6_startsSteps_13 ?_
  refine v_iconst (v := 0) C dX6_startsSteps_16 (by decide) ?_
  refine v_istore_n C dX6_startsSteps_17 (by decide) rfl ?_
  exact v_weak [true, true, true, true, false] (Mo_startsSteps_L18_ok C hQ _ _ _ _ _ h)
set_option maxHeartbeats 4000000 in
set_option maxRecDepth 100000 in
theorem Mo_startsSteps_ok (l : Launch) {G : GG} (hI : IG G) {M M' : Mem} {v1 : Int32} {v2 : Int32} (h : Mo_startsSteps v1 v2 M = some M') : Sp l G yX6_startsSteps cX6_startsSteps 5 none 3 73 [.ref (G.2.1 32), .int v1, .int v2] M none M' := by
  unfold Mo_startsSteps at h
  refine sp_intro [some (.ref (G.2.1 32)), some (.int v1), some (.int v2), none, none] hI (by decide) (Nat.le_of_ble_eq_true rfl) (fun _ hq => hq) (fun X _ C hQ => ?_)
  refine v_aload_n C dX6_startsSteps_0 rfl ?_
  refine v_iload_n C dX6_startsSteps_1 rfl ?_
  refine v_iload_n C dX6_startsSteps_2 rfl ?_
  refine v_if_eq (tgt := 10) C dX6_startsSteps_3 (by decide) (fun q => ?_) (fun q => ?_)
  · replace h := hT q h
    refine v_iload_n C dX6_startsSteps_10 rfl ?_
    refine v_iconst (v := 1) C dX6_startsSteps_11 (by decide) ?_
    refine v_iadd C dX6_startsSteps_12 ?_
    exact v_weak [true, true, true, false, false] (Mo_startsSteps_b13_ok C hQ h)
  · replace h := hF q h
    refine v_iload_n C dX6_startsSteps_6 rfl ?_
    refine v_goto (tgt := 13) C dX6_startsSteps_7 (by decide) ?_
    exact v_weak [true, true, true, false, false] (Mo_startsSteps_b13_ok C hQ h)
set_option maxHeartbeats 4000000 in
set_option maxRecDepth 100000 in
theorem Mo_steps_ok (l : Launch) {G : GG} (hI : IG G) {M M' : Mem} {v1 : Int32} {v2 : Int32} {r : Int32} (h : Mo_steps v1 v2 M = some (r, M')) : Sp l G yX6_steps cX6_steps 4 (some .int) 4 97 [.ref (G.2.1 32), .int v1, .int v2] M (some (.int r)) M' := by
  unfold Mo_steps at h
  refine sp_intro [some (.ref (G.2.1 32)), some (.int v1), some (.int v2), none] hI (by decide) (Nat.le_of_ble_eq_true rfl) (fun _ hq => hq) (fun X _ C hQ => ?_)
  refine v_iload_n C dX6_steps_0 rfl ?_
  refine v_i2l C dX6_steps_1 ?_
  refine v_lconst (v := 0) C dX6_steps_2 (by decide) ?_
  refine v_ldc2 (v := 4) C dX6_steps_3 (tT 1015 (by decide +kernel) rfl) ?_
  obtain ⟨r3, M1, c2, h⟩ := hB h
  refine v_callSi C (Mo_in_ok (xl X) C.ig c2) ml_X6_64 mb_X6_in ms_X6_in rfl rfl (Nat.le_of_ble_eq_true rfl) (by decide) (by decide) dX6_steps_6 ?_
  refine v_if_eq (tgt := 19) C dX6_steps_9 (by decide) (fun q => ?_) (fun q => ?_)
  · replace h := hT q h
    refine v_iconst (v := (-1)) C dX6_steps_19 (by decide) ?_
    obtain ⟨rfl, rfl⟩ := hR h
    exact v_iret C hQ dX6_steps_20
  · replace h := hF q h
    refine v_iload_n C dX6_steps_12 rfl ?_
    obtain ⟨r6, M4, c5, h⟩ := hB h
    refine v_callSi C (Mo_isPart_ok (xl X) C.ig c5) ml_X6_252 mb_X6_isPart ms_X6_isPart rfl rfl (Nat.le_of_ble_eq_true rfl) (by decide) (by decide) dX6_steps_13 ?_
    refine v_if_ne (tgt := 21) C dX6_steps_16 (by decide) (fun q => ?_) (fun q => ?_)
    · replace h := hF q h
      refine v_aload_n C dX6_steps_21 rfl ?_
      refine v_iload_n C dX6_steps_22 rfl ?_
      refine v_iconst (v := 0) C dX6_steps_23 (by decide) ?_
      obtain ⟨M7, c8, h⟩ := hV h
      refine v_callVv C (Mo_startsSteps_ok (xl X) C.ig c8) ml_X6_255 mb_X6_startsSteps mv_X6_startsSteps rfl rfl rfl (Nat.le_of_ble_eq_true rfl) (by decide) (by decide) dX6_steps_24 ?_
      refine v_aload_n C dX6_steps_27 rfl ?_
      obtain ⟨r11, M9, c10, h⟩ := hB h
      refine v_callVi C (Mo_dimension_ok (xl X) C.ig c10) ml_X6_194 mb_X6_dimension mv_X6_dimension rfl rfl rfl (Nat.le_of_ble_eq_true rfl) (by decide) (by decide) dX6_steps_28 ?_
      refine v_istore_n C dX6_steps_31 (by decide) rfl ?_
      refine v_iload_n C dX6_steps_32 rfl ?_
      refine v_if_ne (tgt := 38) C dX6_steps_33 (by decide) (fun q => ?_) (fun q => ?_)
      · replace h := hF q h
        refine v_aload_n C dX6_steps_38 rfl ?_
        refine v_iload_n C dX6_steps_39 rfl ?_
        refine v_iconst (v := 1) C dX6_steps_40 (by decide) ?_
        obtain ⟨M12, c13, h⟩ := hV h
        refine v_callVv C (Mo_startsSteps_ok (xl X) C.ig c13) ml_X6_255 mb_X6_startsSteps mv_X6_startsSteps rfl rfl rfl (Nat.le_of_ble_eq_true rfl) (by decide) (by decide) dX6_steps_41 ?_
        refine v_iload_n C dX6_steps_44 rfl ?_
        refine v_aload_n C dX6_steps_45 rfl ?_
        obtain ⟨r16, M14, c15, h⟩ := hB h
        refine v_callVi C (Mo_dimension_ok (xl X) C.ig c15) ml_X6_194 mb_X6_dimension mv_X6_dimension rfl rfl rfl (Nat.le_of_ble_eq_true rfl) (by decide) (by decide) dX6_steps_46 ?_
        refine v_isub C dX6_steps_49 ?_
        obtain ⟨rfl, rfl⟩ := hR h
        exact v_iret C hQ dX6_steps_50
      · replace h := hT q h
        refine v_iload_n C dX6_steps_36 rfl ?_
        obtain ⟨rfl, rfl⟩ := hR h
        exact v_iret C hQ dX6_steps_37
    · replace h := hT q h
      refine v_iconst (v := (-1)) C dX6_steps_19 (by decide) ?_
      obtain ⟨rfl, rfl⟩ := hR h
      exact v_iret C hQ dX6_steps_20
set_option maxHeartbeats 4000000 in
set_option maxRecDepth 100000 in
theorem Mo_isColumn_b62_ok {X : XX} {G : GG} (C : Cx X G cX6_isColumn 5 RX6 0 0 (some .boolean)) {r : Int32} {M' : Mem} (hQ : Rt X G (some (.int r)) M') {k15 : Int32 → Int32 → Int32 → Mem → Option (Int32 × Mem)} (H15 : ∀ (v2 : Int32) (v3 : Int32) (v4 : Int32) (M : Mem), k15 v2 v3 v4 M = some (r, M') → V X G 5 M 15 [some (.ref (G.2.1 32)), none, some (.int v2), some (.int v3), some (.int v4)] []) {v2 : Int32} {v4 : Int32} {s0 : Int32} {M : Mem}  (h : Mo_isColumn_b62 k15 v2 v4 s0 M = some (r, M')) : V X G 5 M 62 [some (.ref (G.2.1 32)), none, some (.int v2), none, some (.int v4)] [.int s0] := by
  unfold Mo_isColumn_b62 at h
  refine v_istore_n C dX6_isColumn_62 (by decide) rfl ?_
  refine v_iload_n C dX6_isColumn_63 rfl ?_
  refine v_bipush (v := 10) C dX6_isColumn_64 (by decide) ?_
  refine v_idiv C dX6_isColumn_66 (by decide) ?_
  refine v_istore_n C dX6_isColumn_67 (by decide) rfl ?_
  refine v_iinc (v := 1) C dX6_isColumn_68 rfl (by decide) (by decide) rfl ?_
  refine v_goto (tgt := 15) C dX6_isColumn_71 (by decide) ?_
  exact v_weak [true, false, true, true, true] (H15 _ _ _ _ h)
set_option maxHeartbeats 4000000 in
set_option maxRecDepth 100000 in
theorem Mo_isColumn_b61_ok {X : XX} {G : GG} (C : Cx X G cX6_isColumn 5 RX6 0 0 (some .boolean)) {r : Int32} {M' : Mem} (hQ : Rt X G (some (.int r)) M') {k15 : Int32 → Int32 → Int32 → Mem → Option (Int32 × Mem)} (H15 : ∀ (v2 : Int32) (v3 : Int32) (v4 : Int32) (M : Mem), k15 v2 v3 v4 M = some (r, M') → V X G 5 M 15 [some (.ref (G.2.1 32)), none, some (.int v2), some (.int v3), some (.int v4)] []) {v2 : Int32} {v4 : Int32} {M : Mem}  (h : Mo_isColumn_b61 k15 v2 v4 M = some (r, M')) : V X G 5 M 61 [some (.ref (G.2.1 32)), none, some (.int v2), none, some (.int v4)] [] := by
  unfold Mo_isColumn_b61 at h
  refine v_iconst (v := 0) C dX6_isColumn_61 (by decide) ?_
  exact v_weak [true, false, true, false, true] (Mo_isColumn_b62_ok C hQ H15 h)
set_option maxHeartbeats 4000000 in
set_option maxRecDepth 100000 in
theorem Mo_isColumn_L15_ok {X : XX} {G : GG} (C : Cx X G cX6_isColumn 5 RX6 0 0 (some .boolean)) {r : Int32} {M' : Mem} (hQ : Rt X G (some (.int r)) M')   : ∀ (n : Nat) (v2 : Int32) (v3 : Int32) (v4 : Int32) (M : Mem), Mo_isColumn_L15 n v2 v3 v4 M = some (r, M') → V X G 5 M 15 [some (.ref (G.2.1 32)), none, some (.int v2), some (.int v3), some (.int v4)] [] := by
  intro n
  induction n with
  | zero =>
    intro v2 v3 v4 M h
    simp [Mo_isColumn_L15] at h
  | succ n ih =>
    intro v2 v3 v4 M h
    rw [Mo_isColumn_L15] at h
    refine v_iload C dX6_isColumn_15 rfl ?_
    refine v_aload_n C dX6_isColumn_17 rfl ?_
    refine v_getr (j := 33) C fk_X6_7 rfl dX6_isColumn_18 ?_
    refine v_iconst (v := 2) C dX6_isColumn_21 (by decide) ?_
    refine v_iald_k (k := 2) (n := 35) C rfl rfl (by decide) dX6_isColumn_22 ?_
    refine v_icmp_ge (tgt := 74) C dX6_isColumn_23 (by decide) (fun q => ?_) (fun q => ?_)
    · replace h := hT q h
      refine v_iload_n C dX6_isColumn_74 rfl ?_
      refine v_if_eq (tgt := 86) C dX6_isColumn_75 (by decide) (fun q => ?_) (fun q => ?_)
      · replace h := hT q h
        refine v_iconst (v := 0) C dX6_isColumn_86 (by decide) ?_
        obtain ⟨rfl, rfl⟩ := hR h
        exact v_zret C hQ rfl dX6_isColumn_87
      · replace h := hF q h
        refine v_iload_n C dX6_isColumn_78 rfl ?_
        refine v_if_ne (tgt := 86) C dX6_isColumn_79 (by decide) (fun q => ?_) (fun q => ?_)
        · replace h := hF q h
          refine v_iconst (v := 0) C dX6_isColumn_86 (by decide) ?_
          obtain ⟨rfl, rfl⟩ := hR h
          exact v_zret C hQ rfl dX6_isColumn_87
        · replace h := hT q h
          refine v_iconst (v := 1) C dX6_isColumn_82 (by decide) ?_
          refine v_goto (tgt := 87) C dX6_isColumn_83 (by decide) ?_
          obtain ⟨rfl, rfl⟩ := hR h
          exact v_zret C hQ rfl dX6_isColumn_87
    · replace h := hF q h
      refine v_aload_n C dX6_isColumn_26 rfl ?_
      refine v_getr (j := 42) C fk_X6_38 rfl dX6_isColumn_27 ?_
      refine v_iload C dX6_isColumn_30 rfl ?_
      refine v_iload_n C dX6_isColumn_32 rfl ?_
      refine v_bipush (v := 10) C dX6_isColumn_33 (by decide) ?_
      refine v_irem C dX6_isColumn_35 (by decide) ?_
      obtain ⟨q1, h⟩ := hG h
      refine v_iast C rfl q1 dX6_isColumn_36 ?_
      refine v_iload_n C dX6_isColumn_37 rfl ?_
      refine v_if_eq (tgt := 61) C dX6_isColumn_38 (by decide) (fun q => ?_) (fun q => ?_)
      · replace h := hT q h
        exact v_weak [true, false, true, false, true] (Mo_isColumn_b61_ok C hQ ih h)
      · replace h := hF q h
        refine v_aload_n C dX6_isColumn_41 rfl ?_
        refine v_getr (j := 42) C fk_X6_38 rfl dX6_isColumn_42 ?_
        refine v_iload C dX6_isColumn_45 rfl ?_
        obtain ⟨q2, h⟩ := hG h
        refine v_iald C rfl q2 dX6_isColumn_47 ?_
        refine v_aload_n C dX6_isColumn_48 rfl ?_
        refine v_getr (j := 33) C fk_X6_7 rfl dX6_isColumn_49 ?_
        refine v_iconst (v := 0) C dX6_isColumn_52 (by decide) ?_
        refine v_iald_k (k := 0) (n := 35) C rfl rfl (by decide) dX6_isColumn_53 ?_
        refine v_icmp_ge (tgt := 61) C dX6_isColumn_54 (by decide) (fun q => ?_) (fun q => ?_)
        · replace h := hT q h
          exact v_weak [true, false, true, false, true] (Mo_isColumn_b61_ok C hQ ih h)
        · replace h := hF q h
          refine v_iconst (v := 1) C dX6_isColumn_57 (by decide) ?_
          refine v_goto (tgt := 62) C dX6_isColumn_58 (by decide) ?_
          exact v_weak [true, false, true, false, true] (Mo_isColumn_b62_ok C hQ ih h)
set_option maxHeartbeats 4000000 in
set_option maxRecDepth 100000 in
theorem Mo_isColumn_b11_ok {X : XX} {G : GG} (C : Cx X G cX6_isColumn 5 RX6 0 0 (some .boolean)) {r : Int32} {M' : Mem} (hQ : Rt X G (some (.int r)) M')   {v2 : Int32} {s0 : Int32} {M : Mem}  (h : Mo_isColumn_b11 v2 s0 M = some (r, M')) : V X G 5 M 11 [some (.ref (G.2.1 32)), none, some (.int v2), none, none] [.int s0] := by
  unfold Mo_isColumn_b11 at h
  refine v_istore_n C dX6_isColumn_11 (by decide) rfl ?_
  refine v_iconst (v := 0) C dX6_isColumn_12 (by decide) ?_
  refine v_istore C dX6_isColumn_13 (by decide) rfl ?_
  exact v_weak [true, false, true, true, true] (Mo_isColumn_L15_ok C hQ _ _ _ _ _ h)
set_option maxHeartbeats 4000000 in
set_option maxRecDepth 100000 in
theorem Mo_isColumn_ok (l : Launch) {G : GG} (hI : IG G) {M M' : Mem} {v1 : Int32} {r : Int32} (h : Mo_isColumn v1 M = some (r, M')) : Sp l G yX6_isColumn cX6_isColumn 5 (some .boolean) 0 0 [.ref (G.2.1 32), .int v1] M (some (.int r)) M' := by
  unfold Mo_isColumn at h
  refine sp_intro [some (.ref (G.2.1 32)), some (.int v1), none, none, none] hI (by decide) (Nat.le_of_ble_eq_true rfl) (fun _ hq => hq) (fun X _ C hQ => ?_)
  refine v_iload_n C dX6_isColumn_0 rfl ?_
  refine v_istore_n C dX6_isColumn_1 (by decide) rfl ?_
  refine v_iload_n C dX6_isColumn_2 rfl ?_
  refine v_if_lt (tgt := 10) C dX6_isColumn_3 (by decide) (fun q => ?_) (fun q => ?_)
  · replace h := hT q h
    refine v_iconst (v := 0) C dX6_isColumn_10 (by decide) ?_
    exact v_weak [true, false, true, false, false] (Mo_isColumn_b11_ok C hQ h)
  · replace h := hF q h
    refine v_iconst (v := 1) C dX6_isColumn_6 (by decide) ?_
    refine v_goto (tgt := 11) C dX6_isColumn_7 (by decide) ?_
    exact v_weak [true, false, true, false, false] (Mo_isColumn_b11_ok C hQ h)
set_option maxHeartbeats 4000000 in
set_option maxRecDepth 100000 in
theorem Mo_rankFrom_b38_ok {X : XX} {G : GG} (C : Cx X G cX6_rankFrom 4 RX6 0 0 (some .boolean)) {r : Int32} {M' : Mem} (hQ : Rt X G (some (.int r)) M') {k4 : Int32 → Int32 → Mem → Option (Int32 × Mem)} (H4 : ∀ (v2 : Int32) (v3 : Int32) (M : Mem), k4 v2 v3 M = some (r, M') → V X G 4 M 4 [some (.ref (G.2.1 32)), none, some (.int v2), some (.int v3)] []) {v3 : Int32} {s0 : Int32} {M : Mem}  (h : Mo_rankFrom_b38 k4 v3 s0 M = some (r, M')) : V X G 4 M 38 [some (.ref (G.2.1 32)), none, none, some (.int v3)] [.int s0] := by
  unfold Mo_rankFrom_b38 at h
  refine v_istore_n C dX6_rankFrom_38 (by decide) rfl ?_
  refine v_iinc (v := 1) C dX6_rankFrom_39 rfl (by decide) (by decide) rfl ?_
  refine v_goto (tgt := 4) C dX6_rankFrom_42 (by decide) ?_
  exact v_weak [true, false, true, true] (H4 _ _ _ h)
set_option maxHeartbeats 4000000 in
set_option maxRecDepth 100000 in
theorem Mo_rankFrom_b37_ok {X : XX} {G : GG} (C : Cx X G cX6_rankFrom 4 RX6 0 0 (some .boolean)) {r : Int32} {M' : Mem} (hQ : Rt X G (some (.int r)) M') {k4 : Int32 → Int32 → Mem → Option (Int32 × Mem)} (H4 : ∀ (v2 : Int32) (v3 : Int32) (M : Mem), k4 v2 v3 M = some (r, M') → V X G 4 M 4 [some (.ref (G.2.1 32)), none, some (.int v2), some (.int v3)] []) {v3 : Int32} {M : Mem}  (h : Mo_rankFrom_b37 k4 v3 M = some (r, M')) : V X G 4 M 37 [some (.ref (G.2.1 32)), none, none, some (.int v3)] [] := by
  unfold Mo_rankFrom_b37 at h
  refine v_iconst (v := 0) C dX6_rankFrom_37 (by decide) ?_
  exact v_weak [true, false, false, true] (Mo_rankFrom_b38_ok C hQ H4 h)
set_option maxHeartbeats 4000000 in
set_option maxRecDepth 100000 in
theorem Mo_rankFrom_L4_ok {X : XX} {G : GG} (C : Cx X G cX6_rankFrom 4 RX6 0 0 (some .boolean)) {r : Int32} {M' : Mem} (hQ : Rt X G (some (.int r)) M')   : ∀ (n : Nat) (v2 : Int32) (v3 : Int32) (M : Mem), Mo_rankFrom_L4 n v2 v3 M = some (r, M') → V X G 4 M 4 [some (.ref (G.2.1 32)), none, some (.int v2), some (.int v3)] [] := by
  intro n
  induction n with
  | zero =>
    intro v2 v3 M h
    simp [Mo_rankFrom_L4] at h
  | succ n ih =>
    intro v2 v3 M h
    rw [Mo_rankFrom_L4] at h
    refine v_iload_n C dX6_rankFrom_4 rfl ?_
    refine v_aload_n C dX6_rankFrom_5 rfl ?_
    refine v_geti C fk_X6_157 rfl dX6_rankFrom_6 ?_
    refine v_icmp_ge (tgt := 45) C dX6_rankFrom_9 (by decide) (fun q => ?_) (fun q => ?_)
    · replace h := hT q h
      refine v_iload_n C dX6_rankFrom_45 rfl ?_
      obtain ⟨q1, h⟩ := hG h
      obtain ⟨rfl, rfl⟩ := hR h
      exact v_zret C hQ q1 dX6_rankFrom_46
    · replace h := hF q h
      refine v_iload_n C dX6_rankFrom_12 rfl ?_
      refine v_if_eq (tgt := 37) C dX6_rankFrom_13 (by decide) (fun q => ?_) (fun q => ?_)
      · replace h := hT q h
        exact v_weak [true, false, false, true] (Mo_rankFrom_b37_ok C hQ ih h)
      · replace h := hF q h
        refine v_aload_n C dX6_rankFrom_16 rfl ?_
        refine v_getr (j := 38) C fk_X6_26 rfl dX6_rankFrom_17 ?_
        refine v_bipush (v := 21) C dX6_rankFrom_20 (by decide) ?_
        refine v_iload_n C dX6_rankFrom_22 rfl ?_
        refine v_imul C dX6_rankFrom_23 ?_
        refine v_aload_n C dX6_rankFrom_24 rfl ?_
        refine v_geti C fk_X6_163 rfl dX6_rankFrom_25 ?_
        refine v_iadd C dX6_rankFrom_28 ?_
        obtain ⟨q2, h⟩ := hG h
        refine v_iald C rfl q2 dX6_rankFrom_29 ?_
        refine v_if_ne (tgt := 37) C dX6_rankFrom_30 (by decide) (fun q => ?_) (fun q => ?_)
        · replace h := hF q h
          exact v_weak [true, false, false, true] (Mo_rankFrom_b37_ok C hQ ih h)
        · replace h := hT q h
          refine v_iconst (v := 1) C dX6_rankFrom_33 (by decide) ?_
          refine v_goto (tgt := 38) C dX6_rankFrom_34 (by decide) ?_
          exact v_weak [true, false, false, true] (Mo_rankFrom_b38_ok C hQ ih h)
set_option maxHeartbeats 4000000 in
set_option maxRecDepth 100000 in
theorem Mo_rankFrom_ok (l : Launch) {G : GG} (hI : IG G) {M M' : Mem} {v1 : Int32} {r : Int32} (h : Mo_rankFrom v1 M = some (r, M')) : Sp l G yX6_rankFrom cX6_rankFrom 4 (some .boolean) 0 0 [.ref (G.2.1 32), .int v1] M (some (.int r)) M' := by
  unfold Mo_rankFrom at h
  refine sp_intro [some (.ref (G.2.1 32)), some (.int v1), none, none] hI (by decide) (Nat.le_of_ble_eq_true rfl) (fun _ hq => hq) (fun X _ C hQ => ?_)
  refine v_iconst (v := 1) C dX6_rankFrom_0 (by decide) ?_
  refine v_istore_n C dX6_rankFrom_1 (by decide) rfl ?_
  refine v_iload_n C dX6_rankFrom_2 rfl ?_
  refine v_istore_n C dX6_rankFrom_3 (by decide) rfl ?_
  exact v_weak [true, false, true, true] (Mo_rankFrom_L4_ok C hQ _ _ _ _ h)
set_option maxHeartbeats 4000000 in
set_option maxRecDepth 100000 in
theorem Mo_go_L52_ok {X : XX} {G : GG} (C : Cx X G cX6_go 6 RX6 4 97 (some .int)) {r : Int32} {M' : Mem} (hQ : Rt X G (some (.int r)) M') {k36 : Int32 → Mem → Option (Int32 × Mem)} (H36 : ∀ (v3 : Int32) (M : Mem), k36 v3 M = some (r, M') → V X G 6 M 36 [some (.ref (G.2.1 32)), none, none, some (.int v3), none, none] []) : ∀ (n : Nat) (v3 : Int32) (v4 : Int32) (v5 : Int32) (M : Mem), Mo_go_L52 k36 n v3 v4 v5 M = some (r, M') → V X G 6 M 52 [some (.ref (G.2.1 32)), none, none, some (.int v3), some (.int v4), some (.int v5)] [] := by
  intro n
  induction n with
  | zero =>
    intro v3 v4 v5 M h
    simp [Mo_go_L52] at h
  | succ n ih =>
    intro v3 v4 v5 M h
    rw [Mo_go_L52] at h
    refine v_iload C dX6_go_52 rfl ?_
    refine v_aload_n C dX6_go_54 rfl ?_
    refine v_getr (j := 33) C fk_X6_7 rfl dX6_go_55 ?_
    refine v_iconst (v := 2) C dX6_go_58 (by decide) ?_
    refine v_iald_k (k := 2) (n := 35) C rfl rfl (by decide) dX6_go_59 ?_
    refine v_icmp_ge (tgt := 90) C dX6_go_60 (by decide) (fun q => ?_) (fun q => ?_)
    · replace h := hT q h
      refine v_aload_n C dX6_go_90 rfl ?_
      refine v_getr (j := 38) C fk_X6_26 rfl dX6_go_91 ?_
      refine v_bipush (v := 21) C dX6_go_94 (by decide) ?_
      refine v_iload_n C dX6_go_96 rfl ?_
      refine v_imul C dX6_go_97 ?_
      refine v_aload_n C dX6_go_98 rfl ?_
      refine v_geti C fk_X6_163 rfl dX6_go_99 ?_
      refine v_iadd C dX6_go_102 ?_
      refine v_aload_n C dX6_go_103 rfl ?_
      refine v_iload C dX6_go_104 rfl ?_
      obtain ⟨r3, M1, c2, h⟩ := hB h
      refine v_callVi C (Mo_modulo_ok (xl X) C.ig c2) ml_X6_169 mb_X6_modulo mv_X6_modulo rfl rfl rfl (Nat.le_of_ble_eq_true rfl) (by decide) (by decide) dX6_go_106 ?_
      obtain ⟨q4, h⟩ := hG h
      refine v_iast C rfl q4 dX6_go_109 ?_
      refine v_iinc (v := 1) C dX6_go_110 rfl (by decide) (by decide) rfl ?_
      refine v_goto (tgt := 36) C dX6_go_113 (by decide) ?_
      exact v_weak [true, false, false, true, false, false] (H36 _ _ h)
    · replace h := hF q h
      refine v_iload C dX6_go_63 rfl ?_
      refine v_aload_n C dX6_go_65 rfl ?_
      refine v_iconst (v := 0) C dX6_go_66 (by decide) ?_
      refine v_iload_n C dX6_go_67 rfl ?_
      refine v_iload C dX6_go_68 rfl ?_
      obtain ⟨r7, M5, c6, h⟩ := hB h
      refine v_callVi C (Mo_of_ok (xl X) C.ig c6) ml_X6_150 mb_X6_of mv_X6_of rfl rfl rfl (Nat.le_of_ble_eq_true rfl) (by decide) (by decide) dX6_go_70 ?_
      refine v_aload_n C dX6_go_73 rfl ?_
      refine v_getr (j := 42) C fk_X6_38 rfl dX6_go_74 ?_
      refine v_iload C dX6_go_77 rfl ?_
      obtain ⟨q8, h⟩ := hG h
      refine v_iald C rfl q8 dX6_go_79 ?_
      refine v_imul C dX6_go_80 ?_
      refine v_iadd C dX6_go_81 ?_
      refine v_istore C dX6_go_82 (by decide) rfl ?_
      refine v_iinc (v := 1) C dX6_go_84 rfl (by decide) (by decide) rfl ?_
      refine v_goto (tgt := 52) C dX6_go_87 (by decide) ?_
      exact v_weak [true, false, false, true, true, true] (ih _ _ _ _ h)
set_option maxHeartbeats 4000000 in
set_option maxRecDepth 100000 in
theorem Mo_go_L36_ok {X : XX} {G : GG} (C : Cx X G cX6_go 6 RX6 4 97 (some .int)) {r : Int32} {M' : Mem} (hQ : Rt X G (some (.int r)) M')   : ∀ (n : Nat) (v3 : Int32) (M : Mem), Mo_go_L36 n v3 M = some (r, M') → V X G 6 M 36 [some (.ref (G.2.1 32)), none, none, some (.int v3), none, none] [] := by
  intro n
  induction n with
  | zero =>
    intro v3 M h
    simp [Mo_go_L36] at h
  | succ n ih =>
    intro v3 M h
    rw [Mo_go_L36] at h
    refine v_iload_n C dX6_go_36 rfl ?_
    refine v_aload_n C dX6_go_37 rfl ?_
    refine v_getr (j := 33) C fk_X6_7 rfl dX6_go_38 ?_
    refine v_iconst (v := 1) C dX6_go_41 (by decide) ?_
    refine v_iald_k (k := 1) (n := 35) C rfl rfl (by decide) dX6_go_42 ?_
    refine v_icmp_ge (tgt := 116) C dX6_go_43 (by decide) (fun q => ?_) (fun q => ?_)
    · replace h := hT q h
      refine v_aload_n C dX6_go_116 rfl ?_
      refine v_aload_n C dX6_go_117 rfl ?_
      refine v_geti C fk_X6_163 rfl dX6_go_118 ?_
      obtain ⟨r3, M1, c2, h⟩ := hB h
      refine v_callVi C (Mo_rankOf_ok (xl X) C.ig c2) ml_X6_185 mb_X6_rankOf mv_X6_rankOf rfl rfl rfl (Nat.le_of_ble_eq_true rfl) (by decide) (by decide) dX6_go_121 ?_
      refine v_istore_n C dX6_go_124 (by decide) rfl ?_
      refine v_aload_n C dX6_go_125 rfl ?_
      refine v_iload_n C dX6_go_126 rfl ?_
      obtain ⟨r6, M4, c5, h⟩ := hB h
      refine v_callVi C (Mo_rankFrom_ok (xl X) C.ig c5) ml_X6_262 mb_X6_rankFrom mv_X6_rankFrom rfl rfl rfl (Nat.le_of_ble_eq_true rfl) (by decide) (by decide) dX6_go_127 ?_
      obtain ⟨r9, M7, c8, h⟩ := hB h
      refine v_callSi C (Mo_flag_ok (xl X) C.ig c8) ml_X6_214 mb_X6_flag ms_X6_flag rfl rfl (Nat.le_of_ble_eq_true rfl) (by decide) (by decide) dX6_go_130 ?_
      obtain ⟨rfl, rfl⟩ := hR h
      exact v_iret C hQ dX6_go_133
    · replace h := hF q h
      refine v_iconst (v := 0) C dX6_go_46 (by decide) ?_
      refine v_istore C dX6_go_47 (by decide) rfl ?_
      refine v_iconst (v := 0) C dX6_go_49 (by decide) ?_
      refine v_istore C dX6_go_50 (by decide) rfl ?_
      exact v_weak [true, false, false, true, true, true] (Mo_go_L52_ok C hQ ih _ _ _ _ _ h)
set_option maxHeartbeats 4000000 in
set_option maxRecDepth 100000 in
theorem Mo_go_ok (l : Launch) {G : GG} (hI : IG G) {M M' : Mem} {v1 : Int32} {v2 : Int32} {r : Int32} (h : Mo_go v1 v2 M = some (r, M')) : Sp l G yX6_go cX6_go 6 (some .int) 4 97 [.ref (G.2.1 32), .int v1, .int v2] M (some (.int r)) M' := by
  unfold Mo_go at h
  refine sp_intro [some (.ref (G.2.1 32)), some (.int v1), some (.int v2), none, none, none] hI (by decide) (Nat.le_of_ble_eq_true rfl) (fun _ hq => hq) (fun X _ C hQ => ?_)
  refine v_aload_n C dX6_go_0 rfl ?_
  refine v_iload_n C dX6_go_1 rfl ?_
  obtain ⟨r3, M1, c2, h⟩ := hB h
  refine v_callVi C (Mo_isColumn_ok (xl X) C.ig c2) ml_X6_259 mb_X6_isColumn mv_X6_isColumn rfl rfl rfl (Nat.le_of_ble_eq_true rfl) (by decide) (by decide) dX6_go_2 ?_
  refine v_if_eq (tgt := 20) C dX6_go_5 (by decide) (fun q => ?_) (fun q => ?_)
  · replace h := hT q h
    refine v_iconst (v := (-1)) C dX6_go_20 (by decide) ?_
    obtain ⟨rfl, rfl⟩ := hR h
    exact v_iret C hQ dX6_go_21
  · replace h := hF q h
    refine v_iload_n C dX6_go_8 rfl ?_
    refine v_i2l C dX6_go_9 ?_
    refine v_lconst (v := 0) C dX6_go_10 (by decide) ?_
    refine v_ldc2 (v := 4) C dX6_go_11 (tT 1015 (by decide +kernel) rfl) ?_
    obtain ⟨r6, M4, c5, h⟩ := hB h
    refine v_callSi C (Mo_in_ok (xl X) C.ig c5) ml_X6_64 mb_X6_in ms_X6_in rfl rfl (Nat.le_of_ble_eq_true rfl) (by decide) (by decide) dX6_go_14 ?_
    refine v_if_ne (tgt := 22) C dX6_go_17 (by decide) (fun q => ?_) (fun q => ?_)
    · replace h := hF q h
      refine v_iload_n C dX6_go_22 rfl ?_
      refine v_if_ne (tgt := 28) C dX6_go_23 (by decide) (fun q => ?_) (fun q => ?_)
      · replace h := hF q h
        refine v_aload_n C dX6_go_28 rfl ?_
        refine v_iload_n C dX6_go_29 rfl ?_
        refine v_iconst (v := 1) C dX6_go_30 (by decide) ?_
        obtain ⟨M7, c8, h⟩ := hV h
        refine v_callVv C (Mo_startsSteps_ok (xl X) C.ig c8) ml_X6_255 mb_X6_startsSteps mv_X6_startsSteps rfl rfl rfl (Nat.le_of_ble_eq_true rfl) (by decide) (by decide) dX6_go_31 ?_
        refine v_iconst (v := 0) C dX6_go_34 (by decide) ?_
        refine v_istore_n C dX6_go_35 (by decide) rfl ?_
        exact v_weak [true, false, false, true, false, false] (Mo_go_L36_ok C hQ _ _ _ h)
      · replace h := hT q h
        refine v_iconst (v := 1) C dX6_go_26 (by decide) ?_
        obtain ⟨rfl, rfl⟩ := hR h
        exact v_iret C hQ dX6_go_27
    · replace h := hT q h
      refine v_iconst (v := (-1)) C dX6_go_20 (by decide) ?_
      obtain ⟨rfl, rfl⟩ := hR h
      exact v_iret C hQ dX6_go_21
set_option maxHeartbeats 4000000 in
set_option maxRecDepth 100000 in
theorem Mo_set_ok (l : Launch) {G : GG} (hI : IG G) {M M' : Mem} {v1 : Int32} {v2 : Int32} {v3 : Int32} {v4 : Int32} {r : Int32} (h : Mo_set v1 v2 v3 v4 M = some (r, M')) : Sp l G yX6_set cX6_set 6 (some .int) 2 47 [.ref (G.2.1 32), .int v1, .int v2, .int v3, .int v4] M (some (.int r)) M' := by
  unfold Mo_set at h
  refine sp_intro [some (.ref (G.2.1 32)), some (.int v1), some (.int v2), some (.int v3), some (.int v4), none] hI (by decide) (Nat.le_of_ble_eq_true rfl) (fun _ hq => hq) (fun X _ C hQ => ?_)
  refine v_aload_n C dX6_set_0 rfl ?_
  refine v_iload_n C dX6_set_1 rfl ?_
  obtain ⟨r3, M1, c2, h⟩ := hB h
  refine v_callVi C (Mo_isTable_ok (xl X) C.ig c2) ml_X6_233 mb_X6_isTable mv_X6_isTable rfl rfl rfl (Nat.le_of_ble_eq_true rfl) (by decide) (by decide) dX6_set_2 ?_
  refine v_if_eq (tgt := 36) C dX6_set_5 (by decide) (fun q => ?_) (fun q => ?_)
  · replace h := hT q h
    refine v_iconst (v := (-1)) C dX6_set_36 (by decide) ?_
    obtain ⟨rfl, rfl⟩ := hR h
    exact v_iret C hQ dX6_set_37
  · replace h := hF q h
    refine v_aload_n C dX6_set_8 rfl ?_
    refine v_iload_n C dX6_set_9 rfl ?_
    refine v_iload_n C dX6_set_10 rfl ?_
    obtain ⟨r6, M4, c5, h⟩ := hB h
    refine v_callVi C (Mo_isPlace_ok (xl X) C.ig c5) ml_X6_236 mb_X6_isPlace mv_X6_isPlace rfl rfl rfl (Nat.le_of_ble_eq_true rfl) (by decide) (by decide) dX6_set_11 ?_
    refine v_if_eq (tgt := 36) C dX6_set_14 (by decide) (fun q => ?_) (fun q => ?_)
    · replace h := hT q h
      refine v_iconst (v := (-1)) C dX6_set_36 (by decide) ?_
      obtain ⟨rfl, rfl⟩ := hR h
      exact v_iret C hQ dX6_set_37
    · replace h := hF q h
      refine v_iload C dX6_set_17 rfl ?_
      refine v_i2l C dX6_set_19 ?_
      refine v_lconst (v := 0) C dX6_set_20 (by decide) ?_
      refine v_aload_n C dX6_set_21 rfl ?_
      refine v_getr (j := 33) C fk_X6_7 rfl dX6_set_22 ?_
      refine v_iconst (v := 0) C dX6_set_25 (by decide) ?_
      refine v_iald_k (k := 0) (n := 35) C rfl rfl (by decide) dX6_set_26 ?_
      refine v_iconst (v := 1) C dX6_set_27 (by decide) ?_
      refine v_isub C dX6_set_28 ?_
      refine v_i2l C dX6_set_29 ?_
      obtain ⟨r9, M7, c8, h⟩ := hB h
      refine v_callSi C (Mo_in_ok (xl X) C.ig c8) ml_X6_64 mb_X6_in ms_X6_in rfl rfl (Nat.le_of_ble_eq_true rfl) (by decide) (by decide) dX6_set_30 ?_
      refine v_if_ne (tgt := 38) C dX6_set_33 (by decide) (fun q => ?_) (fun q => ?_)
      · replace h := hF q h
        refine v_aload_n C dX6_set_38 rfl ?_
        refine v_iload_n C dX6_set_39 rfl ?_
        refine v_iload_n C dX6_set_40 rfl ?_
        refine v_iload_n C dX6_set_41 rfl ?_
        obtain ⟨r12, M10, c11, h⟩ := hB h
        refine v_callVi C (Mo_of_ok (xl X) C.ig c11) ml_X6_150 mb_X6_of mv_X6_of rfl rfl rfl (Nat.le_of_ble_eq_true rfl) (by decide) (by decide) dX6_set_42 ?_
        refine v_istore C dX6_set_45 (by decide) rfl ?_
        refine v_aload_n C dX6_set_47 rfl ?_
        refine v_iload_n C dX6_set_48 rfl ?_
        refine v_iload_n C dX6_set_49 rfl ?_
        refine v_iload_n C dX6_set_50 rfl ?_
        refine v_iload C dX6_set_51 rfl ?_
        obtain ⟨M13, c14, h⟩ := hV h
        refine v_callVv C (Mo_becomes_ok (xl X) C.ig c14) ml_X6_265 mb_X6_becomes mv_X6_becomes rfl rfl rfl (Nat.le_of_ble_eq_true rfl) (by decide) (by decide) dX6_set_53 ?_
        refine v_iload C dX6_set_56 rfl ?_
        obtain ⟨rfl, rfl⟩ := hR h
        exact v_iret C hQ dX6_set_58
      · replace h := hT q h
        refine v_iconst (v := (-1)) C dX6_set_36 (by decide) ?_
        obtain ⟨rfl, rfl⟩ := hR h
        exact v_iret C hQ dX6_set_37
