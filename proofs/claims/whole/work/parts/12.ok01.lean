set_option maxHeartbeats 4000000 in
set_option maxRecDepth 100000 in
theorem Pa_makeEmpty_ok (l : Launch) {G : GG} (hI : IG G) {M M' : Mem} {v0 : Nat} (h : Pa_makeEmpty v0 M = some M') : Sp l G yX1_makeEmpty cX1_makeEmpty 1 none 1 23 [.ref (G.2.1 v0)] M none M' := by
  unfold Pa_makeEmpty at h
  obtain ⟨g0, h⟩ := hG h
  refine sp_intro [some (.ref (G.2.1 v0))] hI (by decide) (Nat.le_of_ble_eq_true rfl) (fun _ hq => hq) (fun X _ C hQ => ?_)
  refine v_aload_n C dX1_makeEmpty_0 rfl ?_
  refine v_getr C fk_X1_11 (refP g0) dX1_makeEmpty_1 ?_
  refine v_iconst (v := 0) C dX1_makeEmpty_4 (by decide) ?_
  obtain ⟨M1, c2, h⟩ := hV h
  refine v_callSv C (Ja_fill_ok (xl X) C.ig c2) ml_X1_19 mb_J7_fill_53178 ms_J7_fill_53178 rfl rfl (Nat.le_of_ble_eq_true rfl) (by decide) (by decide) dX1_makeEmpty_5 ?_
  refine v_aload_n C dX1_makeEmpty_8 rfl ?_
  refine v_bipush (v := 7) C dX1_makeEmpty_9 (by decide) ?_
  refine v_puti C fk_X1_15 (intP1 g0) dX1_makeEmpty_11 ?_
  refine v_aload_n C dX1_makeEmpty_14 rfl ?_
  refine v_iconst (v := 0) C dX1_makeEmpty_15 (by decide) ?_
  refine v_puti C fk_X1_25 (intP2 g0) dX1_makeEmpty_16 ?_
  refine v_aload_n C dX1_makeEmpty_19 rfl ?_
  refine v_iconst (v := 0) C dX1_makeEmpty_20 (by decide) ?_
  refine v_puti C fk_X1_28 (intP3 g0) dX1_makeEmpty_21 ?_
  obtain rfl := hRv h
  exact v_vret C hQ dX1_makeEmpty_24
set_option maxHeartbeats 4000000 in
set_option maxRecDepth 100000 in
theorem Pa_takeFrom_ok (l : Launch) {G : GG} (hI : IG G) {M M' : Mem} {v0 : Nat} {v1 : Nat} (h : Pa_takeFrom v0 v1 M = some M') : Sp l G yX1_takeFrom cX1_takeFrom 2 none 1 40 [.ref (G.2.1 v0), .ref (G.2.1 v1)] M none M' := by
  unfold Pa_takeFrom at h
  obtain ⟨g0, h⟩ := hG h
  obtain ⟨g1, h⟩ := hG h
  refine sp_intro [some (.ref (G.2.1 v0)), some (.ref (G.2.1 v1))] hI (by decide) (Nat.le_of_ble_eq_true rfl) (fun _ hq => hq) (fun X _ C hQ => ?_)
  refine v_aload_n C dX1_takeFrom_0 rfl ?_
  refine v_getr C fk_X1_11 (refP g1) dX1_takeFrom_1 ?_
  refine v_iconst (v := 0) C dX1_takeFrom_4 (by decide) ?_
  refine v_aload_n C dX1_takeFrom_5 rfl ?_
  refine v_getr C fk_X1_11 (refP g0) dX1_takeFrom_6 ?_
  refine v_iconst (v := 0) C dX1_takeFrom_9 (by decide) ?_
  refine v_bipush (v := 32) C dX1_takeFrom_10 (by decide) ?_
  refine v_copy (n := 32) C (tT 350 (by decide +kernel) rfl) w_copy (arrP g1) (arrP g0) (by decide) (by decide) (by decide) (Nat.le_of_ble_eq_true rfl) dX1_takeFrom_12 ?_
  refine v_aload_n C dX1_takeFrom_15 rfl ?_
  refine v_aload_n C dX1_takeFrom_16 rfl ?_
  refine v_geti C fk_X1_15 (intP1 g1) dX1_takeFrom_17 ?_
  refine v_puti C fk_X1_15 (intP1 g0) dX1_takeFrom_20 ?_
  refine v_aload_n C dX1_takeFrom_23 rfl ?_
  refine v_aload_n C dX1_takeFrom_24 rfl ?_
  refine v_geti C fk_X1_25 (intP2 g1) dX1_takeFrom_25 ?_
  refine v_puti C fk_X1_25 (intP2 g0) dX1_takeFrom_28 ?_
  refine v_aload_n C dX1_takeFrom_31 rfl ?_
  refine v_aload_n C dX1_takeFrom_32 rfl ?_
  refine v_geti C fk_X1_28 (intP3 g1) dX1_takeFrom_33 ?_
  refine v_puti C fk_X1_28 (intP3 g0) dX1_takeFrom_36 ?_
  obtain rfl := hRv h
  exact v_vret C hQ dX1_takeFrom_39
set_option maxHeartbeats 4000000 in
set_option maxRecDepth 100000 in
theorem Pa_shape_ok (l : Launch) {G : GG} (hI : IG G) {M M' : Mem} {v0 : Nat} {r : Int32} (h : Pa_shape v0 M = some (r, M')) : Sp l G yX1_shape cX1_shape 1 (some .int) 0 0 [.ref (G.2.1 v0)] M (some (.int r)) M' := by
  unfold Pa_shape at h
  obtain ⟨g0, h⟩ := hG h
  refine sp_intro [some (.ref (G.2.1 v0))] hI (by decide) (Nat.le_of_ble_eq_true rfl) (fun _ hq => hq) (fun X _ C hQ => ?_)
  refine v_bipush (v := 10) C dX1_shape_0 (by decide) ?_
  refine v_aload_n C dX1_shape_2 rfl ?_
  refine v_geti C fk_X1_25 (intP2 g0) dX1_shape_3 ?_
  refine v_imul C dX1_shape_6 ?_
  refine v_aload_n C dX1_shape_7 rfl ?_
  refine v_geti C fk_X1_28 (intP3 g0) dX1_shape_8 ?_
  refine v_iadd C dX1_shape_11 ?_
  obtain ⟨rfl, rfl⟩ := hR h
  exact v_iret C hQ dX1_shape_12
set_option maxHeartbeats 4000000 in
set_option maxRecDepth 100000 in
theorem Pa_linesOf_ok (l : Launch) {G : GG} (hI : IG G) {M M' : Mem} {v0 : Nat} {v1 : Int32} {r : Int32} (h : Pa_linesOf v0 v1 M = some (r, M')) : Sp l G yX1_linesOf cX1_linesOf 2 (some .int) 0 0 [.ref (G.2.1 v0), .int v1] M (some (.int r)) M' := by
  unfold Pa_linesOf at h
  obtain ⟨g0, h⟩ := hG h
  refine sp_intro [some (.ref (G.2.1 v0)), some (.int v1)] hI (by decide) (Nat.le_of_ble_eq_true rfl) (fun _ hq => hq) (fun X _ C hQ => ?_)
  refine v_iload_n C dX1_linesOf_0 rfl ?_
  refine v_if_ne (tgt := 11) C dX1_linesOf_1 (by decide) (fun q => ?_) (fun q => ?_)
  · replace h := hF q h
    refine v_aload_n C dX1_linesOf_11 rfl ?_
    refine v_geti C fk_X1_28 (intP3 g0) dX1_linesOf_12 ?_
    obtain ⟨rfl, rfl⟩ := hR h
    exact v_iret C hQ dX1_linesOf_15
  · replace h := hT q h
    refine v_aload_n C dX1_linesOf_4 rfl ?_
    refine v_geti C fk_X1_25 (intP2 g0) dX1_linesOf_5 ?_
    refine v_goto (tgt := 15) C dX1_linesOf_8 (by decide) ?_
    obtain ⟨rfl, rfl⟩ := hR h
    exact v_iret C hQ dX1_linesOf_15
set_option maxHeartbeats 4000000 in
set_option maxRecDepth 100000 in
theorem Pf_isSide_ok (l : Launch) {G : GG} (hI : IG G) {M M' : Mem} {v0 : Int32} {r : Int32} (h : Pf_isSide v0 M = some (r, M')) : Sp l G yX5_isSide cX5_isSide 1 (some .boolean) 0 0 [.int v0] M (some (.int r)) M' := by
  unfold Pf_isSide at h
  refine sp_intro [some (.int v0)] hI (by decide) (Nat.le_of_ble_eq_true rfl) (fun _ hq => hq) (fun X _ C hQ => ?_)
  refine v_iload_n C dX5_isSide_0 rfl ?_
  refine v_if_eq (tgt := 9) C dX5_isSide_1 (by decide) (fun q => ?_) (fun q => ?_)
  · replace h := hT q h
    refine v_iconst (v := 1) C dX5_isSide_9 (by decide) ?_
    refine v_goto (tgt := 14) C dX5_isSide_10 (by decide) ?_
    obtain ⟨rfl, rfl⟩ := hR h
    exact v_zret C hQ rfl dX5_isSide_14
  · replace h := hF q h
    refine v_iload_n C dX5_isSide_4 rfl ?_
    refine v_iconst (v := 1) C dX5_isSide_5 (by decide) ?_
    refine v_icmp_ne (tgt := 13) C dX5_isSide_6 (by decide) (fun q => ?_) (fun q => ?_)
    · replace h := hF q h
      refine v_iconst (v := 0) C dX5_isSide_13 (by decide) ?_
      obtain ⟨rfl, rfl⟩ := hR h
      exact v_zret C hQ rfl dX5_isSide_14
    · replace h := hT q h
      refine v_iconst (v := 1) C dX5_isSide_9 (by decide) ?_
      refine v_goto (tgt := 14) C dX5_isSide_10 (by decide) ?_
      obtain ⟨rfl, rfl⟩ := hR h
      exact v_zret C hQ rfl dX5_isSide_14
set_option maxHeartbeats 4000000 in
set_option maxRecDepth 100000 in
theorem Pa_hasLine_ok (l : Launch) {G : GG} (hI : IG G) {M M' : Mem} {v0 : Nat} {v1 : Int32} {v2 : Int32} {r : Int32} (h : Pa_hasLine v0 v1 v2 M = some (r, M')) : Sp l G yX1_hasLine cX1_hasLine 3 (some .boolean) 1 21 [.ref (G.2.1 v0), .int v1, .int v2] M (some (.int r)) M' := by
  unfold Pa_hasLine at h
  obtain ⟨g0, h⟩ := hG h
  refine sp_intro [some (.ref (G.2.1 v0)), some (.int v1), some (.int v2)] hI (by decide) (Nat.le_of_ble_eq_true rfl) (fun _ hq => hq) (fun X _ C hQ => ?_)
  refine v_iload_n C dX1_hasLine_0 rfl ?_
  obtain ⟨r3, M1, c2, h⟩ := hB h
  refine v_callSi C (Pf_isSide_ok (xl X) C.ig c2) ml_X1_37 mb_X5_isSide ms_X5_isSide rfl rfl (Nat.le_of_ble_eq_true rfl) (by decide) (by decide) dX1_hasLine_1 ?_
  refine v_if_eq (tgt := 24) C dX1_hasLine_4 (by decide) (fun q => ?_) (fun q => ?_)
  · replace h := hT q h
    refine v_iconst (v := 0) C dX1_hasLine_24 (by decide) ?_
    obtain ⟨rfl, rfl⟩ := hR h
    exact v_zret C hQ rfl dX1_hasLine_25
  · replace h := hF q h
    refine v_iload_n C dX1_hasLine_7 rfl ?_
    refine v_if_lt (tgt := 24) C dX1_hasLine_8 (by decide) (fun q => ?_) (fun q => ?_)
    · replace h := hT q h
      refine v_iconst (v := 0) C dX1_hasLine_24 (by decide) ?_
      obtain ⟨rfl, rfl⟩ := hR h
      exact v_zret C hQ rfl dX1_hasLine_25
    · replace h := hF q h
      refine v_iload_n C dX1_hasLine_11 rfl ?_
      refine v_aload_n C dX1_hasLine_12 rfl ?_
      refine v_iload_n C dX1_hasLine_13 rfl ?_
      obtain ⟨r6, M4, c5, h⟩ := hB h
      refine v_callVi C (Pa_linesOf_ok (xl X) C.ig c5) ml_X1_41 mb_X1_linesOf mv_X1_linesOf g0 rfl rfl (Nat.le_of_ble_eq_true rfl) (by decide) (by decide) dX1_hasLine_14 ?_
      refine v_icmp_ge (tgt := 24) C dX1_hasLine_17 (by decide) (fun q => ?_) (fun q => ?_)
      · replace h := hT q h
        refine v_iconst (v := 0) C dX1_hasLine_24 (by decide) ?_
        obtain ⟨rfl, rfl⟩ := hR h
        exact v_zret C hQ rfl dX1_hasLine_25
      · replace h := hF q h
        refine v_iconst (v := 1) C dX1_hasLine_20 (by decide) ?_
        refine v_goto (tgt := 25) C dX1_hasLine_21 (by decide) ?_
        obtain ⟨rfl, rfl⟩ := hR h
        exact v_zret C hQ rfl dX1_hasLine_25
set_option maxHeartbeats 4000000 in
set_option maxRecDepth 100000 in
theorem Pa_putValue_ok (l : Launch) {G : GG} (hI : IG G) {M M' : Mem} {v0 : Nat} {v1 : Int32} {v2 : Int32} {v3 : Int32} {v4 : Int32} (h : Pa_putValue v0 v1 v2 v3 v4 M = some M') : Sp l G yX1_putValue cX1_putValue 5 none 1 23 [.ref (G.2.1 v0), .int v1, .int v2, .int v3, .int v4] M none M' := by
  unfold Pa_putValue at h
  obtain ⟨g0, h⟩ := hG h
  refine sp_intro [some (.ref (G.2.1 v0)), some (.int v1), some (.int v2), some (.int v3), some (.int v4)] hI (by decide) (Nat.le_of_ble_eq_true rfl) (fun _ hq => hq) (fun X _ C hQ => ?_)
  refine v_aload_n C dX1_putValue_0 rfl ?_
  refine v_iload_n C dX1_putValue_1 rfl ?_
  refine v_iload_n C dX1_putValue_2 rfl ?_
  refine v_iload_n C dX1_putValue_3 rfl ?_
  obtain ⟨r3, M1, c2, h⟩ := hB h
  refine v_callVi C (Pa_hasPlace_ok (xl X) C.ig c2) ml_X1_45 mb_X1_hasPlace mv_X1_hasPlace g0 rfl rfl (Nat.le_of_ble_eq_true rfl) (by decide) (by decide) dX1_putValue_4 ?_
  refine v_if_eq (tgt := 23) C dX1_putValue_7 (by decide) (fun q => ?_) (fun q => ?_)
  · replace h := hT q h
    obtain rfl := hRv h
    exact v_vret C hQ dX1_putValue_23
  · replace h := hF q h
    refine v_aload_n C dX1_putValue_10 rfl ?_
    refine v_getr C fk_X1_11 (refP g0) dX1_putValue_11 ?_
    refine v_iload_n C dX1_putValue_14 rfl ?_
    refine v_iload_n C dX1_putValue_15 rfl ?_
    refine v_iload_n C dX1_putValue_16 rfl ?_
    obtain ⟨r6, M4, c5, h⟩ := hB h
    refine v_callSi C (Pa_spot_ok (xl X) C.ig c5) ml_X1_49 mb_X1_spot ms_X1_spot rfl rfl (Nat.le_of_ble_eq_true rfl) (by decide) (by decide) dX1_putValue_17 ?_
    refine v_iload C dX1_putValue_20 rfl ?_
    obtain ⟨q7, h⟩ := hG h
    refine v_iast C (arrP g0) q7 dX1_putValue_22 ?_
    obtain rfl := hRv h
    exact v_vret C hQ dX1_putValue_23
set_option maxHeartbeats 4000000 in
set_option maxRecDepth 100000 in
theorem Pa_growTo_ok (l : Launch) {G : GG} (hI : IG G) {M M' : Mem} {v0 : Nat} {v1 : Int32} {v2 : Int32} (h : Pa_growTo v0 v1 v2 M = some M') : Sp l G yX1_growTo cX1_growTo 3 none 1 21 [.ref (G.2.1 v0), .int v1, .int v2] M none M' := by
  unfold Pa_growTo at h
  obtain ⟨g0, h⟩ := hG h
  refine sp_intro [some (.ref (G.2.1 v0)), some (.int v1), some (.int v2)] hI (by decide) (Nat.le_of_ble_eq_true rfl) (fun _ hq => hq) (fun X _ C hQ => ?_)
  refine v_aload_n C dX1_growTo_0 rfl ?_
  refine v_iload_n C dX1_growTo_1 rfl ?_
  refine v_iconst (v := 4) C dX1_growTo_2 (by decide) ?_
  refine v_mmin C (tT 332 (by decide +kernel) rfl) w_mmin (by decide) (Nat.le_of_ble_eq_true rfl) dX1_growTo_3 ?_
  refine v_puti C fk_X1_25 (intP2 g0) dX1_growTo_6 ?_
  refine v_aload_n C dX1_growTo_9 rfl ?_
  refine v_iload_n C dX1_growTo_10 rfl ?_
  refine v_iconst (v := 4) C dX1_growTo_11 (by decide) ?_
  refine v_mmin C (tT 332 (by decide +kernel) rfl) w_mmin (by decide) (Nat.le_of_ble_eq_true rfl) dX1_growTo_12 ?_
  refine v_puti C fk_X1_28 (intP3 g0) dX1_growTo_15 ?_
  obtain rfl := hRv h
  exact v_vret C hQ dX1_growTo_18
set_option maxHeartbeats 4000000 in
set_option maxRecDepth 100000 in
theorem Pa_addLine_ok (l : Launch) {G : GG} (hI : IG G) {M M' : Mem} {v0 : Nat} {v1 : Int32} (h : Pa_addLine v0 v1 M = some M') : Sp l G yX1_addLine cX1_addLine 2 none 2 43 [.ref (G.2.1 v0), .int v1] M none M' := by
  unfold Pa_addLine at h
  obtain ⟨g0, h⟩ := hG h
  refine sp_intro [some (.ref (G.2.1 v0)), some (.int v1)] hI (by decide) (Nat.le_of_ble_eq_true rfl) (fun _ hq => hq) (fun X _ C hQ => ?_)
  refine v_iload_n C dX1_addLine_0 rfl ?_
  refine v_if_ne (tgt := 21) C dX1_addLine_1 (by decide) (fun q => ?_) (fun q => ?_)
  · replace h := hF q h
    refine v_aload_n C dX1_addLine_21 rfl ?_
    refine v_aload_n C dX1_addLine_22 rfl ?_
    refine v_geti C fk_X1_25 (intP2 g0) dX1_addLine_23 ?_
    refine v_aload_n C dX1_addLine_26 rfl ?_
    refine v_geti C fk_X1_28 (intP3 g0) dX1_addLine_27 ?_
    refine v_iconst (v := 1) C dX1_addLine_30 (by decide) ?_
    refine v_iadd C dX1_addLine_31 ?_
    obtain ⟨M1, c2, h⟩ := hV h
    refine v_callVv C (Pa_growTo_ok (xl X) C.ig c2) ml_X1_53 mb_X1_growTo mv_X1_growTo g0 rfl rfl (Nat.le_of_ble_eq_true rfl) (by decide) (by decide) dX1_addLine_32 ?_
    obtain rfl := hRv h
    exact v_vret C hQ dX1_addLine_35
  · replace h := hT q h
    refine v_aload_n C dX1_addLine_4 rfl ?_
    refine v_aload_n C dX1_addLine_5 rfl ?_
    refine v_geti C fk_X1_25 (intP2 g0) dX1_addLine_6 ?_
    refine v_iconst (v := 1) C dX1_addLine_9 (by decide) ?_
    refine v_iadd C dX1_addLine_10 ?_
    refine v_aload_n C dX1_addLine_11 rfl ?_
    refine v_geti C fk_X1_28 (intP3 g0) dX1_addLine_12 ?_
    obtain ⟨M3, c4, h⟩ := hV h
    refine v_callVv C (Pa_growTo_ok (xl X) C.ig c4) ml_X1_53 mb_X1_growTo mv_X1_growTo g0 rfl rfl (Nat.le_of_ble_eq_true rfl) (by decide) (by decide) dX1_addLine_15 ?_
    refine v_goto (tgt := 35) C dX1_addLine_18 (by decide) ?_
    obtain rfl := hRv h
    exact v_vret C hQ dX1_addLine_35
set_option maxHeartbeats 4000000 in
set_option maxRecDepth 100000 in
theorem Pa_shrinkTo_b53_ok {X : XX} {G : GG} (C : Cx X G cX1_shrinkTo 6 RX1 2 47 none) {M' : Mem} (hQ : Rt X G none M') {k2 : Nat → Int32 → Int32 → Int32 → Mem → Option Mem} {k10 : Nat → Int32 → Int32 → Int32 → Int32 → Mem → Option Mem} {k22 : Nat → Int32 → Int32 → Int32 → Int32 → Int32 → Mem → Option Mem} (H2 : ∀ (v0 : Nat) (v1 : Int32) (v2 : Int32) (v3 : Int32) (M : Mem), isP v0 = true → k2 v0 v1 v2 v3 M = some M' → V X G 6 M 2 [some (.ref (G.2.1 v0)), some (.int v1), some (.int v2), some (.int v3), none, none] []) (H10 : ∀ (v0 : Nat) (v1 : Int32) (v2 : Int32) (v3 : Int32) (v4 : Int32) (M : Mem), isP v0 = true → k10 v0 v1 v2 v3 v4 M = some M' → V X G 6 M 10 [some (.ref (G.2.1 v0)), some (.int v1), some (.int v2), some (.int v3), some (.int v4), none] []) (H22 : ∀ (v0 : Nat) (v1 : Int32) (v2 : Int32) (v3 : Int32) (v4 : Int32) (v5 : Int32) (M : Mem), isP v0 = true → k22 v0 v1 v2 v3 v4 v5 M = some M' → V X G 6 M 22 [some (.ref (G.2.1 v0)), some (.int v1), some (.int v2), some (.int v3), some (.int v4), some (.int v5)] []) {v0 : Nat} {v1 : Int32} {v2 : Int32} {v3 : Int32} {v4 : Int32} {v5 : Int32} {M : Mem} (g0 : isP v0 = true) (h : Pa_shrinkTo_b53 k2 k10 k22 v0 v1 v2 v3 v4 v5 M = some M') : V X G 6 M 53 [some (.ref (G.2.1 v0)), some (.int v1), some (.int v2), some (.int v3), some (.int v4), some (.int v5)] [] := by
  unfold Pa_shrinkTo_b53 at h
  refine v_iinc (v := 1) C dX1_shrinkTo_53 rfl (by decide) (by decide) rfl ?_
  refine v_goto (tgt := 22) C dX1_shrinkTo_56 (by decide) ?_
  exact v_weak [true, true, true, true, true, true] (H22 _ _ _ _ _ _ _ g0 h)
set_option maxHeartbeats 4000000 in
set_option maxRecDepth 100000 in
theorem Pa_shrinkTo_b43_ok {X : XX} {G : GG} (C : Cx X G cX1_shrinkTo 6 RX1 2 47 none) {M' : Mem} (hQ : Rt X G none M') {k2 : Nat → Int32 → Int32 → Int32 → Mem → Option Mem} {k10 : Nat → Int32 → Int32 → Int32 → Int32 → Mem → Option Mem} {k22 : Nat → Int32 → Int32 → Int32 → Int32 → Int32 → Mem → Option Mem} (H2 : ∀ (v0 : Nat) (v1 : Int32) (v2 : Int32) (v3 : Int32) (M : Mem), isP v0 = true → k2 v0 v1 v2 v3 M = some M' → V X G 6 M 2 [some (.ref (G.2.1 v0)), some (.int v1), some (.int v2), some (.int v3), none, none] []) (H10 : ∀ (v0 : Nat) (v1 : Int32) (v2 : Int32) (v3 : Int32) (v4 : Int32) (M : Mem), isP v0 = true → k10 v0 v1 v2 v3 v4 M = some M' → V X G 6 M 10 [some (.ref (G.2.1 v0)), some (.int v1), some (.int v2), some (.int v3), some (.int v4), none] []) (H22 : ∀ (v0 : Nat) (v1 : Int32) (v2 : Int32) (v3 : Int32) (v4 : Int32) (v5 : Int32) (M : Mem), isP v0 = true → k22 v0 v1 v2 v3 v4 v5 M = some M' → V X G 6 M 22 [some (.ref (G.2.1 v0)), some (.int v1), some (.int v2), some (.int v3), some (.int v4), some (.int v5)] []) {v0 : Nat} {v1 : Int32} {v2 : Int32} {v3 : Int32} {v4 : Int32} {v5 : Int32} {M : Mem} (g0 : isP v0 = true) (h : Pa_shrinkTo_b43 k2 k10 k22 v0 v1 v2 v3 v4 v5 M = some M') : V X G 6 M 43 [some (.ref (G.2.1 v0)), some (.int v1), some (.int v2), some (.int v3), some (.int v4), some (.int v5)] [] := by
  unfold Pa_shrinkTo_b43 at h
  refine v_aload_n C dX1_shrinkTo_43 rfl ?_
  refine v_iload_n C dX1_shrinkTo_44 rfl ?_
  refine v_iload C dX1_shrinkTo_45 rfl ?_
  refine v_iload C dX1_shrinkTo_47 rfl ?_
  refine v_iconst (v := 0) C dX1_shrinkTo_49 (by decide) ?_
  obtain ⟨M1, c2, h⟩ := hV h
  refine v_callVv C (Pa_putValue_ok (xl X) C.ig c2) ml_X1_63 mb_X1_putValue mv_X1_putValue g0 rfl rfl (Nat.le_of_ble_eq_true rfl) (by decide) (by decide) dX1_shrinkTo_50 ?_
  exact v_weak [true, true, true, true, true, true] (Pa_shrinkTo_b53_ok C hQ H2 H10 H22 g0 h)
set_option maxHeartbeats 4000000 in
set_option maxRecDepth 100000 in
theorem Pa_shrinkTo_L22_ok {X : XX} {G : GG} (C : Cx X G cX1_shrinkTo 6 RX1 2 47 none) {M' : Mem} (hQ : Rt X G none M') {k2 : Nat → Int32 → Int32 → Int32 → Mem → Option Mem} {k10 : Nat → Int32 → Int32 → Int32 → Int32 → Mem → Option Mem} (H2 : ∀ (v0 : Nat) (v1 : Int32) (v2 : Int32) (v3 : Int32) (M : Mem), isP v0 = true → k2 v0 v1 v2 v3 M = some M' → V X G 6 M 2 [some (.ref (G.2.1 v0)), some (.int v1), some (.int v2), some (.int v3), none, none] []) (H10 : ∀ (v0 : Nat) (v1 : Int32) (v2 : Int32) (v3 : Int32) (v4 : Int32) (M : Mem), isP v0 = true → k10 v0 v1 v2 v3 v4 M = some M' → V X G 6 M 10 [some (.ref (G.2.1 v0)), some (.int v1), some (.int v2), some (.int v3), some (.int v4), none] []) : ∀ (n : Nat) (v0 : Nat) (v1 : Int32) (v2 : Int32) (v3 : Int32) (v4 : Int32) (v5 : Int32) (M : Mem), isP v0 = true → Pa_shrinkTo_L22 k2 k10 n v0 v1 v2 v3 v4 v5 M = some M' → V X G 6 M 22 [some (.ref (G.2.1 v0)), some (.int v1), some (.int v2), some (.int v3), some (.int v4), some (.int v5)] [] := by
  intro n
  induction n with
  | zero =>
    intro v0 v1 v2 v3 v4 v5 M g0 h
    simp [Pa_shrinkTo_L22] at h
  | succ n ih =>
    intro v0 v1 v2 v3 v4 v5 M g0 h
    rw [Pa_shrinkTo_L22] at h
    refine v_iload C dX1_shrinkTo_22 rfl ?_
    refine v_aload_n C dX1_shrinkTo_24 rfl ?_
    refine v_geti C fk_X1_28 (intP3 g0) dX1_shrinkTo_25 ?_
    refine v_icmp_ge (tgt := 59) C dX1_shrinkTo_28 (by decide) (fun q => ?_) (fun q => ?_)
    · replace h := hT q h
      refine v_iinc (v := 1) C dX1_shrinkTo_59 rfl (by decide) (by decide) rfl ?_
      refine v_goto (tgt := 10) C dX1_shrinkTo_62 (by decide) ?_
      exact v_weak [true, true, true, true, true, false] (H10 _ _ _ _ _ _ g0 h)
    · replace h := hF q h
      refine v_iload C dX1_shrinkTo_31 rfl ?_
      refine v_iload_n C dX1_shrinkTo_33 rfl ?_
      refine v_icmp_ge (tgt := 43) C dX1_shrinkTo_34 (by decide) (fun q => ?_) (fun q => ?_)
      · replace h := hT q h
        exact v_weak [true, true, true, true, true, true] (Pa_shrinkTo_b43_ok C hQ H2 H10 ih g0 h)
      · replace h := hF q h
        refine v_iload C dX1_shrinkTo_37 rfl ?_
        refine v_iload_n C dX1_shrinkTo_39 rfl ?_
        refine v_icmp_lt (tgt := 53) C dX1_shrinkTo_40 (by decide) (fun q => ?_) (fun q => ?_)
        · replace h := hT q h
          exact v_weak [true, true, true, true, true, true] (Pa_shrinkTo_b53_ok C hQ H2 H10 ih g0 h)
        · replace h := hF q h
          exact v_weak [true, true, true, true, true, true] (Pa_shrinkTo_b43_ok C hQ H2 H10 ih g0 h)
set_option maxHeartbeats 4000000 in
set_option maxRecDepth 100000 in
theorem Pa_shrinkTo_L10_ok {X : XX} {G : GG} (C : Cx X G cX1_shrinkTo 6 RX1 2 47 none) {M' : Mem} (hQ : Rt X G none M') {k2 : Nat → Int32 → Int32 → Int32 → Mem → Option Mem} (H2 : ∀ (v0 : Nat) (v1 : Int32) (v2 : Int32) (v3 : Int32) (M : Mem), isP v0 = true → k2 v0 v1 v2 v3 M = some M' → V X G 6 M 2 [some (.ref (G.2.1 v0)), some (.int v1), some (.int v2), some (.int v3), none, none] []) : ∀ (n : Nat) (v0 : Nat) (v1 : Int32) (v2 : Int32) (v3 : Int32) (v4 : Int32) (M : Mem), isP v0 = true → Pa_shrinkTo_L10 k2 n v0 v1 v2 v3 v4 M = some M' → V X G 6 M 10 [some (.ref (G.2.1 v0)), some (.int v1), some (.int v2), some (.int v3), some (.int v4), none] [] := by
  intro n
  induction n with
  | zero =>
    intro v0 v1 v2 v3 v4 M g0 h
    simp [Pa_shrinkTo_L10] at h
  | succ n ih =>
    intro v0 v1 v2 v3 v4 M g0 h
    rw [Pa_shrinkTo_L10] at h
    refine v_iload C dX1_shrinkTo_10 rfl ?_
    refine v_aload_n C dX1_shrinkTo_12 rfl ?_
    refine v_geti C fk_X1_25 (intP2 g0) dX1_shrinkTo_13 ?_
    refine v_icmp_ge (tgt := 65) C dX1_shrinkTo_16 (by decide) (fun q => ?_) (fun q => ?_)
    · replace h := hT q h
      refine v_iinc (v := 1) C dX1_shrinkTo_65 rfl (by decide) (by decide) rfl ?_
      refine v_goto (tgt := 2) C dX1_shrinkTo_68 (by decide) ?_
      exact v_weak [true, true, true, true, false, false] (H2 _ _ _ _ _ g0 h)
    · replace h := hF q h
      refine v_iconst (v := 0) C dX1_shrinkTo_19 (by decide) ?_
      refine v_istore C dX1_shrinkTo_20 (by decide) rfl ?_
      exact v_weak [true, true, true, true, true, true] (Pa_shrinkTo_L22_ok C hQ H2 ih _ _ _ _ _ _ _ _ g0 h)
set_option maxHeartbeats 4000000 in
set_option maxRecDepth 100000 in
theorem Pa_shrinkTo_L2_ok {X : XX} {G : GG} (C : Cx X G cX1_shrinkTo 6 RX1 2 47 none) {M' : Mem} (hQ : Rt X G none M')   : ∀ (n : Nat) (v0 : Nat) (v1 : Int32) (v2 : Int32) (v3 : Int32) (M : Mem), isP v0 = true → Pa_shrinkTo_L2 n v0 v1 v2 v3 M = some M' → V X G 6 M 2 [some (.ref (G.2.1 v0)), some (.int v1), some (.int v2), some (.int v3), none, none] [] := by
  intro n
  induction n with
  | zero =>
    intro v0 v1 v2 v3 M g0 h
    simp [Pa_shrinkTo_L2] at h
  | succ n ih =>
    intro v0 v1 v2 v3 M g0 h
    rw [Pa_shrinkTo_L2] at h
    refine v_iload_n C dX1_shrinkTo_2 rfl ?_
    refine v_iconst (v := 2) C dX1_shrinkTo_3 (by decide) ?_
    refine v_icmp_ge (tgt := 71) C dX1_shrinkTo_4 (by decide) (fun q => ?_) (fun q => ?_)
    · replace h := hT q h
      refine v_aload_n C dX1_shrinkTo_71 rfl ?_
      refine v_iload_n C dX1_shrinkTo_72 rfl ?_
      refine v_puti C fk_X1_25 (intP2 g0) dX1_shrinkTo_73 ?_
      refine v_aload_n C dX1_shrinkTo_76 rfl ?_
      refine v_iload_n C dX1_shrinkTo_77 rfl ?_
      refine v_puti C fk_X1_28 (intP3 g0) dX1_shrinkTo_78 ?_
      obtain rfl := hRv h
      exact v_vret C hQ dX1_shrinkTo_81
    · replace h := hF q h
      refine v_iconst (v := 0) C dX1_shrinkTo_7 (by decide) ?_
      refine v_istore C dX1_shrinkTo_8 (by decide) rfl ?_
      exact v_weak [true, true, true, true, true, false] (Pa_shrinkTo_L10_ok C hQ ih _ _ _ _ _ _ _ g0 h)
set_option maxHeartbeats 4000000 in
set_option maxRecDepth 100000 in
theorem Pa_shrinkTo_ok (l : Launch) {G : GG} (hI : IG G) {M M' : Mem} {v0 : Nat} {v1 : Int32} {v2 : Int32} (h : Pa_shrinkTo v0 v1 v2 M = some M') : Sp l G yX1_shrinkTo cX1_shrinkTo 6 none 2 47 [.ref (G.2.1 v0), .int v1, .int v2] M none M' := by
  unfold Pa_shrinkTo at h
  obtain ⟨g0, h⟩ := hG h
  refine sp_intro [some (.ref (G.2.1 v0)), some (.int v1), some (.int v2), none, none, none] hI (by decide) (Nat.le_of_ble_eq_true rfl) (fun _ hq => hq) (fun X _ C hQ => ?_)
  refine v_iconst (v := 0) C dX1_shrinkTo_0 (by decide) ?_
  refine v_istore_n C dX1_shrinkTo_1 (by decide) rfl ?_
  exact v_weak [true, true, true, true, false, false] (Pa_shrinkTo_L2_ok C hQ _ _ _ _ _ _ g0 h)
set_option maxHeartbeats 4000000 in
set_option maxRecDepth 100000 in
theorem Pa_onLine_ok (l : Launch) {G : GG} (hI : IG G) {M M' : Mem} {v0 : Nat} {v1 : Int32} {v2 : Int32} {v3 : Int32} {v4 : Int32} {r : Int32} (h : Pa_onLine v0 v1 v2 v3 v4 M = some (r, M')) : Sp l G yX1_onLine cX1_onLine 5 (some .int) 2 46 [.ref (G.2.1 v0), .int v1, .int v2, .int v3, .int v4] M (some (.int r)) M' := by
  unfold Pa_onLine at h
  obtain ⟨g0, h⟩ := hG h
  refine sp_intro [some (.ref (G.2.1 v0)), some (.int v1), some (.int v2), some (.int v3), some (.int v4)] hI (by decide) (Nat.le_of_ble_eq_true rfl) (fun _ hq => hq) (fun X _ C hQ => ?_)
  refine v_iload_n C dX1_onLine_0 rfl ?_
  refine v_if_ne (tgt := 15) C dX1_onLine_1 (by decide) (fun q => ?_) (fun q => ?_)
  · replace h := hF q h
    refine v_aload_n C dX1_onLine_15 rfl ?_
    refine v_iload_n C dX1_onLine_16 rfl ?_
    refine v_iload C dX1_onLine_17 rfl ?_
    refine v_iload_n C dX1_onLine_19 rfl ?_
    obtain ⟨r3, M1, c2, h⟩ := hB h
    refine v_callVi C (Pa_valueAt_ok (xl X) C.ig c2) ml_X1_81 mb_X1_valueAt mv_X1_valueAt g0 rfl rfl (Nat.le_of_ble_eq_true rfl) (by decide) (by decide) dX1_onLine_20 ?_
    obtain ⟨rfl, rfl⟩ := hR h
    exact v_iret C hQ dX1_onLine_23
  · replace h := hT q h
    refine v_aload_n C dX1_onLine_4 rfl ?_
    refine v_iload_n C dX1_onLine_5 rfl ?_
    refine v_iload_n C dX1_onLine_6 rfl ?_
    refine v_iload C dX1_onLine_7 rfl ?_
    obtain ⟨r6, M4, c5, h⟩ := hB h
    refine v_callVi C (Pa_valueAt_ok (xl X) C.ig c5) ml_X1_81 mb_X1_valueAt mv_X1_valueAt g0 rfl rfl (Nat.le_of_ble_eq_true rfl) (by decide) (by decide) dX1_onLine_9 ?_
    refine v_goto (tgt := 23) C dX1_onLine_12 (by decide) ?_
    obtain ⟨rfl, rfl⟩ := hR h
    exact v_iret C hQ dX1_onLine_23
set_option maxHeartbeats 4000000 in
set_option maxRecDepth 100000 in
theorem Pa_putOnLine_ok (l : Launch) {G : GG} (hI : IG G) {M M' : Mem} {v0 : Nat} {v1 : Int32} {v2 : Int32} {v3 : Int32} {v4 : Int32} {v5 : Int32} (h : Pa_putOnLine v0 v1 v2 v3 v4 v5 M = some M') : Sp l G yX1_putOnLine cX1_putOnLine 6 none 2 47 [.ref (G.2.1 v0), .int v1, .int v2, .int v3, .int v4, .int v5] M none M' := by
  unfold Pa_putOnLine at h
  obtain ⟨g0, h⟩ := hG h
  refine sp_intro [some (.ref (G.2.1 v0)), some (.int v1), some (.int v2), some (.int v3), some (.int v4), some (.int v5)] hI (by decide) (Nat.le_of_ble_eq_true rfl) (fun _ hq => hq) (fun X _ C hQ => ?_)
  refine v_iload_n C dX1_putOnLine_0 rfl ?_
  refine v_if_ne (tgt := 17) C dX1_putOnLine_1 (by decide) (fun q => ?_) (fun q => ?_)
  · replace h := hF q h
    refine v_aload_n C dX1_putOnLine_17 rfl ?_
    refine v_iload_n C dX1_putOnLine_18 rfl ?_
    refine v_iload C dX1_putOnLine_19 rfl ?_
    refine v_iload_n C dX1_putOnLine_21 rfl ?_
    refine v_iload C dX1_putOnLine_22 rfl ?_
    obtain ⟨M1, c2, h⟩ := hV h
    refine v_callVv C (Pa_putValue_ok (xl X) C.ig c2) ml_X1_63 mb_X1_putValue mv_X1_putValue g0 rfl rfl (Nat.le_of_ble_eq_true rfl) (by decide) (by decide) dX1_putOnLine_24 ?_
    obtain rfl := hRv h
    exact v_vret C hQ dX1_putOnLine_27
  · replace h := hT q h
    refine v_aload_n C dX1_putOnLine_4 rfl ?_
    refine v_iload_n C dX1_putOnLine_5 rfl ?_
    refine v_iload_n C dX1_putOnLine_6 rfl ?_
    refine v_iload C dX1_putOnLine_7 rfl ?_
    refine v_iload C dX1_putOnLine_9 rfl ?_
    obtain ⟨M3, c4, h⟩ := hV h
    refine v_callVv C (Pa_putValue_ok (xl X) C.ig c4) ml_X1_63 mb_X1_putValue mv_X1_putValue g0 rfl rfl (Nat.le_of_ble_eq_true rfl) (by decide) (by decide) dX1_putOnLine_11 ?_
    refine v_goto (tgt := 27) C dX1_putOnLine_14 (by decide) ?_
    obtain rfl := hRv h
    exact v_vret C hQ dX1_putOnLine_27
set_option maxHeartbeats 4000000 in
set_option maxRecDepth 100000 in
theorem Pa_mixLines_L12_ok {X : XX} {G : GG} (C : Cx X G cX1_mixLines 8 RX1 3 72 none) {M' : Mem} (hQ : Rt X G none M') {k3 : Nat → Int32 → Int32 → Int32 → Int32 → Int32 → Mem → Option Mem} (H3 : ∀ (v0 : Nat) (v1 : Int32) (v2 : Int32) (v3 : Int32) (v4 : Int32) (v5 : Int32) (M : Mem), isP v0 = true → k3 v0 v1 v2 v3 v4 v5 M = some M' → V X G 8 M 3 [some (.ref (G.2.1 v0)), some (.int v1), some (.int v2), some (.int v3), some (.int v4), some (.int v5), none, none] []) : ∀ (n : Nat) (v0 : Nat) (v1 : Int32) (v2 : Int32) (v3 : Int32) (v4 : Int32) (v5 : Int32) (v6 : Int32) (M : Mem), isP v0 = true → Pa_mixLines_L12 k3 n v0 v1 v2 v3 v4 v5 v6 M = some M' → V X G 8 M 12 [some (.ref (G.2.1 v0)), some (.int v1), some (.int v2), some (.int v3), some (.int v4), some (.int v5), some (.int v6), none] [] := by
  intro n
  induction n with
  | zero =>
    intro v0 v1 v2 v3 v4 v5 v6 M g0 h
    simp [Pa_mixLines_L12] at h
  | succ n ih =>
    intro v0 v1 v2 v3 v4 v5 v6 M g0 h
    rw [Pa_mixLines_L12] at h
    refine v_iload C dX1_mixLines_12 rfl ?_
    refine v_aload_n C dX1_mixLines_14 rfl ?_
    refine v_iconst (v := 1) C dX1_mixLines_15 (by decide) ?_
    refine v_iload_n C dX1_mixLines_16 rfl ?_
    refine v_isub C dX1_mixLines_17 ?_
    obtain ⟨r3, M1, c2, h⟩ := hB h
    refine v_callVi C (Pa_linesOf_ok (xl X) C.ig c2) ml_X1_41 mb_X1_linesOf mv_X1_linesOf g0 rfl rfl (Nat.le_of_ble_eq_true rfl) (by decide) (by decide) dX1_mixLines_18 ?_
    refine v_icmp_ge (tgt := 75) C dX1_mixLines_21 (by decide) (fun q => ?_) (fun q => ?_)
    · replace h := hT q h
      refine v_iinc (v := 1) C dX1_mixLines_75 rfl (by decide) (by decide) rfl ?_
      refine v_goto (tgt := 3) C dX1_mixLines_78 (by decide) ?_
      exact v_weak [true, true, true, true, true, true, false, false] (H3 _ _ _ _ _ _ _ g0 h)
    · replace h := hF q h
      refine v_aload_n C dX1_mixLines_24 rfl ?_
      refine v_iload C dX1_mixLines_25 rfl ?_
      refine v_iload_n C dX1_mixLines_27 rfl ?_
      refine v_iload_n C dX1_mixLines_28 rfl ?_
      refine v_iload C dX1_mixLines_29 rfl ?_
      obtain ⟨r6, M4, c5, h⟩ := hB h
      refine v_callVi C (Pa_onLine_ok (xl X) C.ig c5) ml_X1_67 mb_X1_onLine mv_X1_onLine g0 rfl rfl (Nat.le_of_ble_eq_true rfl) (by decide) (by decide) dX1_mixLines_31 ?_
      refine v_iload C dX1_mixLines_34 rfl ?_
      refine v_aload_n C dX1_mixLines_36 rfl ?_
      refine v_iload C dX1_mixLines_37 rfl ?_
      refine v_iload_n C dX1_mixLines_39 rfl ?_
      refine v_iload_n C dX1_mixLines_40 rfl ?_
      refine v_iload C dX1_mixLines_41 rfl ?_
      obtain ⟨r9, M7, c8, h⟩ := hB h
      refine v_callVi C (Pa_onLine_ok (xl X) C.ig c8) ml_X1_67 mb_X1_onLine mv_X1_onLine g0 rfl rfl (Nat.le_of_ble_eq_true rfl) (by decide) (by decide) dX1_mixLines_43 ?_
      refine v_imul C dX1_mixLines_46 ?_
      refine v_iadd C dX1_mixLines_47 ?_
      refine v_istore C dX1_mixLines_48 (by decide) rfl ?_
      refine v_aload_n C dX1_mixLines_50 rfl ?_
      refine v_iload C dX1_mixLines_51 rfl ?_
      refine v_iload_n C dX1_mixLines_53 rfl ?_
      refine v_iload_n C dX1_mixLines_54 rfl ?_
      refine v_iload C dX1_mixLines_55 rfl ?_
      refine v_iload C dX1_mixLines_57 rfl ?_
      refine v_aload_n C dX1_mixLines_59 rfl ?_
      refine v_geti C fk_X1_15 (intP1 g0) dX1_mixLines_60 ?_
      obtain ⟨r12, M10, c11, h⟩ := hB h
      refine v_callSi C (Pf_reduce_ok (xl X) C.ig c11) ml_X1_71 mb_X5_reduce ms_X5_reduce rfl rfl (Nat.le_of_ble_eq_true rfl) (by decide) (by decide) dX1_mixLines_63 ?_
      obtain ⟨M13, c14, h⟩ := hV h
      refine v_callVv C (Pa_putOnLine_ok (xl X) C.ig c14) ml_X1_74 mb_X1_putOnLine mv_X1_putOnLine g0 rfl rfl (Nat.le_of_ble_eq_true rfl) (by decide) (by decide) dX1_mixLines_66 ?_
      refine v_iinc (v := 1) C dX1_mixLines_69 rfl (by decide) (by decide) rfl ?_
      refine v_goto (tgt := 12) C dX1_mixLines_72 (by decide) ?_
      exact v_weak [true, true, true, true, true, true, true, false] (ih _ _ _ _ _ _ _ _ g0 h)
set_option maxHeartbeats 4000000 in
set_option maxRecDepth 100000 in
theorem Pa_mixLines_L3_ok {X : XX} {G : GG} (C : Cx X G cX1_mixLines 8 RX1 3 72 none) {M' : Mem} (hQ : Rt X G none M')   : ∀ (n : Nat) (v0 : Nat) (v1 : Int32) (v2 : Int32) (v3 : Int32) (v4 : Int32) (v5 : Int32) (M : Mem), isP v0 = true → Pa_mixLines_L3 n v0 v1 v2 v3 v4 v5 M = some M' → V X G 8 M 3 [some (.ref (G.2.1 v0)), some (.int v1), some (.int v2), some (.int v3), some (.int v4), some (.int v5), none, none] [] := by
  intro n
  induction n with
  | zero =>
    intro v0 v1 v2 v3 v4 v5 M g0 h
    simp [Pa_mixLines_L3] at h
  | succ n ih =>
    intro v0 v1 v2 v3 v4 v5 M g0 h
    rw [Pa_mixLines_L3] at h
    refine v_iload C dX1_mixLines_3 rfl ?_
    refine v_iconst (v := 2) C dX1_mixLines_5 (by decide) ?_
    refine v_icmp_ge (tgt := 81) C dX1_mixLines_6 (by decide) (fun q => ?_) (fun q => ?_)
    · replace h := hT q h
      obtain rfl := hRv h
      exact v_vret C hQ dX1_mixLines_81
    · replace h := hF q h
      refine v_iconst (v := 0) C dX1_mixLines_9 (by decide) ?_
      refine v_istore C dX1_mixLines_10 (by decide) rfl ?_
      exact v_weak [true, true, true, true, true, true, true, false] (Pa_mixLines_L12_ok C hQ ih _ _ _ _ _ _ _ _ _ g0 h)
set_option maxHeartbeats 4000000 in
set_option maxRecDepth 100000 in
theorem Pa_mixLines_ok (l : Launch) {G : GG} (hI : IG G) {M M' : Mem} {v0 : Nat} {v1 : Int32} {v2 : Int32} {v3 : Int32} {v4 : Int32} (h : Pa_mixLines v0 v1 v2 v3 v4 M = some M') : Sp l G yX1_mixLines cX1_mixLines 8 none 3 72 [.ref (G.2.1 v0), .int v1, .int v2, .int v3, .int v4] M none M' := by
  unfold Pa_mixLines at h
  obtain ⟨g0, h⟩ := hG h
  refine sp_intro [some (.ref (G.2.1 v0)), some (.int v1), some (.int v2), some (.int v3), some (.int v4), none, none, none] hI (by decide) (Nat.le_of_ble_eq_true rfl) (fun _ hq => hq) (fun X _ C hQ => ?_)
  refine v_iconst (v := 0) C dX1_mixLines_0 (by decide) ?_
  refine v_istore C dX1_mixLines_1 (by decide) rfl ?_
  exact v_weak [true, true, true, true, true, true, false, false] (Pa_mixLines_L3_ok C hQ _ _ _ _ _ _ _ _ g0 h)
set_option maxHeartbeats 4000000 in
set_option maxRecDepth 100000 in
theorem Pa_multiplyLine_L12_ok {X : XX} {G : GG} (C : Cx X G cX1_multiplyLine 6 RX1 3 72 none) {M' : Mem} (hQ : Rt X G none M') {k3 : Nat → Int32 → Int32 → Int32 → Int32 → Mem → Option Mem} (H3 : ∀ (v0 : Nat) (v1 : Int32) (v2 : Int32) (v3 : Int32) (v4 : Int32) (M : Mem), isP v0 = true → k3 v0 v1 v2 v3 v4 M = some M' → V X G 6 M 3 [some (.ref (G.2.1 v0)), some (.int v1), some (.int v2), some (.int v3), some (.int v4), none] []) : ∀ (n : Nat) (v0 : Nat) (v1 : Int32) (v2 : Int32) (v3 : Int32) (v4 : Int32) (v5 : Int32) (M : Mem), isP v0 = true → Pa_multiplyLine_L12 k3 n v0 v1 v2 v3 v4 v5 M = some M' → V X G 6 M 12 [some (.ref (G.2.1 v0)), some (.int v1), some (.int v2), some (.int v3), some (.int v4), some (.int v5)] [] := by
  intro n
  induction n with
  | zero =>
    intro v0 v1 v2 v3 v4 v5 M g0 h
    simp [Pa_multiplyLine_L12] at h
  | succ n ih =>
    intro v0 v1 v2 v3 v4 v5 M g0 h
    rw [Pa_multiplyLine_L12] at h
    refine v_iload C dX1_multiplyLine_12 rfl ?_
    refine v_aload_n C dX1_multiplyLine_14 rfl ?_
    refine v_iconst (v := 1) C dX1_multiplyLine_15 (by decide) ?_
    refine v_iload_n C dX1_multiplyLine_16 rfl ?_
    refine v_isub C dX1_multiplyLine_17 ?_
    obtain ⟨r3, M1, c2, h⟩ := hB h
    refine v_callVi C (Pa_linesOf_ok (xl X) C.ig c2) ml_X1_41 mb_X1_linesOf mv_X1_linesOf g0 rfl rfl (Nat.le_of_ble_eq_true rfl) (by decide) (by decide) dX1_multiplyLine_18 ?_
    refine v_icmp_ge (tgt := 59) C dX1_multiplyLine_21 (by decide) (fun q => ?_) (fun q => ?_)
    · replace h := hT q h
      refine v_iinc (v := 1) C dX1_multiplyLine_59 rfl (by decide) (by decide) rfl ?_
      refine v_goto (tgt := 3) C dX1_multiplyLine_62 (by decide) ?_
      exact v_weak [true, true, true, true, true, false] (H3 _ _ _ _ _ _ g0 h)
    · replace h := hF q h
      refine v_aload_n C dX1_multiplyLine_24 rfl ?_
      refine v_iload C dX1_multiplyLine_25 rfl ?_
      refine v_iload_n C dX1_multiplyLine_27 rfl ?_
      refine v_iload_n C dX1_multiplyLine_28 rfl ?_
      refine v_iload C dX1_multiplyLine_29 rfl ?_
      refine v_iload_n C dX1_multiplyLine_31 rfl ?_
      refine v_aload_n C dX1_multiplyLine_32 rfl ?_
      refine v_iload C dX1_multiplyLine_33 rfl ?_
      refine v_iload_n C dX1_multiplyLine_35 rfl ?_
      refine v_iload_n C dX1_multiplyLine_36 rfl ?_
      refine v_iload C dX1_multiplyLine_37 rfl ?_
      obtain ⟨r6, M4, c5, h⟩ := hB h
      refine v_callVi C (Pa_onLine_ok (xl X) C.ig c5) ml_X1_67 mb_X1_onLine mv_X1_onLine g0 rfl rfl (Nat.le_of_ble_eq_true rfl) (by decide) (by decide) dX1_multiplyLine_39 ?_
      refine v_imul C dX1_multiplyLine_42 ?_
      refine v_aload_n C dX1_multiplyLine_43 rfl ?_
      refine v_geti C fk_X1_15 (intP1 g0) dX1_multiplyLine_44 ?_
      obtain ⟨r9, M7, c8, h⟩ := hB h
      refine v_callSi C (Pf_reduce_ok (xl X) C.ig c8) ml_X1_71 mb_X5_reduce ms_X5_reduce rfl rfl (Nat.le_of_ble_eq_true rfl) (by decide) (by decide) dX1_multiplyLine_47 ?_
      obtain ⟨M10, c11, h⟩ := hV h
      refine v_callVv C (Pa_putOnLine_ok (xl X) C.ig c11) ml_X1_74 mb_X1_putOnLine mv_X1_putOnLine g0 rfl rfl (Nat.le_of_ble_eq_true rfl) (by decide) (by decide) dX1_multiplyLine_50 ?_
      refine v_iinc (v := 1) C dX1_multiplyLine_53 rfl (by decide) (by decide) rfl ?_
      refine v_goto (tgt := 12) C dX1_multiplyLine_56 (by decide) ?_
      exact v_weak [true, true, true, true, true, true] (ih _ _ _ _ _ _ _ g0 h)
set_option maxHeartbeats 4000000 in
set_option maxRecDepth 100000 in
theorem Pa_multiplyLine_L3_ok {X : XX} {G : GG} (C : Cx X G cX1_multiplyLine 6 RX1 3 72 none) {M' : Mem} (hQ : Rt X G none M')   : ∀ (n : Nat) (v0 : Nat) (v1 : Int32) (v2 : Int32) (v3 : Int32) (v4 : Int32) (M : Mem), isP v0 = true → Pa_multiplyLine_L3 n v0 v1 v2 v3 v4 M = some M' → V X G 6 M 3 [some (.ref (G.2.1 v0)), some (.int v1), some (.int v2), some (.int v3), some (.int v4), none] [] := by
  intro n
  induction n with
  | zero =>
    intro v0 v1 v2 v3 v4 M g0 h
    simp [Pa_multiplyLine_L3] at h
  | succ n ih =>
    intro v0 v1 v2 v3 v4 M g0 h
    rw [Pa_multiplyLine_L3] at h
    refine v_iload C dX1_multiplyLine_3 rfl ?_
    refine v_iconst (v := 2) C dX1_multiplyLine_5 (by decide) ?_
    refine v_icmp_ge (tgt := 65) C dX1_multiplyLine_6 (by decide) (fun q => ?_) (fun q => ?_)
    · replace h := hT q h
      obtain rfl := hRv h
      exact v_vret C hQ dX1_multiplyLine_65
    · replace h := hF q h
      refine v_iconst (v := 0) C dX1_multiplyLine_9 (by decide) ?_
      refine v_istore C dX1_multiplyLine_10 (by decide) rfl ?_
      exact v_weak [true, true, true, true, true, true] (Pa_multiplyLine_L12_ok C hQ ih _ _ _ _ _ _ _ _ g0 h)
set_option maxHeartbeats 4000000 in
set_option maxRecDepth 100000 in
theorem Pa_multiplyLine_ok (l : Launch) {G : GG} (hI : IG G) {M M' : Mem} {v0 : Nat} {v1 : Int32} {v2 : Int32} {v3 : Int32} (h : Pa_multiplyLine v0 v1 v2 v3 M = some M') : Sp l G yX1_multiplyLine cX1_multiplyLine 6 none 3 72 [.ref (G.2.1 v0), .int v1, .int v2, .int v3] M none M' := by
  unfold Pa_multiplyLine at h
  obtain ⟨g0, h⟩ := hG h
  refine sp_intro [some (.ref (G.2.1 v0)), some (.int v1), some (.int v2), some (.int v3), none, none] hI (by decide) (Nat.le_of_ble_eq_true rfl) (fun _ hq => hq) (fun X _ C hQ => ?_)
  refine v_iconst (v := 0) C dX1_multiplyLine_0 (by decide) ?_
  refine v_istore C dX1_multiplyLine_1 (by decide) rfl ?_
  exact v_weak [true, true, true, true, true, false] (Pa_multiplyLine_L3_ok C hQ _ _ _ _ _ _ _ g0 h)
set_option maxHeartbeats 4000000 in
set_option maxRecDepth 100000 in
theorem Pa_exchangeLines_L12_ok {X : XX} {G : GG} (C : Cx X G cX1_exchangeLines 7 RX1 3 72 none) {M' : Mem} (hQ : Rt X G none M') {k3 : Nat → Int32 → Int32 → Int32 → Int32 → Mem → Option Mem} (H3 : ∀ (v0 : Nat) (v1 : Int32) (v2 : Int32) (v3 : Int32) (v4 : Int32) (M : Mem), isP v0 = true → k3 v0 v1 v2 v3 v4 M = some M' → V X G 7 M 3 [some (.ref (G.2.1 v0)), some (.int v1), some (.int v2), some (.int v3), some (.int v4), none, none] []) : ∀ (n : Nat) (v0 : Nat) (v1 : Int32) (v2 : Int32) (v3 : Int32) (v4 : Int32) (v5 : Int32) (M : Mem), isP v0 = true → Pa_exchangeLines_L12 k3 n v0 v1 v2 v3 v4 v5 M = some M' → V X G 7 M 12 [some (.ref (G.2.1 v0)), some (.int v1), some (.int v2), some (.int v3), some (.int v4), some (.int v5), none] [] := by
  intro n
  induction n with
  | zero =>
    intro v0 v1 v2 v3 v4 v5 M g0 h
    simp [Pa_exchangeLines_L12] at h
  | succ n ih =>
    intro v0 v1 v2 v3 v4 v5 M g0 h
    rw [Pa_exchangeLines_L12] at h
    refine v_iload C dX1_exchangeLines_12 rfl ?_
    refine v_aload_n C dX1_exchangeLines_14 rfl ?_
    refine v_iconst (v := 1) C dX1_exchangeLines_15 (by decide) ?_
    refine v_iload_n C dX1_exchangeLines_16 rfl ?_
    refine v_isub C dX1_exchangeLines_17 ?_
    obtain ⟨r3, M1, c2, h⟩ := hB h
    refine v_callVi C (Pa_linesOf_ok (xl X) C.ig c2) ml_X1_41 mb_X1_linesOf mv_X1_linesOf g0 rfl rfl (Nat.le_of_ble_eq_true rfl) (by decide) (by decide) dX1_exchangeLines_18 ?_
    refine v_icmp_ge (tgt := 74) C dX1_exchangeLines_21 (by decide) (fun q => ?_) (fun q => ?_)
    · replace h := hT q h
      refine v_iinc (v := 1) C dX1_exchangeLines_74 rfl (by decide) (by decide) rfl ?_
      refine v_goto (tgt := 3) C dX1_exchangeLines_77 (by decide) ?_
      exact v_weak [true, true, true, true, true, false, false] (H3 _ _ _ _ _ _ g0 h)
    · replace h := hF q h
      refine v_aload_n C dX1_exchangeLines_24 rfl ?_
      refine v_iload C dX1_exchangeLines_25 rfl ?_
      refine v_iload_n C dX1_exchangeLines_27 rfl ?_
      refine v_iload_n C dX1_exchangeLines_28 rfl ?_
      refine v_iload C dX1_exchangeLines_29 rfl ?_
      obtain ⟨r6, M4, c5, h⟩ := hB h
      refine v_callVi C (Pa_onLine_ok (xl X) C.ig c5) ml_X1_67 mb_X1_onLine mv_X1_onLine g0 rfl rfl (Nat.le_of_ble_eq_true rfl) (by decide) (by decide) dX1_exchangeLines_31 ?_
      refine v_istore C dX1_exchangeLines_34 (by decide) rfl ?_
      refine v_aload_n C dX1_exchangeLines_36 rfl ?_
      refine v_iload C dX1_exchangeLines_37 rfl ?_
      refine v_iload_n C dX1_exchangeLines_39 rfl ?_
      refine v_iload_n C dX1_exchangeLines_40 rfl ?_
      refine v_iload C dX1_exchangeLines_41 rfl ?_
      refine v_aload_n C dX1_exchangeLines_43 rfl ?_
      refine v_iload C dX1_exchangeLines_44 rfl ?_
      refine v_iload_n C dX1_exchangeLines_46 rfl ?_
      refine v_iload_n C dX1_exchangeLines_47 rfl ?_
      refine v_iload C dX1_exchangeLines_48 rfl ?_
      obtain ⟨r9, M7, c8, h⟩ := hB h
      refine v_callVi C (Pa_onLine_ok (xl X) C.ig c8) ml_X1_67 mb_X1_onLine mv_X1_onLine g0 rfl rfl (Nat.le_of_ble_eq_true rfl) (by decide) (by decide) dX1_exchangeLines_50 ?_
      obtain ⟨M10, c11, h⟩ := hV h
      refine v_callVv C (Pa_putOnLine_ok (xl X) C.ig c11) ml_X1_74 mb_X1_putOnLine mv_X1_putOnLine g0 rfl rfl (Nat.le_of_ble_eq_true rfl) (by decide) (by decide) dX1_exchangeLines_53 ?_
      refine v_aload_n C dX1_exchangeLines_56 rfl ?_
      refine v_iload C dX1_exchangeLines_57 rfl ?_
      refine v_iload_n C dX1_exchangeLines_59 rfl ?_
      refine v_iload_n C dX1_exchangeLines_60 rfl ?_
      refine v_iload C dX1_exchangeLines_61 rfl ?_
      refine v_iload C dX1_exchangeLines_63 rfl ?_
      obtain ⟨M12, c13, h⟩ := hV h
      refine v_callVv C (Pa_putOnLine_ok (xl X) C.ig c13) ml_X1_74 mb_X1_putOnLine mv_X1_putOnLine g0 rfl rfl (Nat.le_of_ble_eq_true rfl) (by decide) (by decide) dX1_exchangeLines_65 ?_
      refine v_iinc (v := 1) C dX1_exchangeLines_68 rfl (by decide) (by decide) rfl ?_
      refine v_goto (tgt := 12) C dX1_exchangeLines_71 (by decide) ?_
      exact v_weak [true, true, true, true, true, true, false] (ih _ _ _ _ _ _ _ g0 h)
set_option maxHeartbeats 4000000 in
set_option maxRecDepth 100000 in
theorem Pa_exchangeLines_L3_ok {X : XX} {G : GG} (C : Cx X G cX1_exchangeLines 7 RX1 3 72 none) {M' : Mem} (hQ : Rt X G none M')   : ∀ (n : Nat) (v0 : Nat) (v1 : Int32) (v2 : Int32) (v3 : Int32) (v4 : Int32) (M : Mem), isP v0 = true → Pa_exchangeLines_L3 n v0 v1 v2 v3 v4 M = some M' → V X G 7 M 3 [some (.ref (G.2.1 v0)), some (.int v1), some (.int v2), some (.int v3), some (.int v4), none, none] [] := by
  intro n
  induction n with
  | zero =>
    intro v0 v1 v2 v3 v4 M g0 h
    simp [Pa_exchangeLines_L3] at h
  | succ n ih =>
    intro v0 v1 v2 v3 v4 M g0 h
    rw [Pa_exchangeLines_L3] at h
    refine v_iload C dX1_exchangeLines_3 rfl ?_
    refine v_iconst (v := 2) C dX1_exchangeLines_5 (by decide) ?_
    refine v_icmp_ge (tgt := 80) C dX1_exchangeLines_6 (by decide) (fun q => ?_) (fun q => ?_)
    · replace h := hT q h
      obtain rfl := hRv h
      exact v_vret C hQ dX1_exchangeLines_80
    · replace h := hF q h
      refine v_iconst (v := 0) C dX1_exchangeLines_9 (by decide) ?_
      refine v_istore C dX1_exchangeLines_10 (by decide) rfl ?_
      exact v_weak [true, true, true, true, true, true, false] (Pa_exchangeLines_L12_ok C hQ ih _ _ _ _ _ _ _ _ g0 h)
set_option maxHeartbeats 4000000 in
set_option maxRecDepth 100000 in
theorem Pa_exchangeLines_ok (l : Launch) {G : GG} (hI : IG G) {M M' : Mem} {v0 : Nat} {v1 : Int32} {v2 : Int32} {v3 : Int32} (h : Pa_exchangeLines v0 v1 v2 v3 M = some M') : Sp l G yX1_exchangeLines cX1_exchangeLines 7 none 3 72 [.ref (G.2.1 v0), .int v1, .int v2, .int v3] M none M' := by
  unfold Pa_exchangeLines at h
  obtain ⟨g0, h⟩ := hG h
  refine sp_intro [some (.ref (G.2.1 v0)), some (.int v1), some (.int v2), some (.int v3), none, none, none] hI (by decide) (Nat.le_of_ble_eq_true rfl) (fun _ hq => hq) (fun X _ C hQ => ?_)
  refine v_iconst (v := 0) C dX1_exchangeLines_0 (by decide) ?_
  refine v_istore C dX1_exchangeLines_1 (by decide) rfl ?_
  exact v_weak [true, true, true, true, true, false, false] (Pa_exchangeLines_L3_ok C hQ _ _ _ _ _ _ _ g0 h)
set_option maxHeartbeats 4000000 in
set_option maxRecDepth 100000 in
theorem Pa_exchangeSpots_ok (l : Launch) {G : GG} (hI : IG G) {M M' : Mem} {v0 : Nat} {v1 : Int32} {v2 : Int32} (h : Pa_exchangeSpots v0 v1 v2 M = some M') : Sp l G yX1_exchangeSpots cX1_exchangeSpots 4 none 0 0 [.ref (G.2.1 v0), .int v1, .int v2] M none M' := by
  unfold Pa_exchangeSpots at h
  obtain ⟨g0, h⟩ := hG h
  refine sp_intro [some (.ref (G.2.1 v0)), some (.int v1), some (.int v2), none] hI (by decide) (Nat.le_of_ble_eq_true rfl) (fun _ hq => hq) (fun X _ C hQ => ?_)
  refine v_aload_n C dX1_exchangeSpots_0 rfl ?_
  refine v_getr C fk_X1_11 (refP g0) dX1_exchangeSpots_1 ?_
  refine v_iload_n C dX1_exchangeSpots_4 rfl ?_
  obtain ⟨q1, h⟩ := hG h
  refine v_iald C (arrP g0) q1 dX1_exchangeSpots_5 ?_
  refine v_istore_n C dX1_exchangeSpots_6 (by decide) rfl ?_
  refine v_aload_n C dX1_exchangeSpots_7 rfl ?_
  refine v_getr C fk_X1_11 (refP g0) dX1_exchangeSpots_8 ?_
  refine v_iload_n C dX1_exchangeSpots_11 rfl ?_
  refine v_aload_n C dX1_exchangeSpots_12 rfl ?_
  refine v_getr C fk_X1_11 (refP g0) dX1_exchangeSpots_13 ?_
  refine v_iload_n C dX1_exchangeSpots_16 rfl ?_
  obtain ⟨q2, h⟩ := hG h
  refine v_iald C (arrP g0) q2 dX1_exchangeSpots_17 ?_
  obtain ⟨q3, h⟩ := hG h
  refine v_iast C (arrP g0) q3 dX1_exchangeSpots_18 ?_
  refine v_aload_n C dX1_exchangeSpots_19 rfl ?_
  refine v_getr C fk_X1_11 (refP g0) dX1_exchangeSpots_20 ?_
  refine v_iload_n C dX1_exchangeSpots_23 rfl ?_
  refine v_iload_n C dX1_exchangeSpots_24 rfl ?_
  obtain ⟨q4, h⟩ := hG h
  refine v_iast C (arrP g0) q4 dX1_exchangeSpots_25 ?_
  obtain rfl := hRv h
  exact v_vret C hQ dX1_exchangeSpots_26
set_option maxHeartbeats 4000000 in
set_option maxRecDepth 100000 in
theorem Pa_exchangeTables_L2_ok {X : XX} {G : GG} (C : Cx X G cX1_exchangeTables 2 RX1 1 23 none) {M' : Mem} (hQ : Rt X G none M')   : ∀ (n : Nat) (v0 : Nat) (v1 : Int32) (M : Mem), isP v0 = true → Pa_exchangeTables_L2 n v0 v1 M = some M' → V X G 2 M 2 [some (.ref (G.2.1 v0)), some (.int v1)] [] := by
  intro n
  induction n with
  | zero =>
    intro v0 v1 M g0 h
    simp [Pa_exchangeTables_L2] at h
  | succ n ih =>
    intro v0 v1 M g0 h
    rw [Pa_exchangeTables_L2] at h
    refine v_iload_n C dX1_exchangeTables_2 rfl ?_
    refine v_bipush (v := 16) C dX1_exchangeTables_3 (by decide) ?_
    refine v_icmp_ge (tgt := 23) C dX1_exchangeTables_5 (by decide) (fun q => ?_) (fun q => ?_)
    · replace h := hT q h
      obtain rfl := hRv h
      exact v_vret C hQ dX1_exchangeTables_23
    · replace h := hF q h
      refine v_aload_n C dX1_exchangeTables_8 rfl ?_
      refine v_iload_n C dX1_exchangeTables_9 rfl ?_
      refine v_bipush (v := 16) C dX1_exchangeTables_10 (by decide) ?_
      refine v_iload_n C dX1_exchangeTables_12 rfl ?_
      refine v_iadd C dX1_exchangeTables_13 ?_
      obtain ⟨M1, c2, h⟩ := hV h
      refine v_callVv C (Pa_exchangeSpots_ok (xl X) C.ig c2) ml_X1_78 mb_X1_exchangeSpots mv_X1_exchangeSpots g0 rfl rfl (Nat.le_of_ble_eq_true rfl) (by decide) (by decide) dX1_exchangeTables_14 ?_
      refine v_iinc (v := 1) C dX1_exchangeTables_17 rfl (by decide) (by decide) rfl ?_
      refine v_goto (tgt := 2) C dX1_exchangeTables_20 (by decide) ?_
      exact v_weak [true, true] (ih _ _ _ g0 h)
set_option maxHeartbeats 4000000 in
set_option maxRecDepth 100000 in
theorem Pa_exchangeTables_ok (l : Launch) {G : GG} (hI : IG G) {M M' : Mem} {v0 : Nat} (h : Pa_exchangeTables v0 M = some M') : Sp l G yX1_exchangeTables cX1_exchangeTables 2 none 1 23 [.ref (G.2.1 v0)] M none M' := by
  unfold Pa_exchangeTables at h
  obtain ⟨g0, h⟩ := hG h
  refine sp_intro [some (.ref (G.2.1 v0)), none] hI (by decide) (Nat.le_of_ble_eq_true rfl) (fun _ hq => hq) (fun X _ C hQ => ?_)
  refine v_iconst (v := 0) C dX1_exchangeTables_0 (by decide) ?_
  refine v_istore_n C dX1_exchangeTables_1 (by decide) rfl ?_
  exact v_weak [true, true] (Pa_exchangeTables_L2_ok C hQ _ _ _ _ g0 h)
