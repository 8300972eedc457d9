set_option maxHeartbeats 4000000 in
set_option maxRecDepth 100000 in
theorem Ja_fill_L5_ok {X : XX} {G : GG} (C : Cx X G cJ7_fill_53178 4 RJ7 0 0 none) {M' : Mem} (hQ : Rt X G none M')   : ∀ (n : Nat) (v0 : Nat) (v1 : Int32) (v2 : Int32) (v3 : Int32) (M : Mem), isI v0 = true → Ja_fill_L5 n v0 v1 v2 v3 M = some M' → V X G 4 M 5 [some (.ref (G.2.1 v0)), some (.int v1), some (.int v2), some (.int v3)] [] := by
  intro n
  induction n with
  | zero =>
    intro v0 v1 v2 v3 M g0 h
    simp [Ja_fill_L5] at h
  | succ n ih =>
    intro v0 v1 v2 v3 M g0 h
    rw [Ja_fill_L5] at h
    refine v_iload_n C dJ7_fill_53178_5 rfl ?_
    refine v_iload_n C dJ7_fill_53178_6 rfl ?_
    refine v_icmp_ge (tgt := 20) C dJ7_fill_53178_7 (by decide) (fun q => ?_) (fun q => ?_)
    · replace h := hT q h
      obtain rfl := hRv h
      exact v_vret C hQ dJ7_fill_53178_20
    · replace h := hF q h
      refine v_aload_n C dJ7_fill_53178_10 rfl ?_
      refine v_iload_n C dJ7_fill_53178_11 rfl ?_
      refine v_iload_n C dJ7_fill_53178_12 rfl ?_
      obtain ⟨q1, h⟩ := hG h
      refine v_iast C (arrI g0) q1 dJ7_fill_53178_13 ?_
      refine v_iinc (v := 1) C dJ7_fill_53178_14 rfl (by decide) (by decide) rfl ?_
      refine v_goto (tgt := 5) C dJ7_fill_53178_17 (by decide) ?_
      exact v_weak [true, true, true, true] (ih _ _ _ _ _ g0 h)
set_option maxHeartbeats 4000000 in
set_option maxRecDepth 100000 in
theorem Ja_fill_ok (l : Launch) {G : GG} (hI : IG G) {M M' : Mem} {v0 : Nat} {v1 : Int32} (h : Ja_fill v0 v1 M = some M') : Sp l G yJ7_fill_53178 cJ7_fill_53178 4 none 0 0 [.ref (G.2.1 v0), .int v1] M none M' := by
  unfold Ja_fill at h
  obtain ⟨g0, h⟩ := hG h
  refine sp_intro [some (.ref (G.2.1 v0)), some (.int v1), none, none] hI (by decide) (Nat.le_of_ble_eq_true rfl) (fun _ hq => hq) (fun X _ C hQ => ?_)
  refine v_iconst (v := 0) C dJ7_fill_53178_0 (by decide) ?_
  refine v_istore_n C dJ7_fill_53178_1 (by decide) rfl ?_
  refine v_aload_n C dJ7_fill_53178_2 rfl ?_
  refine v_alen C (arrI g0) dJ7_fill_53178_3 ?_
  refine v_istore_n C dJ7_fill_53178_4 (by decide) rfl ?_
  exact v_weak [true, true, true, true] (Ja_fill_L5_ok C hQ _ _ _ _ _ _ g0 h)
set_option maxHeartbeats 4000000 in
set_option maxRecDepth 100000 in
theorem Eq_begin_ok (l : Launch) {G : GG} (hI : IG G) {M M' : Mem} {v1 : Nat} {v2 : Int32} {v3 : Int32} (h : Eq_begin v1 v2 v3 M = some M') : Sp l G yX0_begin cX0_begin 4 none 1 23 [.ref (G.2.1 23), .ref (G.2.1 v1), .int v2, .int v3] M none M' := by
  unfold Eq_begin at h
  obtain ⟨g1, h⟩ := hG h
  refine sp_intro [some (.ref (G.2.1 23)), some (.ref (G.2.1 v1)), some (.int v2), some (.int v3)] hI (by decide) (Nat.le_of_ble_eq_true rfl) (fun _ hq => hq) (fun X _ C hQ => ?_)
  refine v_aload_n C dX0_begin_0 rfl ?_
  refine v_aload_n C dX0_begin_1 rfl ?_
  refine v_geti C fk_X0_19 (intP1 g1) dX0_begin_2 ?_
  refine v_puti C fk_X0_15 rfl dX0_begin_5 ?_
  refine v_aload_n C dX0_begin_8 rfl ?_
  refine v_iload_n C dX0_begin_9 rfl ?_
  refine v_aload_n C dX0_begin_10 rfl ?_
  refine v_geti C fk_X0_22 (intP2 g1) dX0_begin_11 ?_
  refine v_imul C dX0_begin_14 ?_
  refine v_bipush (v := 24) C dX0_begin_15 (by decide) ?_
  refine v_mmin C (tT 377 (by decide +kernel) rfl) w_mmin (by decide) (Nat.le_of_ble_eq_true rfl) dX0_begin_17 ?_
  refine v_puti C fk_X0_31 rfl dX0_begin_20 ?_
  refine v_aload_n C dX0_begin_23 rfl ?_
  refine v_iload_n C dX0_begin_24 rfl ?_
  refine v_aload_n C dX0_begin_25 rfl ?_
  refine v_geti C fk_X0_34 (intP3 g1) dX0_begin_26 ?_
  refine v_imul C dX0_begin_29 ?_
  refine v_bipush (v := 20) C dX0_begin_30 (by decide) ?_
  refine v_mmin C (tT 377 (by decide +kernel) rfl) w_mmin (by decide) (Nat.le_of_ble_eq_true rfl) dX0_begin_32 ?_
  refine v_puti C fk_X0_37 rfl dX0_begin_35 ?_
  refine v_aload_n C dX0_begin_38 rfl ?_
  refine v_getr (j := 24) C fk_X0_11 rfl dX0_begin_39 ?_
  refine v_iconst (v := 0) C dX0_begin_42 (by decide) ?_
  obtain ⟨M1, c2, h⟩ := hV h
  refine v_callSv C (Ja_fill_ok (xl X) C.ig c2) ml_X0_40 mb_J7_fill_53178 ms_J7_fill_53178 rfl rfl (Nat.le_of_ble_eq_true rfl) (by decide) (by decide) dX0_begin_43 ?_
  obtain rfl := hRv h
  exact v_vret C hQ dX0_begin_46
set_option maxHeartbeats 4000000 in
set_option maxRecDepth 100000 in
theorem Pa_hasPlace_ok (l : Launch) {G : GG} (hI : IG G) {M M' : Mem} {v0 : Nat} {v1 : Int32} {v2 : Int32} {v3 : Int32} {r : Int32} (h : Pa_hasPlace v0 v1 v2 v3 M = some (r, M')) : Sp l G yX1_hasPlace cX1_hasPlace 4 (some .boolean) 0 0 [.ref (G.2.1 v0), .int v1, .int v2, .int v3] M (some (.int r)) M' := by
  unfold Pa_hasPlace at h
  obtain ⟨g0, h⟩ := hG h
  refine sp_intro [some (.ref (G.2.1 v0)), some (.int v1), some (.int v2), some (.int v3)] hI (by decide) (Nat.le_of_ble_eq_true rfl) (fun _ hq => hq) (fun X _ C hQ => ?_)
  refine v_iload_n C dX1_hasPlace_0 rfl ?_
  refine v_if_lt (tgt := 37) C dX1_hasPlace_1 (by decide) (fun q => ?_) (fun q => ?_)
  · replace h := hT q h
    refine v_iconst (v := 0) C dX1_hasPlace_37 (by decide) ?_
    obtain ⟨rfl, rfl⟩ := hR h
    exact v_zret C hQ rfl dX1_hasPlace_38
  · replace h := hF q h
    refine v_iload_n C dX1_hasPlace_4 rfl ?_
    refine v_iconst (v := 2) C dX1_hasPlace_5 (by decide) ?_
    refine v_icmp_ge (tgt := 37) C dX1_hasPlace_6 (by decide) (fun q => ?_) (fun q => ?_)
    · replace h := hT q h
      refine v_iconst (v := 0) C dX1_hasPlace_37 (by decide) ?_
      obtain ⟨rfl, rfl⟩ := hR h
      exact v_zret C hQ rfl dX1_hasPlace_38
    · replace h := hF q h
      refine v_iload_n C dX1_hasPlace_9 rfl ?_
      refine v_if_lt (tgt := 37) C dX1_hasPlace_10 (by decide) (fun q => ?_) (fun q => ?_)
      · replace h := hT q h
        refine v_iconst (v := 0) C dX1_hasPlace_37 (by decide) ?_
        obtain ⟨rfl, rfl⟩ := hR h
        exact v_zret C hQ rfl dX1_hasPlace_38
      · replace h := hF q h
        refine v_iload_n C dX1_hasPlace_13 rfl ?_
        refine v_aload_n C dX1_hasPlace_14 rfl ?_
        refine v_geti C fk_X1_25 (intP2 g0) dX1_hasPlace_15 ?_
        refine v_icmp_ge (tgt := 37) C dX1_hasPlace_18 (by decide) (fun q => ?_) (fun q => ?_)
        · replace h := hT q h
          refine v_iconst (v := 0) C dX1_hasPlace_37 (by decide) ?_
          obtain ⟨rfl, rfl⟩ := hR h
          exact v_zret C hQ rfl dX1_hasPlace_38
        · replace h := hF q h
          refine v_iload_n C dX1_hasPlace_21 rfl ?_
          refine v_if_lt (tgt := 37) C dX1_hasPlace_22 (by decide) (fun q => ?_) (fun q => ?_)
          · replace h := hT q h
            refine v_iconst (v := 0) C dX1_hasPlace_37 (by decide) ?_
            obtain ⟨rfl, rfl⟩ := hR h
            exact v_zret C hQ rfl dX1_hasPlace_38
          · replace h := hF q h
            refine v_iload_n C dX1_hasPlace_25 rfl ?_
            refine v_aload_n C dX1_hasPlace_26 rfl ?_
            refine v_geti C fk_X1_28 (intP3 g0) dX1_hasPlace_27 ?_
            refine v_icmp_ge (tgt := 37) C dX1_hasPlace_30 (by decide) (fun q => ?_) (fun q => ?_)
            · replace h := hT q h
              refine v_iconst (v := 0) C dX1_hasPlace_37 (by decide) ?_
              obtain ⟨rfl, rfl⟩ := hR h
              exact v_zret C hQ rfl dX1_hasPlace_38
            · replace h := hF q h
              refine v_iconst (v := 1) C dX1_hasPlace_33 (by decide) ?_
              refine v_goto (tgt := 38) C dX1_hasPlace_34 (by decide) ?_
              obtain ⟨rfl, rfl⟩ := hR h
              exact v_zret C hQ rfl dX1_hasPlace_38
set_option maxHeartbeats 4000000 in
set_option maxRecDepth 100000 in
theorem Pa_spot_ok (l : Launch) {G : GG} (hI : IG G) {M M' : Mem} {v0 : Int32} {v1 : Int32} {v2 : Int32} {r : Int32} (h : Pa_spot v0 v1 v2 M = some (r, M')) : Sp l G yX1_spot cX1_spot 3 (some .int) 0 0 [.int v0, .int v1, .int v2] M (some (.int r)) M' := by
  unfold Pa_spot at h
  refine sp_intro [some (.int v0), some (.int v1), some (.int v2)] hI (by decide) (Nat.le_of_ble_eq_true rfl) (fun _ hq => hq) (fun X _ C hQ => ?_)
  refine v_iload_n C dX1_spot_0 rfl ?_
  refine v_bipush (v := 16) C dX1_spot_1 (by decide) ?_
  refine v_imul C dX1_spot_3 ?_
  refine v_iload_n C dX1_spot_4 rfl ?_
  refine v_iconst (v := 4) C dX1_spot_5 (by decide) ?_
  refine v_imul C dX1_spot_6 ?_
  refine v_iadd C dX1_spot_7 ?_
  refine v_iload_n C dX1_spot_8 rfl ?_
  refine v_iadd C dX1_spot_9 ?_
  obtain ⟨rfl, rfl⟩ := hR h
  exact v_iret C hQ dX1_spot_10
set_option maxHeartbeats 4000000 in
set_option maxRecDepth 100000 in
theorem Pa_valueAt_ok (l : Launch) {G : GG} (hI : IG G) {M M' : Mem} {v0 : Nat} {v1 : Int32} {v2 : Int32} {v3 : Int32} {r : Int32} (h : Pa_valueAt v0 v1 v2 v3 M = some (r, M')) : Sp l G yX1_valueAt cX1_valueAt 4 (some .int) 1 23 [.ref (G.2.1 v0), .int v1, .int v2, .int v3] M (some (.int r)) M' := by
  unfold Pa_valueAt at h
  obtain ⟨g0, h⟩ := hG h
  refine sp_intro [some (.ref (G.2.1 v0)), some (.int v1), some (.int v2), some (.int v3)] hI (by decide) (Nat.le_of_ble_eq_true rfl) (fun _ hq => hq) (fun X _ C hQ => ?_)
  refine v_aload_n C dX1_valueAt_0 rfl ?_
  refine v_iload_n C dX1_valueAt_1 rfl ?_
  refine v_iload_n C dX1_valueAt_2 rfl ?_
  refine v_iload_n C dX1_valueAt_3 rfl ?_
  obtain ⟨r3, M1, c2, h⟩ := hB h
  refine v_callVi C (Pa_hasPlace_ok (xl X) C.ig c2) ml_X1_45 mb_X1_hasPlace mv_X1_hasPlace g0 rfl rfl (Nat.le_of_ble_eq_true rfl) (by decide) (by decide) dX1_valueAt_4 ?_
  refine v_if_eq (tgt := 24) C dX1_valueAt_7 (by decide) (fun q => ?_) (fun q => ?_)
  · replace h := hT q h
    refine v_iconst (v := 0) C dX1_valueAt_24 (by decide) ?_
    obtain ⟨rfl, rfl⟩ := hR h
    exact v_iret C hQ dX1_valueAt_25
  · replace h := hF q h
    refine v_aload_n C dX1_valueAt_10 rfl ?_
    refine v_getr C fk_X1_11 (refP g0) dX1_valueAt_11 ?_
    refine v_iload_n C dX1_valueAt_14 rfl ?_
    refine v_iload_n C dX1_valueAt_15 rfl ?_
    refine v_iload_n C dX1_valueAt_16 rfl ?_
    obtain ⟨r6, M4, c5, h⟩ := hB h
    refine v_callSi C (Pa_spot_ok (xl X) C.ig c5) ml_X1_49 mb_X1_spot ms_X1_spot rfl rfl (Nat.le_of_ble_eq_true rfl) (by decide) (by decide) dX1_valueAt_17 ?_
    obtain ⟨q7, h⟩ := hG h
    refine v_iald C (arrP g0) q7 dX1_valueAt_20 ?_
    refine v_goto (tgt := 25) C dX1_valueAt_21 (by decide) ?_
    obtain ⟨rfl, rfl⟩ := hR h
    exact v_iret C hQ dX1_valueAt_25
set_option maxHeartbeats 4000000 in
set_option maxRecDepth 100000 in
theorem Pf_reduce_ok (l : Launch) {G : GG} (hI : IG G) {M M' : Mem} {v0 : Int32} {v1 : Int32} {r : Int32} (h : Pf_reduce v0 v1 M = some (r, M')) : Sp l G yX5_reduce cX5_reduce 3 (some .int) 0 0 [.int v0, .int v1] M (some (.int r)) M' := by
  unfold Pf_reduce at h
  refine sp_intro [some (.int v0), some (.int v1), none] hI (by decide) (Nat.le_of_ble_eq_true rfl) (fun _ hq => hq) (fun X _ C hQ => ?_)
  refine v_iload_n C dX5_reduce_0 rfl ?_
  refine v_iconst (v := 1) C dX5_reduce_1 (by decide) ?_
  refine v_icmp_ge (tgt := 7) C dX5_reduce_2 (by decide) (fun q => ?_) (fun q => ?_)
  · replace h := hT q h
    refine v_iload_n C dX5_reduce_7 rfl ?_
    refine v_iload_n C dX5_reduce_8 rfl ?_
    obtain ⟨q1, h⟩ := hN h
    refine v_irem C dX5_reduce_9 q1 ?_
    refine v_istore_n C dX5_reduce_10 (by decide) rfl ?_
    refine v_iload_n C dX5_reduce_11 rfl ?_
    refine v_if_ge (tgt := 21) C dX5_reduce_12 (by decide) (fun q => ?_) (fun q => ?_)
    · replace h := hT q h
      refine v_iload_n C dX5_reduce_21 rfl ?_
      obtain ⟨rfl, rfl⟩ := hR h
      exact v_iret C hQ dX5_reduce_22
    · replace h := hF q h
      refine v_iload_n C dX5_reduce_15 rfl ?_
      refine v_iload_n C dX5_reduce_16 rfl ?_
      refine v_iadd C dX5_reduce_17 ?_
      refine v_goto (tgt := 22) C dX5_reduce_18 (by decide) ?_
      obtain ⟨rfl, rfl⟩ := hR h
      exact v_iret C hQ dX5_reduce_22
  · replace h := hF q h
    refine v_iconst (v := 0) C dX5_reduce_5 (by decide) ?_
    obtain ⟨rfl, rfl⟩ := hR h
    exact v_iret C hQ dX5_reduce_6
set_option maxHeartbeats 4000000 in
set_option maxRecDepth 100000 in
theorem Eq_putNumber_ok (l : Launch) {G : GG} (hI : IG G) {M M' : Mem} {v1 : Int32} {v2 : Int32} {v3 : Int32} (h : Eq_putNumber v1 v2 v3 M = some M') : Sp l G yX0_putNumber cX0_putNumber 4 none 0 0 [.ref (G.2.1 23), .int v1, .int v2, .int v3] M none M' := by
  unfold Eq_putNumber at h
  refine sp_intro [some (.ref (G.2.1 23)), some (.int v1), some (.int v2), some (.int v3)] hI (by decide) (Nat.le_of_ble_eq_true rfl) (fun _ hq => hq) (fun X _ C hQ => ?_)
  refine v_iload_n C dX0_putNumber_0 rfl ?_
  refine v_if_lt (tgt := 36) C dX0_putNumber_1 (by decide) (fun q => ?_) (fun q => ?_)
  · replace h := hT q h
    obtain rfl := hRv h
    exact v_vret C hQ dX0_putNumber_36
  · replace h := hF q h
    refine v_iload_n C dX0_putNumber_4 rfl ?_
    refine v_aload_n C dX0_putNumber_5 rfl ?_
    refine v_geti C fk_X0_31 rfl dX0_putNumber_6 ?_
    refine v_icmp_ge (tgt := 36) C dX0_putNumber_9 (by decide) (fun q => ?_) (fun q => ?_)
    · replace h := hT q h
      obtain rfl := hRv h
      exact v_vret C hQ dX0_putNumber_36
    · replace h := hF q h
      refine v_iload_n C dX0_putNumber_12 rfl ?_
      refine v_if_lt (tgt := 36) C dX0_putNumber_13 (by decide) (fun q => ?_) (fun q => ?_)
      · replace h := hT q h
        obtain rfl := hRv h
        exact v_vret C hQ dX0_putNumber_36
      · replace h := hF q h
        refine v_iload_n C dX0_putNumber_16 rfl ?_
        refine v_aload_n C dX0_putNumber_17 rfl ?_
        refine v_geti C fk_X0_37 rfl dX0_putNumber_18 ?_
        refine v_icmp_ge (tgt := 36) C dX0_putNumber_21 (by decide) (fun q => ?_) (fun q => ?_)
        · replace h := hT q h
          obtain rfl := hRv h
          exact v_vret C hQ dX0_putNumber_36
        · replace h := hF q h
          refine v_aload_n C dX0_putNumber_24 rfl ?_
          refine v_getr (j := 24) C fk_X0_11 rfl dX0_putNumber_25 ?_
          refine v_iload_n C dX0_putNumber_28 rfl ?_
          refine v_bipush (v := 20) C dX0_putNumber_29 (by decide) ?_
          refine v_imul C dX0_putNumber_31 ?_
          refine v_iload_n C dX0_putNumber_32 rfl ?_
          refine v_iadd C dX0_putNumber_33 ?_
          refine v_iload_n C dX0_putNumber_34 rfl ?_
          obtain ⟨q1, h⟩ := hG h
          refine v_iast C rfl q1 dX0_putNumber_35 ?_
          obtain rfl := hRv h
          exact v_vret C hQ dX0_putNumber_36
set_option maxHeartbeats 4000000 in
set_option maxRecDepth 100000 in
theorem Eq_putBlock_L15_ok {X : XX} {G : GG} (C : Cx X G cX0_putBlock 9 RX0 2 46 none) {M' : Mem} (hQ : Rt X G none M') {k3 : Nat → Int32 → Int32 → Int32 → Int32 → Int32 → Mem → Option Mem} (H3 : ∀ (v1 : Nat) (v2 : Int32) (v3 : Int32) (v4 : Int32) (v5 : Int32) (v6 : Int32) (M : Mem), isP v1 = true → k3 v1 v2 v3 v4 v5 v6 M = some M' → V X G 9 M 3 [some (.ref (G.2.1 23)), some (.ref (G.2.1 v1)), some (.int v2), some (.int v3), some (.int v4), some (.int v5), some (.int v6), none, none] []) : ∀ (n : Nat) (v1 : Nat) (v2 : Int32) (v3 : Int32) (v4 : Int32) (v5 : Int32) (v6 : Int32) (v7 : Int32) (M : Mem), isP v1 = true → Eq_putBlock_L15 k3 n v1 v2 v3 v4 v5 v6 v7 M = some M' → V X G 9 M 15 [some (.ref (G.2.1 23)), some (.ref (G.2.1 v1)), some (.int v2), some (.int v3), some (.int v4), some (.int v5), some (.int v6), some (.int v7), none] [] := by
  intro n
  induction n with
  | zero =>
    intro v1 v2 v3 v4 v5 v6 v7 M g1 h
    simp [Eq_putBlock_L15] at h
  | succ n ih =>
    intro v1 v2 v3 v4 v5 v6 v7 M g1 h
    rw [Eq_putBlock_L15] at h
    refine v_iload C dX0_putBlock_15 rfl ?_
    refine v_aload_n C dX0_putBlock_17 rfl ?_
    refine v_geti C fk_X0_34 (intP3 g1) dX0_putBlock_18 ?_
    refine v_icmp_ge (tgt := 88) C dX0_putBlock_21 (by decide) (fun q => ?_) (fun q => ?_)
    · replace h := hT q h
      refine v_iinc (v := 1) C dX0_putBlock_88 rfl (by decide) (by decide) rfl ?_
      refine v_goto (tgt := 3) C dX0_putBlock_91 (by decide) ?_
      exact v_weak [true, true, true, true, true, true, true, false, false] (H3 _ _ _ _ _ _ _ g1 h)
    · replace h := hF q h
      refine v_iload C dX0_putBlock_24 rfl ?_
      refine v_aload_n C dX0_putBlock_26 rfl ?_
      refine v_iconst (v := 0) C dX0_putBlock_27 (by decide) ?_
      refine v_iload C dX0_putBlock_28 rfl ?_
      refine v_iload C dX0_putBlock_30 rfl ?_
      obtain ⟨r3, M1, c2, h⟩ := hB h
      refine v_callVi C (Pa_valueAt_ok (xl X) C.ig c2) ml_X0_46 mb_X1_valueAt mv_X1_valueAt g1 rfl rfl (Nat.le_of_ble_eq_true rfl) (by decide) (by decide) dX0_putBlock_32 ?_
      refine v_imul C dX0_putBlock_35 ?_
      refine v_iload C dX0_putBlock_36 rfl ?_
      refine v_aload_n C dX0_putBlock_38 rfl ?_
      refine v_iconst (v := 1) C dX0_putBlock_39 (by decide) ?_
      refine v_iload C dX0_putBlock_40 rfl ?_
      refine v_iload C dX0_putBlock_42 rfl ?_
      obtain ⟨r6, M4, c5, h⟩ := hB h
      refine v_callVi C (Pa_valueAt_ok (xl X) C.ig c5) ml_X0_46 mb_X1_valueAt mv_X1_valueAt g1 rfl rfl (Nat.le_of_ble_eq_true rfl) (by decide) (by decide) dX0_putBlock_44 ?_
      refine v_imul C dX0_putBlock_47 ?_
      refine v_iadd C dX0_putBlock_48 ?_
      refine v_istore C dX0_putBlock_49 (by decide) rfl ?_
      refine v_aload_n C dX0_putBlock_51 rfl ?_
      refine v_iload_n C dX0_putBlock_52 rfl ?_
      refine v_aload_n C dX0_putBlock_53 rfl ?_
      refine v_geti C fk_X0_22 (intP2 g1) dX0_putBlock_54 ?_
      refine v_imul C dX0_putBlock_57 ?_
      refine v_iload C dX0_putBlock_58 rfl ?_
      refine v_iadd C dX0_putBlock_60 ?_
      refine v_iload_n C dX0_putBlock_61 rfl ?_
      refine v_aload_n C dX0_putBlock_62 rfl ?_
      refine v_geti C fk_X0_34 (intP3 g1) dX0_putBlock_63 ?_
      refine v_imul C dX0_putBlock_66 ?_
      refine v_iload C dX0_putBlock_67 rfl ?_
      refine v_iadd C dX0_putBlock_69 ?_
      refine v_iload C dX0_putBlock_70 rfl ?_
      refine v_aload_n C dX0_putBlock_72 rfl ?_
      refine v_geti C fk_X0_15 rfl dX0_putBlock_73 ?_
      obtain ⟨r9, M7, c8, h⟩ := hB h
      refine v_callSi C (Pf_reduce_ok (xl X) C.ig c8) ml_X0_50 mb_X5_reduce ms_X5_reduce rfl rfl (Nat.le_of_ble_eq_true rfl) (by decide) (by decide) dX0_putBlock_76 ?_
      obtain ⟨M10, c11, h⟩ := hV h
      refine v_callVv C (Eq_putNumber_ok (xl X) C.ig c11) ml_X0_53 mb_X0_putNumber mv_X0_putNumber rfl rfl rfl (Nat.le_of_ble_eq_true rfl) (by decide) (by decide) dX0_putBlock_79 ?_
      refine v_iinc (v := 1) C dX0_putBlock_82 rfl (by decide) (by decide) rfl ?_
      refine v_goto (tgt := 15) C dX0_putBlock_85 (by decide) ?_
      exact v_weak [true, true, true, true, true, true, true, true, false] (ih _ _ _ _ _ _ _ _ g1 h)
set_option maxHeartbeats 4000000 in
set_option maxRecDepth 100000 in
theorem Eq_putBlock_L3_ok {X : XX} {G : GG} (C : Cx X G cX0_putBlock 9 RX0 2 46 none) {M' : Mem} (hQ : Rt X G none M')   : ∀ (n : Nat) (v1 : Nat) (v2 : Int32) (v3 : Int32) (v4 : Int32) (v5 : Int32) (v6 : Int32) (M : Mem), isP v1 = true → Eq_putBlock_L3 n v1 v2 v3 v4 v5 v6 M = some M' → V X G 9 M 3 [some (.ref (G.2.1 23)), some (.ref (G.2.1 v1)), some (.int v2), some (.int v3), some (.int v4), some (.int v5), some (.int v6), none, none] [] := by
  intro n
  induction n with
  | zero =>
    intro v1 v2 v3 v4 v5 v6 M g1 h
    simp [Eq_putBlock_L3] at h
  | succ n ih =>
    intro v1 v2 v3 v4 v5 v6 M g1 h
    rw [Eq_putBlock_L3] at h
    refine v_iload C dX0_putBlock_3 rfl ?_
    refine v_aload_n C dX0_putBlock_5 rfl ?_
    refine v_geti C fk_X0_22 (intP2 g1) dX0_putBlock_6 ?_
    refine v_icmp_ge (tgt := 94) C dX0_putBlock_9 (by decide) (fun q => ?_) (fun q => ?_)
    · replace h := hT q h
      obtain rfl := hRv h
      exact v_vret C hQ dX0_putBlock_94
    · replace h := hF q h
      refine v_iconst (v := 0) C dX0_putBlock_12 (by decide) ?_
      refine v_istore C dX0_putBlock_13 (by decide) rfl ?_
      exact v_weak [true, true, true, true, true, true, true, true, false] (Eq_putBlock_L15_ok C hQ ih _ _ _ _ _ _ _ _ _ g1 h)
set_option maxHeartbeats 4000000 in
set_option maxRecDepth 100000 in
theorem Eq_putBlock_ok (l : Launch) {G : GG} (hI : IG G) {M M' : Mem} {v1 : Nat} {v2 : Int32} {v3 : Int32} {v4 : Int32} {v5 : Int32} (h : Eq_putBlock v1 v2 v3 v4 v5 M = some M') : Sp l G yX0_putBlock cX0_putBlock 9 none 2 46 [.ref (G.2.1 23), .ref (G.2.1 v1), .int v2, .int v3, .int v4, .int v5] M none M' := by
  unfold Eq_putBlock at h
  obtain ⟨g1, h⟩ := hG h
  refine sp_intro [some (.ref (G.2.1 23)), some (.ref (G.2.1 v1)), some (.int v2), some (.int v3), some (.int v4), some (.int v5), none, none, none] hI (by decide) (Nat.le_of_ble_eq_true rfl) (fun _ hq => hq) (fun X _ C hQ => ?_)
  refine v_iconst (v := 0) C dX0_putBlock_0 (by decide) ?_
  refine v_istore C dX0_putBlock_1 (by decide) rfl ?_
  exact v_weak [true, true, true, true, true, true, true, false, false] (Eq_putBlock_L3_ok C hQ _ _ _ _ _ _ _ _ g1 h)
set_option maxHeartbeats 4000000 in
set_option maxRecDepth 100000 in
theorem Eq_addImageUnderA_b76_ok {X : XX} {G : GG} (C : Cx X G cX0_addImageUnderA 6 RX0 2 46 none) {M' : Mem} (hQ : Rt X G none M') {k22 : Nat → Nat → Int32 → Mem → Option Mem} (H22 : ∀ (v1 : Nat) (v2 : Nat) (v3 : Int32) (M : Mem), isP v1 = true → isI v2 = true → k22 v1 v2 v3 M = some M' → V X G 6 M 22 [some (.ref (G.2.1 23)), some (.ref (G.2.1 v1)), some (.ref (G.2.1 v2)), some (.int v3), none, none] []) {v1 : Nat} {v2 : Nat} {v3 : Int32} {v4 : Int32} {M : Mem} (g1 : isP v1 = true) (g2 : isI v2 = true) (h : Eq_addImageUnderA_b76 k22 v1 v2 v3 v4 M = some M') : V X G 6 M 76 [some (.ref (G.2.1 23)), some (.ref (G.2.1 v1)), some (.ref (G.2.1 v2)), some (.int v3), some (.int v4), none] [] := by
  unfold Eq_addImageUnderA_b76 at h
  refine v_aload_n C dX0_addImageUnderA_76 rfl ?_
  refine v_iload_n C dX0_addImageUnderA_77 rfl ?_
  refine v_aload_n C dX0_addImageUnderA_78 rfl ?_
  refine v_geti C fk_X0_37 rfl dX0_addImageUnderA_79 ?_
  refine v_iconst (v := 1) C dX0_addImageUnderA_82 (by decide) ?_
  refine v_isub C dX0_addImageUnderA_83 ?_
  refine v_iload C dX0_addImageUnderA_84 rfl ?_
  refine v_aload_n C dX0_addImageUnderA_86 rfl ?_
  refine v_geti C fk_X0_15 rfl dX0_addImageUnderA_87 ?_
  obtain ⟨r3, M1, c2, h⟩ := hB h
  refine v_callSi C (Pf_reduce_ok (xl X) C.ig c2) ml_X0_50 mb_X5_reduce ms_X5_reduce rfl rfl (Nat.le_of_ble_eq_true rfl) (by decide) (by decide) dX0_addImageUnderA_90 ?_
  obtain ⟨M4, c5, h⟩ := hV h
  refine v_callVv C (Eq_putNumber_ok (xl X) C.ig c5) ml_X0_53 mb_X0_putNumber mv_X0_putNumber rfl rfl rfl (Nat.le_of_ble_eq_true rfl) (by decide) (by decide) dX0_addImageUnderA_93 ?_
  refine v_iinc (v := 1) C dX0_addImageUnderA_96 rfl (by decide) (by decide) rfl ?_
  refine v_goto (tgt := 22) C dX0_addImageUnderA_99 (by decide) ?_
  exact v_weak [true, true, true, true, false, false] (H22 _ _ _ _ g1 g2 h)
set_option maxHeartbeats 4000000 in
set_option maxRecDepth 100000 in
theorem Eq_addImageUnderA_L36_ok {X : XX} {G : GG} (C : Cx X G cX0_addImageUnderA 6 RX0 2 46 none) {M' : Mem} (hQ : Rt X G none M') {k22 : Nat → Nat → Int32 → Mem → Option Mem} (H22 : ∀ (v1 : Nat) (v2 : Nat) (v3 : Int32) (M : Mem), isP v1 = true → isI v2 = true → k22 v1 v2 v3 M = some M' → V X G 6 M 22 [some (.ref (G.2.1 23)), some (.ref (G.2.1 v1)), some (.ref (G.2.1 v2)), some (.int v3), none, none] []) : ∀ (n : Nat) (v1 : Nat) (v2 : Nat) (v3 : Int32) (v4 : Int32) (v5 : Int32) (M : Mem), isP v1 = true → isI v2 = true → Eq_addImageUnderA_L36 k22 n v1 v2 v3 v4 v5 M = some M' → V X G 6 M 36 [some (.ref (G.2.1 23)), some (.ref (G.2.1 v1)), some (.ref (G.2.1 v2)), some (.int v3), some (.int v4), some (.int v5)] [] := by
  intro n
  induction n with
  | zero =>
    intro v1 v2 v3 v4 v5 M g1 g2 h
    simp [Eq_addImageUnderA_L36] at h
  | succ n ih =>
    intro v1 v2 v3 v4 v5 M g1 g2 h
    rw [Eq_addImageUnderA_L36] at h
    refine v_iload C dX0_addImageUnderA_36 rfl ?_
    refine v_aload_n C dX0_addImageUnderA_38 rfl ?_
    refine v_geti C fk_X0_34 (intP3 g1) dX0_addImageUnderA_39 ?_
    refine v_icmp_ge (tgt := 76) C dX0_addImageUnderA_42 (by decide) (fun q => ?_) (fun q => ?_)
    · replace h := hT q h
      exact v_weak [true, true, true, true, true, false] (Eq_addImageUnderA_b76_ok C hQ H22 g1 g2 h)
    · replace h := hF q h
      refine v_iload C dX0_addImageUnderA_45 rfl ?_
      refine v_aload_n C dX0_addImageUnderA_47 rfl ?_
      refine v_alen C (arrI g2) dX0_addImageUnderA_48 ?_
      refine v_icmp_ge (tgt := 76) C dX0_addImageUnderA_49 (by decide) (fun q => ?_) (fun q => ?_)
      · replace h := hT q h
        exact v_weak [true, true, true, true, true, false] (Eq_addImageUnderA_b76_ok C hQ H22 g1 g2 h)
      · replace h := hF q h
        refine v_iload C dX0_addImageUnderA_52 rfl ?_
        refine v_aload_n C dX0_addImageUnderA_54 rfl ?_
        refine v_iconst (v := 0) C dX0_addImageUnderA_55 (by decide) ?_
        refine v_iload_n C dX0_addImageUnderA_56 rfl ?_
        refine v_iload C dX0_addImageUnderA_57 rfl ?_
        obtain ⟨r3, M1, c2, h⟩ := hB h
        refine v_callVi C (Pa_valueAt_ok (xl X) C.ig c2) ml_X0_46 mb_X1_valueAt mv_X1_valueAt g1 rfl rfl (Nat.le_of_ble_eq_true rfl) (by decide) (by decide) dX0_addImageUnderA_59 ?_
        refine v_aload_n C dX0_addImageUnderA_62 rfl ?_
        refine v_iload C dX0_addImageUnderA_63 rfl ?_
        obtain ⟨q4, h⟩ := hG h
        refine v_iald C (arrI g2) q4 dX0_addImageUnderA_65 ?_
        refine v_imul C dX0_addImageUnderA_66 ?_
        refine v_iadd C dX0_addImageUnderA_67 ?_
        refine v_istore C dX0_addImageUnderA_68 (by decide) rfl ?_
        refine v_iinc (v := 1) C dX0_addImageUnderA_70 rfl (by decide) (by decide) rfl ?_
        refine v_goto (tgt := 36) C dX0_addImageUnderA_73 (by decide) ?_
        exact v_weak [true, true, true, true, true, true] (ih _ _ _ _ _ _ g1 g2 h)
set_option maxHeartbeats 4000000 in
set_option maxRecDepth 100000 in
theorem Eq_addImageUnderA_L22_ok {X : XX} {G : GG} (C : Cx X G cX0_addImageUnderA 6 RX0 2 46 none) {M' : Mem} (hQ : Rt X G none M')   : ∀ (n : Nat) (v1 : Nat) (v2 : Nat) (v3 : Int32) (M : Mem), isP v1 = true → isI v2 = true → Eq_addImageUnderA_L22 n v1 v2 v3 M = some M' → V X G 6 M 22 [some (.ref (G.2.1 23)), some (.ref (G.2.1 v1)), some (.ref (G.2.1 v2)), some (.int v3), none, none] [] := by
  intro n
  induction n with
  | zero =>
    intro v1 v2 v3 M g1 g2 h
    simp [Eq_addImageUnderA_L22] at h
  | succ n ih =>
    intro v1 v2 v3 M g1 g2 h
    rw [Eq_addImageUnderA_L22] at h
    refine v_iload_n C dX0_addImageUnderA_22 rfl ?_
    refine v_aload_n C dX0_addImageUnderA_23 rfl ?_
    refine v_geti C fk_X0_22 (intP2 g1) dX0_addImageUnderA_24 ?_
    refine v_icmp_ge (tgt := 102) C dX0_addImageUnderA_27 (by decide) (fun q => ?_) (fun q => ?_)
    · replace h := hT q h
      obtain rfl := hRv h
      exact v_vret C hQ dX0_addImageUnderA_102
    · replace h := hF q h
      refine v_iconst (v := 0) C dX0_addImageUnderA_30 (by decide) ?_
      refine v_istore C dX0_addImageUnderA_31 (by decide) rfl ?_
      refine v_iconst (v := 0) C dX0_addImageUnderA_33 (by decide) ?_
      refine v_istore C dX0_addImageUnderA_34 (by decide) rfl ?_
      exact v_weak [true, true, true, true, true, true] (Eq_addImageUnderA_L36_ok C hQ ih _ _ _ _ _ _ _ g1 g2 h)
set_option maxHeartbeats 4000000 in
set_option maxRecDepth 100000 in
theorem Eq_addImageUnderA_ok (l : Launch) {G : GG} (hI : IG G) {M M' : Mem} {v1 : Nat} {v2 : Nat} (h : Eq_addImageUnderA v1 v2 M = some M') : Sp l G yX0_addImageUnderA cX0_addImageUnderA 6 none 2 46 [.ref (G.2.1 23), .ref (G.2.1 v1), .ref (G.2.1 v2)] M none M' := by
  unfold Eq_addImageUnderA at h
  obtain ⟨g1, h⟩ := hG h
  obtain ⟨g2, h⟩ := hG h
  refine sp_intro [some (.ref (G.2.1 23)), some (.ref (G.2.1 v1)), some (.ref (G.2.1 v2)), none, none, none] hI (by decide) (Nat.le_of_ble_eq_true rfl) (fun _ hq => hq) (fun X _ C hQ => ?_)
  refine v_aload_n C dX0_addImageUnderA_0 rfl ?_
  refine v_geti C fk_X0_37 rfl dX0_addImageUnderA_1 ?_
  refine v_bipush (v := 20) C dX0_addImageUnderA_4 (by decide) ?_
  refine v_icmp_lt (tgt := 10) C dX0_addImageUnderA_6 (by decide) (fun q => ?_) (fun q => ?_)
  · replace h := hT q h
    refine v_aload_n C dX0_addImageUnderA_10 rfl ?_
    refine v_dup C dX0_addImageUnderA_11 rfl ?_
    refine v_geti C fk_X0_37 rfl dX0_addImageUnderA_12 ?_
    refine v_iconst (v := 1) C dX0_addImageUnderA_15 (by decide) ?_
    refine v_iadd C dX0_addImageUnderA_16 ?_
    refine v_puti C fk_X0_37 rfl dX0_addImageUnderA_17 ?_
    refine v_iconst (v := 0) C dX0_addImageUnderA_20 (by decide) ?_
    refine v_istore_n C dX0_addImageUnderA_21 (by decide) rfl ?_
    exact v_weak [true, true, true, true, false, false] (Eq_addImageUnderA_L22_ok C hQ _ _ _ _ _ g1 g2 h)
  · replace h := hF q h
    obtain rfl := hRv h
    exact v_vret C hQ dX0_addImageUnderA_9
set_option maxHeartbeats 4000000 in
set_option maxRecDepth 100000 in
theorem Eq_findPivot_L2_ok {X : XX} {G : GG} (C : Cx X G cX0_findPivot 4 RX0 0 0 (some .int)) {r : Int32} {M' : Mem} (hQ : Rt X G (some (.int r)) M')   : ∀ (n : Nat) (v2 : Int32) (v3 : Int32) (M : Mem), Eq_findPivot_L2 n v2 v3 M = some (r, M') → V X G 4 M 2 [some (.ref (G.2.1 23)), none, some (.int v2), some (.int v3)] [] := by
  intro n
  induction n with
  | zero =>
    intro v2 v3 M h
    simp [Eq_findPivot_L2] at h
  | succ n ih =>
    intro v2 v3 M h
    rw [Eq_findPivot_L2] at h
    refine v_iload_n C dX0_findPivot_2 rfl ?_
    refine v_aload_n C dX0_findPivot_3 rfl ?_
    refine v_geti C fk_X0_31 rfl dX0_findPivot_4 ?_
    refine v_icmp_ge (tgt := 32) C dX0_findPivot_7 (by decide) (fun q => ?_) (fun q => ?_)
    · replace h := hT q h
      refine v_iconst (v := (-1)) C dX0_findPivot_32 (by decide) ?_
      obtain ⟨rfl, rfl⟩ := hR h
      exact v_iret C hQ dX0_findPivot_33
    · replace h := hF q h
      refine v_aload_n C dX0_findPivot_10 rfl ?_
      refine v_getr (j := 24) C fk_X0_11 rfl dX0_findPivot_11 ?_
      refine v_iload_n C dX0_findPivot_14 rfl ?_
      refine v_bipush (v := 20) C dX0_findPivot_15 (by decide) ?_
      refine v_imul C dX0_findPivot_17 ?_
      refine v_iload_n C dX0_findPivot_18 rfl ?_
      refine v_iadd C dX0_findPivot_19 ?_
      obtain ⟨q1, h⟩ := hG h
      refine v_iald C rfl q1 dX0_findPivot_20 ?_
      refine v_if_eq (tgt := 26) C dX0_findPivot_21 (by decide) (fun q => ?_) (fun q => ?_)
      · replace h := hT q h
        refine v_iinc (v := 1) C dX0_findPivot_26 rfl (by decide) (by decide) rfl ?_
        refine v_goto (tgt := 2) C dX0_findPivot_29 (by decide) ?_
        exact v_weak [true, false, true, true] (ih _ _ _ h)
      · replace h := hF q h
        refine v_iload_n C dX0_findPivot_24 rfl ?_
        obtain ⟨rfl, rfl⟩ := hR h
        exact v_iret C hQ dX0_findPivot_25
set_option maxHeartbeats 4000000 in
set_option maxRecDepth 100000 in
theorem Eq_findPivot_ok (l : Launch) {G : GG} (hI : IG G) {M M' : Mem} {v1 : Int32} {v2 : Int32} {r : Int32} (h : Eq_findPivot v1 v2 M = some (r, M')) : Sp l G yX0_findPivot cX0_findPivot 4 (some .int) 0 0 [.ref (G.2.1 23), .int v1, .int v2] M (some (.int r)) M' := by
  unfold Eq_findPivot at h
  refine sp_intro [some (.ref (G.2.1 23)), some (.int v1), some (.int v2), none] hI (by decide) (Nat.le_of_ble_eq_true rfl) (fun _ hq => hq) (fun X _ C hQ => ?_)
  refine v_iload_n C dX0_findPivot_0 rfl ?_
  refine v_istore_n C dX0_findPivot_1 (by decide) rfl ?_
  exact v_weak [true, false, true, true] (Eq_findPivot_L2_ok C hQ _ _ _ _ h)
set_option maxHeartbeats 4000000 in
set_option maxRecDepth 100000 in
theorem Eq_exchangeRows_L3_ok {X : XX} {G : GG} (C : Cx X G cX0_exchangeRows 6 RX0 0 0 none) {M' : Mem} (hQ : Rt X G none M')   : ∀ (n : Nat) (v1 : Int32) (v2 : Int32) (v4 : Int32) (M : Mem), Eq_exchangeRows_L3 n v1 v2 v4 M = some M' → V X G 6 M 3 [some (.ref (G.2.1 23)), some (.int v1), some (.int v2), none, some (.int v4), none] [] := by
  intro n
  induction n with
  | zero =>
    intro v1 v2 v4 M h
    simp [Eq_exchangeRows_L3] at h
  | succ n ih =>
    intro v1 v2 v4 M h
    rw [Eq_exchangeRows_L3] at h
    refine v_iload C dX0_exchangeRows_3 rfl ?_
    refine v_aload_n C dX0_exchangeRows_5 rfl ?_
    refine v_geti C fk_X0_37 rfl dX0_exchangeRows_6 ?_
    refine v_icmp_ge (tgt := 70) C dX0_exchangeRows_9 (by decide) (fun q => ?_) (fun q => ?_)
    · replace h := hT q h
      obtain rfl := hRv h
      exact v_vret C hQ dX0_exchangeRows_70
    · replace h := hF q h
      refine v_aload_n C dX0_exchangeRows_12 rfl ?_
      refine v_getr (j := 24) C fk_X0_11 rfl dX0_exchangeRows_13 ?_
      refine v_iload_n C dX0_exchangeRows_16 rfl ?_
      refine v_bipush (v := 20) C dX0_exchangeRows_17 (by decide) ?_
      refine v_imul C dX0_exchangeRows_19 ?_
      refine v_iload C dX0_exchangeRows_20 rfl ?_
      refine v_iadd C dX0_exchangeRows_22 ?_
      obtain ⟨q1, h⟩ := hG h
      refine v_iald C rfl q1 dX0_exchangeRows_23 ?_
      refine v_istore C dX0_exchangeRows_24 (by decide) rfl ?_
      refine v_aload_n C dX0_exchangeRows_26 rfl ?_
      refine v_getr (j := 24) C fk_X0_11 rfl dX0_exchangeRows_27 ?_
      refine v_iload_n C dX0_exchangeRows_30 rfl ?_
      refine v_bipush (v := 20) C dX0_exchangeRows_31 (by decide) ?_
      refine v_imul C dX0_exchangeRows_33 ?_
      refine v_iload C dX0_exchangeRows_34 rfl ?_
      refine v_iadd C dX0_exchangeRows_36 ?_
      refine v_aload_n C dX0_exchangeRows_37 rfl ?_
      refine v_getr (j := 24) C fk_X0_11 rfl dX0_exchangeRows_38 ?_
      refine v_iload_n C dX0_exchangeRows_41 rfl ?_
      refine v_bipush (v := 20) C dX0_exchangeRows_42 (by decide) ?_
      refine v_imul C dX0_exchangeRows_44 ?_
      refine v_iload C dX0_exchangeRows_45 rfl ?_
      refine v_iadd C dX0_exchangeRows_47 ?_
      obtain ⟨q2, h⟩ := hG h
      refine v_iald C rfl q2 dX0_exchangeRows_48 ?_
      obtain ⟨q3, h⟩ := hG h
      refine v_iast C rfl q3 dX0_exchangeRows_49 ?_
      refine v_aload_n C dX0_exchangeRows_50 rfl ?_
      refine v_getr (j := 24) C fk_X0_11 rfl dX0_exchangeRows_51 ?_
      refine v_iload_n C dX0_exchangeRows_54 rfl ?_
      refine v_bipush (v := 20) C dX0_exchangeRows_55 (by decide) ?_
      refine v_imul C dX0_exchangeRows_57 ?_
      refine v_iload C dX0_exchangeRows_58 rfl ?_
      refine v_iadd C dX0_exchangeRows_60 ?_
      refine v_iload C dX0_exchangeRows_61 rfl ?_
      obtain ⟨q4, h⟩ := hG h
      refine v_iast C rfl q4 dX0_exchangeRows_63 ?_
      refine v_iinc (v := 1) C dX0_exchangeRows_64 rfl (by decide) (by decide) rfl ?_
      refine v_goto (tgt := 3) C dX0_exchangeRows_67 (by decide) ?_
      exact v_weak [true, true, true, false, true, false] (ih _ _ _ _ h)
set_option maxHeartbeats 4000000 in
set_option maxRecDepth 100000 in
theorem Eq_exchangeRows_ok (l : Launch) {G : GG} (hI : IG G) {M M' : Mem} {v1 : Int32} {v2 : Int32} {v3 : Int32} (h : Eq_exchangeRows v1 v2 v3 M = some M') : Sp l G yX0_exchangeRows cX0_exchangeRows 6 none 0 0 [.ref (G.2.1 23), .int v1, .int v2, .int v3] M none M' := by
  unfold Eq_exchangeRows at h
  refine sp_intro [some (.ref (G.2.1 23)), some (.int v1), some (.int v2), some (.int v3), none, none] hI (by decide) (Nat.le_of_ble_eq_true rfl) (fun _ hq => hq) (fun X _ C hQ => ?_)
  refine v_iload_n C dX0_exchangeRows_0 rfl ?_
  refine v_istore C dX0_exchangeRows_1 (by decide) rfl ?_
  exact v_weak [true, true, true, false, true, false] (Eq_exchangeRows_L3_ok C hQ _ _ _ _ _ h)
set_option maxHeartbeats 4000000 in
set_option maxRecDepth 100000 in
theorem Eq_clearBelow_b118_ok {X : XX} {G : GG} (C : Cx X G cX0_clearBelow 8 RX0 1 22 none) {M' : Mem} (hQ : Rt X G none M') {k17 : Int32 → Int32 → Int32 → Int32 → Mem → Option Mem} (H17 : ∀ (v1 : Int32) (v2 : Int32) (v3 : Int32) (v4 : Int32) (M : Mem), k17 v1 v2 v3 v4 M = some M' → V X G 8 M 17 [some (.ref (G.2.1 23)), some (.int v1), some (.int v2), some (.int v3), some (.int v4), none, none, none] []) {v1 : Int32} {v2 : Int32} {v3 : Int32} {v4 : Int32} {M : Mem}  (h : Eq_clearBelow_b118 k17 v1 v2 v3 v4 M = some M') : V X G 8 M 118 [some (.ref (G.2.1 23)), some (.int v1), some (.int v2), some (.int v3), some (.int v4), none, none, none] [] := by
  unfold Eq_clearBelow_b118 at h
  refine v_iinc (v := 1) C dX0_clearBelow_118 rfl (by decide) (by decide) rfl ?_
  refine v_goto (tgt := 17) C dX0_clearBelow_121 (by decide) ?_
  exact v_weak [true, true, true, true, true, false, false, false] (H17 _ _ _ _ _ h)
set_option maxHeartbeats 4000000 in
set_option maxRecDepth 100000 in
theorem Eq_clearBelow_L48_ok {X : XX} {G : GG} (C : Cx X G cX0_clearBelow 8 RX0 1 22 none) {M' : Mem} (hQ : Rt X G none M') {k17 : Int32 → Int32 → Int32 → Int32 → Mem → Option Mem} (H17 : ∀ (v1 : Int32) (v2 : Int32) (v3 : Int32) (v4 : Int32) (M : Mem), k17 v1 v2 v3 v4 M = some M' → V X G 8 M 17 [some (.ref (G.2.1 23)), some (.int v1), some (.int v2), some (.int v3), some (.int v4), none, none, none] []) : ∀ (n : Nat) (v1 : Int32) (v2 : Int32) (v3 : Int32) (v4 : Int32) (v5 : Int32) (v6 : Int32) (M : Mem), Eq_clearBelow_L48 k17 n v1 v2 v3 v4 v5 v6 M = some M' → V X G 8 M 48 [some (.ref (G.2.1 23)), some (.int v1), some (.int v2), some (.int v3), some (.int v4), some (.int v5), some (.int v6), none] [] := by
  intro n
  induction n with
  | zero =>
    intro v1 v2 v3 v4 v5 v6 M h
    simp [Eq_clearBelow_L48] at h
  | succ n ih =>
    intro v1 v2 v3 v4 v5 v6 M h
    rw [Eq_clearBelow_L48] at h
    refine v_iload C dX0_clearBelow_48 rfl ?_
    refine v_aload_n C dX0_clearBelow_50 rfl ?_
    refine v_geti C fk_X0_37 rfl dX0_clearBelow_51 ?_
    refine v_icmp_ge (tgt := 118) C dX0_clearBelow_54 (by decide) (fun q => ?_) (fun q => ?_)
    · replace h := hT q h
      exact v_weak [true, true, true, true, true, false, false, false] (Eq_clearBelow_b118_ok C hQ H17 h)
    · replace h := hF q h
      refine v_iload_n C dX0_clearBelow_57 rfl ?_
      refine v_aload_n C dX0_clearBelow_58 rfl ?_
      refine v_getr (j := 24) C fk_X0_11 rfl dX0_clearBelow_59 ?_
      refine v_iload C dX0_clearBelow_62 rfl ?_
      refine v_bipush (v := 20) C dX0_clearBelow_64 (by decide) ?_
      refine v_imul C dX0_clearBelow_66 ?_
      refine v_iload C dX0_clearBelow_67 rfl ?_
      refine v_iadd C dX0_clearBelow_69 ?_
      obtain ⟨q1, h⟩ := hG h
      refine v_iald C rfl q1 dX0_clearBelow_70 ?_
      refine v_imul C dX0_clearBelow_71 ?_
      refine v_iload C dX0_clearBelow_72 rfl ?_
      refine v_aload_n C dX0_clearBelow_74 rfl ?_
      refine v_getr (j := 24) C fk_X0_11 rfl dX0_clearBelow_75 ?_
      refine v_iload_n C dX0_clearBelow_78 rfl ?_
      refine v_bipush (v := 20) C dX0_clearBelow_79 (by decide) ?_
      refine v_imul C dX0_clearBelow_81 ?_
      refine v_iload C dX0_clearBelow_82 rfl ?_
      refine v_iadd C dX0_clearBelow_84 ?_
      obtain ⟨q2, h⟩ := hG h
      refine v_iald C rfl q2 dX0_clearBelow_85 ?_
      refine v_imul C dX0_clearBelow_86 ?_
      refine v_isub C dX0_clearBelow_87 ?_
      refine v_istore C dX0_clearBelow_88 (by decide) rfl ?_
      refine v_aload_n C dX0_clearBelow_90 rfl ?_
      refine v_getr (j := 24) C fk_X0_11 rfl dX0_clearBelow_91 ?_
      refine v_iload C dX0_clearBelow_94 rfl ?_
      refine v_bipush (v := 20) C dX0_clearBelow_96 (by decide) ?_
      refine v_imul C dX0_clearBelow_98 ?_
      refine v_iload C dX0_clearBelow_99 rfl ?_
      refine v_iadd C dX0_clearBelow_101 ?_
      refine v_iload C dX0_clearBelow_102 rfl ?_
      refine v_aload_n C dX0_clearBelow_104 rfl ?_
      refine v_geti C fk_X0_15 rfl dX0_clearBelow_105 ?_
      obtain ⟨r5, M3, c4, h⟩ := hB h
      refine v_callSi C (Pf_reduce_ok (xl X) C.ig c4) ml_X0_50 mb_X5_reduce ms_X5_reduce rfl rfl (Nat.le_of_ble_eq_true rfl) (by decide) (by decide) dX0_clearBelow_108 ?_
      obtain ⟨q6, h⟩ := hG h
      refine v_iast C rfl q6 dX0_clearBelow_111 ?_
      refine v_iinc (v := 1) C dX0_clearBelow_112 rfl (by decide) (by decide) rfl ?_
      refine v_goto (tgt := 48) C dX0_clearBelow_115 (by decide) ?_
      exact v_weak [true, true, true, true, true, true, true, false] (ih _ _ _ _ _ _ _ h)
set_option maxHeartbeats 4000000 in
set_option maxRecDepth 100000 in
theorem Eq_clearBelow_L17_ok {X : XX} {G : GG} (C : Cx X G cX0_clearBelow 8 RX0 1 22 none) {M' : Mem} (hQ : Rt X G none M')   : ∀ (n : Nat) (v1 : Int32) (v2 : Int32) (v3 : Int32) (v4 : Int32) (M : Mem), Eq_clearBelow_L17 n v1 v2 v3 v4 M = some M' → V X G 8 M 17 [some (.ref (G.2.1 23)), some (.int v1), some (.int v2), some (.int v3), some (.int v4), none, none, none] [] := by
  intro n
  induction n with
  | zero =>
    intro v1 v2 v3 v4 M h
    simp [Eq_clearBelow_L17] at h
  | succ n ih =>
    intro v1 v2 v3 v4 M h
    rw [Eq_clearBelow_L17] at h
    refine v_iload C dX0_clearBelow_17 rfl ?_
    refine v_aload_n C dX0_clearBelow_19 rfl ?_
    refine v_geti C fk_X0_31 rfl dX0_clearBelow_20 ?_
    refine v_icmp_ge (tgt := 124) C dX0_clearBelow_23 (by decide) (fun q => ?_) (fun q => ?_)
    · replace h := hT q h
      obtain rfl := hRv h
      exact v_vret C hQ dX0_clearBelow_124
    · replace h := hF q h
      refine v_aload_n C dX0_clearBelow_26 rfl ?_
      refine v_getr (j := 24) C fk_X0_11 rfl dX0_clearBelow_27 ?_
      refine v_iload C dX0_clearBelow_30 rfl ?_
      refine v_bipush (v := 20) C dX0_clearBelow_32 (by decide) ?_
      refine v_imul C dX0_clearBelow_34 ?_
      refine v_iload_n C dX0_clearBelow_35 rfl ?_
      refine v_iadd C dX0_clearBelow_36 ?_
      obtain ⟨q1, h⟩ := hG h
      refine v_iald C rfl q1 dX0_clearBelow_37 ?_
      refine v_istore C dX0_clearBelow_38 (by decide) rfl ?_
      refine v_iload C dX0_clearBelow_40 rfl ?_
      refine v_if_eq (tgt := 118) C dX0_clearBelow_42 (by decide) (fun q => ?_) (fun q => ?_)
      · replace h := hT q h
        exact v_weak [true, true, true, true, true, false, false, false] (Eq_clearBelow_b118_ok C hQ ih h)
      · replace h := hF q h
        refine v_iload_n C dX0_clearBelow_45 rfl ?_
        refine v_istore C dX0_clearBelow_46 (by decide) rfl ?_
        exact v_weak [true, true, true, true, true, true, true, false] (Eq_clearBelow_L48_ok C hQ ih _ _ _ _ _ _ _ _ h)
set_option maxHeartbeats 4000000 in
set_option maxRecDepth 100000 in
theorem Eq_clearBelow_ok (l : Launch) {G : GG} (hI : IG G) {M M' : Mem} {v1 : Int32} {v2 : Int32} (h : Eq_clearBelow v1 v2 M = some M') : Sp l G yX0_clearBelow cX0_clearBelow 8 none 1 22 [.ref (G.2.1 23), .int v1, .int v2] M none M' := by
  unfold Eq_clearBelow at h
  refine sp_intro [some (.ref (G.2.1 23)), some (.int v1), some (.int v2), none, none, none, none, none] hI (by decide) (Nat.le_of_ble_eq_true rfl) (fun _ hq => hq) (fun X _ C hQ => ?_)
  refine v_aload_n C dX0_clearBelow_0 rfl ?_
  refine v_getr (j := 24) C fk_X0_11 rfl dX0_clearBelow_1 ?_
  refine v_iload_n C dX0_clearBelow_4 rfl ?_
  refine v_bipush (v := 20) C dX0_clearBelow_5 (by decide) ?_
  refine v_imul C dX0_clearBelow_7 ?_
  refine v_iload_n C dX0_clearBelow_8 rfl ?_
  refine v_iadd C dX0_clearBelow_9 ?_
  obtain ⟨q1, h⟩ := hG h
  refine v_iald C rfl q1 dX0_clearBelow_10 ?_
  refine v_istore_n C dX0_clearBelow_11 (by decide) rfl ?_
  refine v_iload_n C dX0_clearBelow_12 rfl ?_
  refine v_iconst (v := 1) C dX0_clearBelow_13 (by decide) ?_
  refine v_iadd C dX0_clearBelow_14 ?_
  refine v_istore C dX0_clearBelow_15 (by decide) rfl ?_
  exact v_weak [true, true, true, true, true, false, false, false] (Eq_clearBelow_L17_ok C hQ _ _ _ _ _ _ h)
set_option maxHeartbeats 4000000 in
set_option maxRecDepth 100000 in
theorem Eq_useUpForRank_b47_ok {X : XX} {G : GG} (C : Cx X G cX0_useUpForRank 4 RX0 2 49 (some .int)) {r : Int32} {M' : Mem} (hQ : Rt X G (some (.int r)) M') {k4 : Int32 → Int32 → Mem → Option (Int32 × Mem)} (H4 : ∀ (v1 : Int32) (v2 : Int32) (M : Mem), k4 v1 v2 M = some (r, M') → V X G 4 M 4 [some (.ref (G.2.1 23)), some (.int v1), some (.int v2), none] []) {v1 : Int32} {v2 : Int32} {M : Mem}  (h : Eq_useUpForRank_b47 k4 v1 v2 M = some (r, M')) : V X G 4 M 47 [some (.ref (G.2.1 23)), some (.int v1), some (.int v2), none] [] := by
  unfold Eq_useUpForRank_b47 at h
  refine v_iinc (v := 1) C dX0_useUpForRank_47 rfl (by decide) (by decide) rfl ?_
  refine v_goto (tgt := 4) C dX0_useUpForRank_50 (by decide) ?_
  exact v_weak [true, true, true, false] (H4 _ _ _ h)
set_option maxHeartbeats 4000000 in
set_option maxRecDepth 100000 in
theorem Eq_useUpForRank_L4_ok {X : XX} {G : GG} (C : Cx X G cX0_useUpForRank 4 RX0 2 49 (some .int)) {r : Int32} {M' : Mem} (hQ : Rt X G (some (.int r)) M')   : ∀ (n : Nat) (v1 : Int32) (v2 : Int32) (M : Mem), Eq_useUpForRank_L4 n v1 v2 M = some (r, M') → V X G 4 M 4 [some (.ref (G.2.1 23)), some (.int v1), some (.int v2), none] [] := by
  intro n
  induction n with
  | zero =>
    intro v1 v2 M h
    simp [Eq_useUpForRank_L4] at h
  | succ n ih =>
    intro v1 v2 M h
    rw [Eq_useUpForRank_L4] at h
    refine v_iload_n C dX0_useUpForRank_4 rfl ?_
    refine v_aload_n C dX0_useUpForRank_5 rfl ?_
    refine v_geti C fk_X0_37 rfl dX0_useUpForRank_6 ?_
    refine v_icmp_ge (tgt := 53) C dX0_useUpForRank_9 (by decide) (fun q => ?_) (fun q => ?_)
    · replace h := hT q h
      refine v_iload_n C dX0_useUpForRank_53 rfl ?_
      obtain ⟨rfl, rfl⟩ := hR h
      exact v_iret C hQ dX0_useUpForRank_54
    · replace h := hF q h
      refine v_iload_n C dX0_useUpForRank_12 rfl ?_
      refine v_aload_n C dX0_useUpForRank_13 rfl ?_
      refine v_geti C fk_X0_31 rfl dX0_useUpForRank_14 ?_
      refine v_icmp_ge (tgt := 53) C dX0_useUpForRank_17 (by decide) (fun q => ?_) (fun q => ?_)
      · replace h := hT q h
        refine v_iload_n C dX0_useUpForRank_53 rfl ?_
        obtain ⟨rfl, rfl⟩ := hR h
        exact v_iret C hQ dX0_useUpForRank_54
      · replace h := hF q h
        refine v_aload_n C dX0_useUpForRank_20 rfl ?_
        refine v_iload_n C dX0_useUpForRank_21 rfl ?_
        refine v_iload_n C dX0_useUpForRank_22 rfl ?_
        obtain ⟨r3, M1, c2, h⟩ := hB h
        refine v_callVi C (Eq_findPivot_ok (xl X) C.ig c2) ml_X0_57 mb_X0_findPivot mv_X0_findPivot rfl rfl rfl (Nat.le_of_ble_eq_true rfl) (by decide) (by decide) dX0_useUpForRank_23 ?_
        refine v_istore_n C dX0_useUpForRank_26 (by decide) rfl ?_
        refine v_iload_n C dX0_useUpForRank_27 rfl ?_
        refine v_if_lt (tgt := 47) C dX0_useUpForRank_28 (by decide) (fun q => ?_) (fun q => ?_)
        · replace h := hT q h
          exact v_weak [true, true, true, false] (Eq_useUpForRank_b47_ok C hQ ih h)
        · replace h := hF q h
          refine v_aload_n C dX0_useUpForRank_31 rfl ?_
          refine v_iload_n C dX0_useUpForRank_32 rfl ?_
          refine v_iload_n C dX0_useUpForRank_33 rfl ?_
          refine v_iload_n C dX0_useUpForRank_34 rfl ?_
          obtain ⟨M4, c5, h⟩ := hV h
          refine v_callVv C (Eq_exchangeRows_ok (xl X) C.ig c5) ml_X0_60 mb_X0_exchangeRows mv_X0_exchangeRows rfl rfl rfl (Nat.le_of_ble_eq_true rfl) (by decide) (by decide) dX0_useUpForRank_35 ?_
          refine v_aload_n C dX0_useUpForRank_38 rfl ?_
          refine v_iload_n C dX0_useUpForRank_39 rfl ?_
          refine v_iload_n C dX0_useUpForRank_40 rfl ?_
          obtain ⟨M6, c7, h⟩ := hV h
          refine v_callVv C (Eq_clearBelow_ok (xl X) C.ig c7) ml_X0_63 mb_X0_clearBelow mv_X0_clearBelow rfl rfl rfl (Nat.le_of_ble_eq_true rfl) (by decide) (by decide) dX0_useUpForRank_41 ?_
          refine v_iinc (v := 1) C dX0_useUpForRank_44 rfl (by decide) (by decide) rfl ?_
          exact v_weak [true, true, true, false] (Eq_useUpForRank_b47_ok C hQ ih h)
set_option maxHeartbeats 4000000 in
set_option maxRecDepth 100000 in
theorem Eq_useUpForRank_ok (l : Launch) {G : GG} (hI : IG G) {M M' : Mem}  {r : Int32} (h : Eq_useUpForRank M = some (r, M')) : Sp l G yX0_useUpForRank cX0_useUpForRank 4 (some .int) 2 49 [.ref (G.2.1 23)] M (some (.int r)) M' := by
  unfold Eq_useUpForRank at h
  refine sp_intro [some (.ref (G.2.1 23)), none, none, none] hI (by decide) (Nat.le_of_ble_eq_true rfl) (fun _ hq => hq) (fun X _ C hQ => ?_)
  refine v_iconst (v := 0) C dX0_useUpForRank_0 (by decide) ?_
  refine v_istore_n C dX0_useUpForRank_1 (by decide) rfl ?_
  refine v_iconst (v := 0) C dX0_useUpForRank_2 (by decide) ?_
  refine v_istore_n C dX0_useUpForRank_3 (by decide) rfl ?_
  exact v_weak [true, true, true, false] (Eq_useUpForRank_L4_ok C hQ _ _ _ _ h)
