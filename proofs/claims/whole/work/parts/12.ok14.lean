set_option maxHeartbeats 4000000 in
set_option maxRecDepth 100000 in
theorem Mo_isSheet_ok (l : Launch) {G : GG} (hI : IG G) {M M' : Mem} {v0 : Int32} {v1 : Int32} {r : Int32} (h : Mo_isSheet v0 v1 M = some (r, M')) : Sp l G yX6_isSheet cX6_isSheet 2 (some .boolean) 1 25 [.int v0, .int v1] M (some (.int r)) M' := by
  unfold Mo_isSheet at h
  refine sp_intro [some (.int v0), some (.int v1)] hI (by decide) (Nat.le_of_ble_eq_true rfl) (fun _ hq => hq) (fun X _ C hQ => ?_)
  refine v_iload_n C dX6_isSheet_0 rfl ?_
  refine v_i2l C dX6_isSheet_1 ?_
  refine v_lconst (v := 0) C dX6_isSheet_2 (by decide) ?_
  refine v_ldc2 (v := 3) C dX6_isSheet_3 (tT 1156 (by decide +kernel) rfl) ?_
  obtain ⟨r3, M1, c2, h⟩ := hB h
  refine v_callSi C (Mo_in_ok (xl X) C.ig c2) ml_X6_64 mb_X6_in ms_X6_in rfl rfl (Nat.le_of_ble_eq_true rfl) (by decide) (by decide) dX6_isSheet_6 ?_
  refine v_if_eq (tgt := 28) C dX6_isSheet_9 (by decide) (fun q => ?_) (fun q => ?_)
  · replace h := hT q h
    refine v_iconst (v := 0) C dX6_isSheet_28 (by decide) ?_
    obtain ⟨rfl, rfl⟩ := hR h
    exact v_zret C hQ rfl dX6_isSheet_29
  · replace h := hF q h
    refine v_iload_n C dX6_isSheet_12 rfl ?_
    refine v_i2l C dX6_isSheet_13 ?_
    refine v_lconst (v := 0) C dX6_isSheet_14 (by decide) ?_
    refine v_ldc2 (v := 2) C dX6_isSheet_15 (tT 1124 (by decide +kernel) rfl) ?_
    obtain ⟨r6, M4, c5, h⟩ := hB h
    refine v_callSi C (Mo_in_ok (xl X) C.ig c5) ml_X6_64 mb_X6_in ms_X6_in rfl rfl (Nat.le_of_ble_eq_true rfl) (by decide) (by decide) dX6_isSheet_18 ?_
    refine v_if_eq (tgt := 28) C dX6_isSheet_21 (by decide) (fun q => ?_) (fun q => ?_)
    · replace h := hT q h
      refine v_iconst (v := 0) C dX6_isSheet_28 (by decide) ?_
      obtain ⟨rfl, rfl⟩ := hR h
      exact v_zret C hQ rfl dX6_isSheet_29
    · replace h := hF q h
      refine v_iconst (v := 1) C dX6_isSheet_24 (by decide) ?_
      refine v_goto (tgt := 29) C dX6_isSheet_25 (by decide) ?_
      obtain ⟨rfl, rfl⟩ := hR h
      exact v_zret C hQ rfl dX6_isSheet_29
set_option maxHeartbeats 4000000 in
set_option maxRecDepth 100000 in
theorem Mo_sheet_L40_ok {X : XX} {G : GG} (C : Cx X G cX6_sheet 5 RX6 2 46 (some .int)) {r : Int32} {M' : Mem} (hQ : Rt X G (some (.int r)) M')   : ∀ (n : Nat) (v1 : Int32) (v4 : Int32) (M : Mem), Mo_sheet_L40 n v1 v4 M = some (r, M') → V X G 5 M 40 [some (.ref (G.2.1 32)), some (.int v1), none, none, some (.int v4)] [] := by
  intro n
  induction n with
  | zero =>
    intro v1 v4 M h
    simp [Mo_sheet_L40] at h
  | succ n ih =>
    intro v1 v4 M h
    rw [Mo_sheet_L40] at h
    refine v_iload C dX6_sheet_40 rfl ?_
    refine v_bipush (v := 40) C dX6_sheet_42 (by decide) ?_
    refine v_icmp_ge (tgt := 66) C dX6_sheet_44 (by decide) (fun q => ?_) (fun q => ?_)
    · replace h := hT q h
      refine v_iconst (v := 1) C dX6_sheet_66 (by decide) ?_
      obtain ⟨rfl, rfl⟩ := hR h
      exact v_iret C hQ dX6_sheet_67
    · replace h := hF q h
      refine v_aload_n C dX6_sheet_47 rfl ?_
      refine v_getr (j := 48) C fk_X6_56 rfl dX6_sheet_48 ?_
      refine v_bipush (v := 40) C dX6_sheet_51 (by decide) ?_
      refine v_iload_n C dX6_sheet_53 rfl ?_
      refine v_imul C dX6_sheet_54 ?_
      refine v_iload C dX6_sheet_55 rfl ?_
      refine v_iadd C dX6_sheet_57 ?_
      refine v_iconst (v := 0) C dX6_sheet_58 (by decide) ?_
      obtain ⟨q1, h⟩ := hG h
      refine v_iast C rfl q1 dX6_sheet_59 ?_
      refine v_iinc (v := 1) C dX6_sheet_60 rfl (by decide) (by decide) rfl ?_
      refine v_goto (tgt := 40) C dX6_sheet_63 (by decide) ?_
      exact v_weak [true, true, false, false, true] (ih _ _ _ h)
set_option maxHeartbeats 4000000 in
set_option maxRecDepth 100000 in
theorem Mo_sheet_ok (l : Launch) {G : GG} (hI : IG G) {M M' : Mem} {v1 : Int32} {v2 : Int32} {v3 : Int32} {r : Int32} (h : Mo_sheet v1 v2 v3 M = some (r, M')) : Sp l G yX6_sheet cX6_sheet 5 (some .int) 2 46 [.ref (G.2.1 32), .int v1, .int v2, .int v3] M (some (.int r)) M' := by
  unfold Mo_sheet at h
  refine sp_intro [some (.ref (G.2.1 32)), some (.int v1), some (.int v2), some (.int v3), none] hI (by decide) (Nat.le_of_ble_eq_true rfl) (fun _ hq => hq) (fun X _ C hQ => ?_)
  refine v_iload_n C dX6_sheet_0 rfl ?_
  refine v_iload_n C dX6_sheet_1 rfl ?_
  obtain ⟨r3, M1, c2, h⟩ := hB h
  refine v_callSi C (Mo_isSheet_ok (xl X) C.ig c2) ml_X6_304 mb_X6_isSheet ms_X6_isSheet rfl rfl (Nat.le_of_ble_eq_true rfl) (by decide) (by decide) dX6_sheet_2 ?_
  refine v_if_eq (tgt := 14) C dX6_sheet_5 (by decide) (fun q => ?_) (fun q => ?_)
  · replace h := hT q h
    refine v_iconst (v := (-1)) C dX6_sheet_14 (by decide) ?_
    obtain ⟨rfl, rfl⟩ := hR h
    exact v_iret C hQ dX6_sheet_15
  · replace h := hF q h
    refine v_iload_n C dX6_sheet_8 rfl ?_
    refine v_bipush (v := 40) C dX6_sheet_9 (by decide) ?_
    refine v_icmp_le (tgt := 16) C dX6_sheet_11 (by decide) (fun q => ?_) (fun q => ?_)
    · replace h := hT q h
      refine v_iload_n C dX6_sheet_16 rfl ?_
      refine v_if_ge (tgt := 23) C dX6_sheet_17 (by decide) (fun q => ?_) (fun q => ?_)
      · replace h := hT q h
        refine v_aload_n C dX6_sheet_23 rfl ?_
        refine v_getr (j := 46) C fk_X6_50 rfl dX6_sheet_24 ?_
        refine v_iload_n C dX6_sheet_27 rfl ?_
        refine v_iload_n C dX6_sheet_28 rfl ?_
        obtain ⟨q4, h⟩ := hG h
        refine v_iast C rfl q4 dX6_sheet_29 ?_
        refine v_aload_n C dX6_sheet_30 rfl ?_
        refine v_getr (j := 47) C fk_X6_53 rfl dX6_sheet_31 ?_
        refine v_iload_n C dX6_sheet_34 rfl ?_
        refine v_iload_n C dX6_sheet_35 rfl ?_
        obtain ⟨q5, h⟩ := hG h
        refine v_iast C rfl q5 dX6_sheet_36 ?_
        refine v_iconst (v := 0) C dX6_sheet_37 (by decide) ?_
        refine v_istore C dX6_sheet_38 (by decide) rfl ?_
        exact v_weak [true, true, false, false, true] (Mo_sheet_L40_ok C hQ _ _ _ _ h)
      · replace h := hF q h
        refine v_bipush (v := (-14)) C dX6_sheet_20 (by decide) ?_
        obtain ⟨rfl, rfl⟩ := hR h
        exact v_iret C hQ dX6_sheet_22
    · replace h := hF q h
      refine v_iconst (v := (-1)) C dX6_sheet_14 (by decide) ?_
      obtain ⟨rfl, rfl⟩ := hR h
      exact v_iret C hQ dX6_sheet_15
set_option maxHeartbeats 4000000 in
set_option maxRecDepth 100000 in
theorem Mo_lay_b85_ok {X : XX} {G : GG} (C : Cx X G cX6_lay 4 RX6 2 46 (some .int)) {r : Int32} {M' : Mem} (hQ : Rt X G (some (.int r)) M')   {s1 : Int32} {s2 : Int32} {M : Mem}  (h : Mo_lay_b85 s1 s2 M = some (r, M')) : V X G 4 M 85 [none, none, none, none] [.int s2, .int s1, .ref (G.2.1 48)] := by
  unfold Mo_lay_b85 at h
  obtain ⟨q1, h⟩ := hG h
  refine v_iast C rfl q1 dX6_lay_85 ?_
  refine v_iconst (v := 1) C dX6_lay_86 (by decide) ?_
  obtain ⟨rfl, rfl⟩ := hR h
  exact v_iret C hQ dX6_lay_87
set_option maxHeartbeats 4000000 in
set_option maxRecDepth 100000 in
theorem Mo_lay_ok (l : Launch) {G : GG} (hI : IG G) {M M' : Mem} {v1 : Int32} {v2 : Int32} {v3 : Int32} {r : Int32} (h : Mo_lay v1 v2 v3 M = some (r, M')) : Sp l G yX6_lay cX6_lay 4 (some .int) 2 46 [.ref (G.2.1 32), .int v1, .int v2, .int v3] M (some (.int r)) M' := by
  unfold Mo_lay at h
  refine sp_intro [some (.ref (G.2.1 32)), some (.int v1), some (.int v2), some (.int v3)] hI (by decide) (Nat.le_of_ble_eq_true rfl) (fun _ hq => hq) (fun X _ C hQ => ?_)
  refine v_iload_n C dX6_lay_0 rfl ?_
  refine v_iconst (v := 0) C dX6_lay_1 (by decide) ?_
  obtain ⟨r3, M1, c2, h⟩ := hB h
  refine v_callSi C (Mo_isSheet_ok (xl X) C.ig c2) ml_X6_304 mb_X6_isSheet ms_X6_isSheet rfl rfl (Nat.le_of_ble_eq_true rfl) (by decide) (by decide) dX6_lay_2 ?_
  refine v_if_ne (tgt := 10) C dX6_lay_5 (by decide) (fun q => ?_) (fun q => ?_)
  · replace h := hF q h
    refine v_aload_n C dX6_lay_10 rfl ?_
    refine v_getr (j := 46) C fk_X6_50 rfl dX6_lay_11 ?_
    refine v_iload_n C dX6_lay_14 rfl ?_
    obtain ⟨q4, h⟩ := hG h
    refine v_iald C rfl q4 dX6_lay_15 ?_
    refine v_bipush (v := (-4)) C dX6_lay_16 (by decide) ?_
    refine v_icmp_ne (tgt := 24) C dX6_lay_18 (by decide) (fun q => ?_) (fun q => ?_)
    · replace h := hF q h
      refine v_iload_n C dX6_lay_24 rfl ?_
      refine v_i2l C dX6_lay_25 ?_
      refine v_lconst (v := 0) C dX6_lay_26 (by decide) ?_
      refine v_aload_n C dX6_lay_27 rfl ?_
      refine v_getr (j := 47) C fk_X6_53 rfl dX6_lay_28 ?_
      refine v_iload_n C dX6_lay_31 rfl ?_
      obtain ⟨q5, h⟩ := hG h
      refine v_iald C rfl q5 dX6_lay_32 ?_
      refine v_iconst (v := 1) C dX6_lay_33 (by decide) ?_
      refine v_isub C dX6_lay_34 ?_
      refine v_i2l C dX6_lay_35 ?_
      obtain ⟨r8, M6, c7, h⟩ := hB h
      refine v_callSi C (Mo_in_ok (xl X) C.ig c7) ml_X6_64 mb_X6_in ms_X6_in rfl rfl (Nat.le_of_ble_eq_true rfl) (by decide) (by decide) dX6_lay_36 ?_
      refine v_if_ne (tgt := 45) C dX6_lay_39 (by decide) (fun q => ?_) (fun q => ?_)
      · replace h := hF q h
        refine v_aload_n C dX6_lay_45 rfl ?_
        refine v_getr (j := 48) C fk_X6_56 rfl dX6_lay_46 ?_
        refine v_bipush (v := 40) C dX6_lay_49 (by decide) ?_
        refine v_iload_n C dX6_lay_51 rfl ?_
        refine v_imul C dX6_lay_52 ?_
        refine v_iload_n C dX6_lay_53 rfl ?_
        refine v_iadd C dX6_lay_54 ?_
        refine v_aload_n C dX6_lay_55 rfl ?_
        refine v_getr (j := 46) C fk_X6_50 rfl dX6_lay_56 ?_
        refine v_iload_n C dX6_lay_59 rfl ?_
        obtain ⟨q9, h⟩ := hG h
        refine v_iald C rfl q9 dX6_lay_60 ?_
        refine v_if_ne (tgt := 69) C dX6_lay_61 (by decide) (fun q => ?_) (fun q => ?_)
        · replace h := hF q h
          refine v_aload_n C dX6_lay_69 rfl ?_
          refine v_getr (j := 46) C fk_X6_50 rfl dX6_lay_70 ?_
          refine v_iload_n C dX6_lay_73 rfl ?_
          obtain ⟨q10, h⟩ := hG h
          refine v_iald C rfl q10 dX6_lay_74 ?_
          refine v_iconst (v := 1) C dX6_lay_75 (by decide) ?_
          refine v_icmp_ne (tgt := 84) C dX6_lay_76 (by decide) (fun q => ?_) (fun q => ?_)
          · replace h := hF q h
            refine v_iload_n C dX6_lay_84 rfl ?_
            exact v_weak [false, false, false, false] (Mo_lay_b85_ok C hQ h)
          · replace h := hT q h
            refine v_iload_n C dX6_lay_79 rfl ?_
            refine v_i2s C dX6_lay_80 ?_
            refine v_goto (tgt := 85) C dX6_lay_81 (by decide) ?_
            exact v_weak [false, false, false, false] (Mo_lay_b85_ok C hQ h)
        · replace h := hT q h
          refine v_iload_n C dX6_lay_64 rfl ?_
          refine v_i2b C dX6_lay_65 ?_
          refine v_goto (tgt := 85) C dX6_lay_66 (by decide) ?_
          exact v_weak [false, false, false, false] (Mo_lay_b85_ok C hQ h)
      · replace h := hT q h
        refine v_bipush (v := (-12)) C dX6_lay_42 (by decide) ?_
        obtain ⟨rfl, rfl⟩ := hR h
        exact v_iret C hQ dX6_lay_44
    · replace h := hT q h
      refine v_bipush (v := (-11)) C dX6_lay_21 (by decide) ?_
      obtain ⟨rfl, rfl⟩ := hR h
      exact v_iret C hQ dX6_lay_23
  · replace h := hT q h
    refine v_iconst (v := (-1)) C dX6_lay_8 (by decide) ?_
    obtain ⟨rfl, rfl⟩ := hR h
    exact v_iret C hQ dX6_lay_9
set_option maxHeartbeats 4000000 in
set_option maxRecDepth 100000 in
theorem Mo_read_b268_ok {X : XX} {G : GG} (C : Cx X G cX6_read 11 RX6 3 72 (some .int)) {r : Int32} {M' : Mem} (hQ : Rt X G (some (.int r)) M')   {v5 : Int32} {v6 : Int32} {M : Mem}  (h : Mo_read_b268 v5 v6 M = some (r, M')) : V X G 11 M 268 [some (.ref (G.2.1 32)), none, none, none, none, some (.int v5), some (.int v6), none, none, none, none] [] := by
  unfold Mo_read_b268 at h
  refine v_aload_n C dX6_read_268 rfl ?_
  refine v_iload C dX6_read_269 rfl ?_
  refine v_puti C fk_X6_312 rfl dX6_read_271 ?_
  refine v_iload C dX6_read_274 rfl ?_
  obtain ⟨rfl, rfl⟩ := hR h
  exact v_iret C hQ dX6_read_276
set_option maxHeartbeats 4000000 in
set_option maxRecDepth 100000 in
theorem Mo_read_b262_ok {X : XX} {G : GG} (C : Cx X G cX6_read 11 RX6 3 72 (some .int)) {r : Int32} {M' : Mem} (hQ : Rt X G (some (.int r)) M') {k62 : Int32 → Int32 → Int32 → Int32 → Int32 → Int32 → Int32 → Mem → Option (Int32 × Mem)} (H62 : ∀ (v1 : Int32) (v2 : Int32) (v3 : Int32) (v4 : Int32) (v5 : Int32) (v6 : Int32) (v7 : Int32) (M : Mem), k62 v1 v2 v3 v4 v5 v6 v7 M = some (r, M') → V X G 11 M 62 [some (.ref (G.2.1 32)), some (.int v1), some (.int v2), some (.int v3), some (.int v4), some (.int v5), some (.int v6), some (.int v7), none, none, none] []) {v1 : Int32} {v2 : Int32} {v3 : Int32} {v4 : Int32} {v5 : Int32} {v6 : Int32} {v7 : Int32} {M : Mem}  (h : Mo_read_b262 k62 v1 v2 v3 v4 v5 v6 v7 M = some (r, M')) : V X G 11 M 262 [some (.ref (G.2.1 32)), some (.int v1), some (.int v2), some (.int v3), some (.int v4), some (.int v5), some (.int v6), some (.int v7), none, none, none] [] := by
  unfold Mo_read_b262 at h
  refine v_iinc (v := 1) C dX6_read_262 rfl (by decide) (by decide) rfl ?_
  refine v_goto (tgt := 62) C dX6_read_265 (by decide) ?_
  exact v_weak [true, true, true, true, true, true, true, true, false, false, false] (H62 _ _ _ _ _ _ _ _ h)
set_option maxHeartbeats 4000000 in
set_option maxRecDepth 100000 in
theorem Mo_read_L226_ok {X : XX} {G : GG} (C : Cx X G cX6_read 11 RX6 3 72 (some .int)) {r : Int32} {M' : Mem} (hQ : Rt X G (some (.int r)) M') {k62 : Int32 → Int32 → Int32 → Int32 → Int32 → Int32 → Int32 → Mem → Option (Int32 × Mem)} (H62 : ∀ (v1 : Int32) (v2 : Int32) (v3 : Int32) (v4 : Int32) (v5 : Int32) (v6 : Int32) (v7 : Int32) (M : Mem), k62 v1 v2 v3 v4 v5 v6 v7 M = some (r, M') → V X G 11 M 62 [some (.ref (G.2.1 32)), some (.int v1), some (.int v2), some (.int v3), some (.int v4), some (.int v5), some (.int v6), some (.int v7), none, none, none] []) : ∀ (n : Nat) (v7 : Int32) (v9 : Int32) (M : Mem), Mo_read_L226 k62 n v7 v9 M = some (r, M') → V X G 11 M 226 [some (.ref (G.2.1 32)), none, none, none, none, none, none, some (.int v7), none, some (.int v9), none] [] := by
  intro n
  induction n with
  | zero =>
    intro v7 v9 M h
    simp [Mo_read_L226] at h
  | succ n ih =>
    intro v7 v9 M h
    rw [Mo_read_L226] at h
    refine v_iload C dX6_read_226 rfl ?_
    refine v_bipush (v := 35) C dX6_read_228 (by decide) ?_
    refine v_icmp_ge (tgt := 253) C dX6_read_230 (by decide) (fun q => ?_) (fun q => ?_)
    · replace h := hT q h
      refine v_bipush (v := (-20)) C dX6_read_253 (by decide) ?_
      refine v_iload C dX6_read_255 rfl ?_
      refine v_isub C dX6_read_257 ?_
      obtain ⟨rfl, rfl⟩ := hR h
      exact v_iret C hQ dX6_read_258
    · replace h := hF q h
      refine v_aload_n C dX6_read_233 rfl ?_
      refine v_getr (j := 33) C fk_X6_7 rfl dX6_read_234 ?_
      refine v_iload C dX6_read_237 rfl ?_
      refine v_aload_n C dX6_read_239 rfl ?_
      refine v_getr (j := 49) C fk_X6_59 rfl dX6_read_240 ?_
      refine v_iload C dX6_read_243 rfl ?_
      obtain ⟨q1, h⟩ := hG h
      refine v_iald C rfl q1 dX6_read_245 ?_
      obtain ⟨q2, h⟩ := hG h
      refine v_iast C rfl q2 dX6_read_246 ?_
      refine v_iinc (v := 1) C dX6_read_247 rfl (by decide) (by decide) rfl ?_
      refine v_goto (tgt := 226) C dX6_read_250 (by decide) ?_
      exact v_weak [true, false, false, false, false, false, false, true, false, true, false] (ih _ _ _ h)
set_option maxHeartbeats 4000000 in
set_option maxRecDepth 100000 in
theorem Mo_read_b164_ok {X : XX} {G : GG} (C : Cx X G cX6_read 11 RX6 3 72 (some .int)) {r : Int32} {M' : Mem} (hQ : Rt X G (some (.int r)) M') {k62 : Int32 → Int32 → Int32 → Int32 → Int32 → Int32 → Int32 → Mem → Option (Int32 × Mem)} (H62 : ∀ (v1 : Int32) (v2 : Int32) (v3 : Int32) (v4 : Int32) (v5 : Int32) (v6 : Int32) (v7 : Int32) (M : Mem), k62 v1 v2 v3 v4 v5 v6 v7 M = some (r, M') → V X G 11 M 62 [some (.ref (G.2.1 32)), some (.int v1), some (.int v2), some (.int v3), some (.int v4), some (.int v5), some (.int v6), some (.int v7), none, none, none] []) {v1 : Int32} {v2 : Int32} {v3 : Int32} {v4 : Int32} {v5 : Int32} {v6 : Int32} {v7 : Int32} {M : Mem}  (h : Mo_read_b164 k62 v1 v2 v3 v4 v5 v6 v7 M = some (r, M')) : V X G 11 M 164 [some (.ref (G.2.1 32)), some (.int v1), some (.int v2), some (.int v3), some (.int v4), some (.int v5), some (.int v6), some (.int v7), none, none, none] [] := by
  unfold Mo_read_b164 at h
  refine v_iload C dX6_read_164 rfl ?_
  refine v_if_ne (tgt := 262) C dX6_read_166 (by decide) (fun q => ?_) (fun q => ?_)
  · replace h := hF q h
    exact v_weak [true, true, true, true, true, true, true, true, false, false, false] (Mo_read_b262_ok C hQ H62 h)
  · replace h := hT q h
    refine v_bipush (v := 40) C dX6_read_169 (by decide) ?_
    refine v_iload_n C dX6_read_171 rfl ?_
    refine v_imul C dX6_read_172 ?_
    refine v_iload_n C dX6_read_173 rfl ?_
    refine v_iadd C dX6_read_174 ?_
    refine v_iconst (v := 4) C dX6_read_175 (by decide) ?_
    refine v_iload C dX6_read_176 rfl ?_
    refine v_imul C dX6_read_178 ?_
    refine v_iadd C dX6_read_179 ?_
    refine v_istore C dX6_read_180 (by decide) rfl ?_
    refine v_aload_n C dX6_read_182 rfl ?_
    refine v_aload_n C dX6_read_183 rfl ?_
    refine v_getr (j := 48) C fk_X6_56 rfl dX6_read_184 ?_
    refine v_iload C dX6_read_187 rfl ?_
    obtain ⟨q1, h⟩ := hG h
    refine v_iald C rfl q1 dX6_read_189 ?_
    refine v_aload_n C dX6_read_190 rfl ?_
    refine v_getr (j := 48) C fk_X6_56 rfl dX6_read_191 ?_
    refine v_iload C dX6_read_194 rfl ?_
    refine v_iconst (v := 1) C dX6_read_196 (by decide) ?_
    refine v_iadd C dX6_read_197 ?_
    obtain ⟨q2, h⟩ := hG h
    refine v_iald C rfl q2 dX6_read_198 ?_
    refine v_aload_n C dX6_read_199 rfl ?_
    refine v_getr (j := 48) C fk_X6_56 rfl dX6_read_200 ?_
    refine v_iload C dX6_read_203 rfl ?_
    refine v_iconst (v := 2) C dX6_read_205 (by decide) ?_
    refine v_iadd C dX6_read_206 ?_
    obtain ⟨q3, h⟩ := hG h
    refine v_iald C rfl q3 dX6_read_207 ?_
    refine v_aload_n C dX6_read_208 rfl ?_
    refine v_getr (j := 48) C fk_X6_56 rfl dX6_read_209 ?_
    refine v_iload C dX6_read_212 rfl ?_
    refine v_iconst (v := 3) C dX6_read_214 (by decide) ?_
    refine v_iadd C dX6_read_215 ?_
    obtain ⟨q4, h⟩ := hG h
    refine v_iald C rfl q4 dX6_read_216 ?_
    obtain ⟨r7, M5, c6, h⟩ := hB h
    refine v_callVi C (Mo_set_ok (xl X) C.ig c6) ml_X6_309 mb_X6_set mv_X6_set rfl rfl rfl (Nat.le_of_ble_eq_true rfl) (by decide) (by decide) dX6_read_217 ?_
    refine v_if_ge (tgt := 259) C dX6_read_220 (by decide) (fun q => ?_) (fun q => ?_)
    · replace h := hT q h
      refine v_iinc (v := 1) C dX6_read_259 rfl (by decide) (by decide) rfl ?_
      exact v_weak [true, true, true, true, true, true, true, true, false, false, false] (Mo_read_b262_ok C hQ H62 h)
    · replace h := hF q h
      refine v_iconst (v := 0) C dX6_read_223 (by decide) ?_
      refine v_istore C dX6_read_224 (by decide) rfl ?_
      exact v_weak [true, false, false, false, false, false, false, true, false, true, false] (Mo_read_L226_ok C hQ H62 _ _ _ _ h)
set_option maxHeartbeats 4000000 in
set_option maxRecDepth 100000 in
theorem Mo_read_b156_ok {X : XX} {G : GG} (C : Cx X G cX6_read 11 RX6 3 72 (some .int)) {r : Int32} {M' : Mem} (hQ : Rt X G (some (.int r)) M') {k62 : Int32 → Int32 → Int32 → Int32 → Int32 → Int32 → Int32 → Mem → Option (Int32 × Mem)} {k77 : Int32 → Int32 → Int32 → Int32 → Int32 → Int32 → Int32 → Int32 → Mem → Option (Int32 × Mem)} (H62 : ∀ (v1 : Int32) (v2 : Int32) (v3 : Int32) (v4 : Int32) (v5 : Int32) (v6 : Int32) (v7 : Int32) (M : Mem), k62 v1 v2 v3 v4 v5 v6 v7 M = some (r, M') → V X G 11 M 62 [some (.ref (G.2.1 32)), some (.int v1), some (.int v2), some (.int v3), some (.int v4), some (.int v5), some (.int v6), some (.int v7), none, none, none] []) (H77 : ∀ (v1 : Int32) (v2 : Int32) (v3 : Int32) (v4 : Int32) (v5 : Int32) (v6 : Int32) (v7 : Int32) (v8 : Int32) (M : Mem), k77 v1 v2 v3 v4 v5 v6 v7 v8 M = some (r, M') → V X G 11 M 77 [some (.ref (G.2.1 32)), some (.int v1), some (.int v2), some (.int v3), some (.int v4), some (.int v5), some (.int v6), some (.int v7), some (.int v8), none, none] []) {v1 : Int32} {v2 : Int32} {v3 : Int32} {v4 : Int32} {v6 : Int32} {v7 : Int32} {v8 : Int32} {s0 : Int32} {M : Mem}  (h : Mo_read_b156 k62 k77 v1 v2 v3 v4 v6 v7 v8 s0 M = some (r, M')) : V X G 11 M 156 [some (.ref (G.2.1 32)), some (.int v1), some (.int v2), some (.int v3), some (.int v4), none, some (.int v6), some (.int v7), some (.int v8), none, none] [.int s0] := by
  unfold Mo_read_b156 at h
  refine v_istore C dX6_read_156 (by decide) rfl ?_
  refine v_iinc (v := 1) C dX6_read_158 rfl (by decide) (by decide) rfl ?_
  refine v_goto (tgt := 77) C dX6_read_161 (by decide) ?_
  exact v_weak [true, true, true, true, true, true, true, true, true, false, false] (H77 _ _ _ _ _ _ _ _ _ h)
set_option maxHeartbeats 4000000 in
set_option maxRecDepth 100000 in
theorem Mo_read_b151_ok {X : XX} {G : GG} (C : Cx X G cX6_read 11 RX6 3 72 (some .int)) {r : Int32} {M' : Mem} (hQ : Rt X G (some (.int r)) M') {k62 : Int32 → Int32 → Int32 → Int32 → Int32 → Int32 → Int32 → Mem → Option (Int32 × Mem)} {k77 : Int32 → Int32 → Int32 → Int32 → Int32 → Int32 → Int32 → Int32 → Mem → Option (Int32 × Mem)} (H62 : ∀ (v1 : Int32) (v2 : Int32) (v3 : Int32) (v4 : Int32) (v5 : Int32) (v6 : Int32) (v7 : Int32) (M : Mem), k62 v1 v2 v3 v4 v5 v6 v7 M = some (r, M') → V X G 11 M 62 [some (.ref (G.2.1 32)), some (.int v1), some (.int v2), some (.int v3), some (.int v4), some (.int v5), some (.int v6), some (.int v7), none, none, none] []) (H77 : ∀ (v1 : Int32) (v2 : Int32) (v3 : Int32) (v4 : Int32) (v5 : Int32) (v6 : Int32) (v7 : Int32) (v8 : Int32) (M : Mem), k77 v1 v2 v3 v4 v5 v6 v7 v8 M = some (r, M') → V X G 11 M 77 [some (.ref (G.2.1 32)), some (.int v1), some (.int v2), some (.int v3), some (.int v4), some (.int v5), some (.int v6), some (.int v7), some (.int v8), none, none] []) {v1 : Int32} {v2 : Int32} {v3 : Int32} {v4 : Int32} {v6 : Int32} {v7 : Int32} {v8 : Int32} {M : Mem}  (h : Mo_read_b151 k62 k77 v1 v2 v3 v4 v6 v7 v8 M = some (r, M')) : V X G 11 M 151 [some (.ref (G.2.1 32)), some (.int v1), some (.int v2), some (.int v3), some (.int v4), none, some (.int v6), some (.int v7), some (.int v8), none, none] [] := by
  unfold Mo_read_b151 at h
  refine v_iconst (v := 2) C dX6_read_151 (by decide) ?_
  refine v_goto (tgt := 156) C dX6_read_152 (by decide) ?_
  exact v_weak [true, true, true, true, true, false, true, true, true, false, false] (Mo_read_b156_ok C hQ H62 H77 h)
set_option maxHeartbeats 4000000 in
set_option maxRecDepth 100000 in
theorem Mo_read_L77_ok {X : XX} {G : GG} (C : Cx X G cX6_read 11 RX6 3 72 (some .int)) {r : Int32} {M' : Mem} (hQ : Rt X G (some (.int r)) M') {k62 : Int32 → Int32 → Int32 → Int32 → Int32 → Int32 → Int32 → Mem → Option (Int32 × Mem)} (H62 : ∀ (v1 : Int32) (v2 : Int32) (v3 : Int32) (v4 : Int32) (v5 : Int32) (v6 : Int32) (v7 : Int32) (M : Mem), k62 v1 v2 v3 v4 v5 v6 v7 M = some (r, M') → V X G 11 M 62 [some (.ref (G.2.1 32)), some (.int v1), some (.int v2), some (.int v3), some (.int v4), some (.int v5), some (.int v6), some (.int v7), none, none, none] []) : ∀ (n : Nat) (v1 : Int32) (v2 : Int32) (v3 : Int32) (v4 : Int32) (v5 : Int32) (v6 : Int32) (v7 : Int32) (v8 : Int32) (M : Mem), Mo_read_L77 k62 n v1 v2 v3 v4 v5 v6 v7 v8 M = some (r, M') → V X G 11 M 77 [some (.ref (G.2.1 32)), some (.int v1), some (.int v2), some (.int v3), some (.int v4), some (.int v5), some (.int v6), some (.int v7), some (.int v8), none, none] [] := by
  intro n
  induction n with
  | zero =>
    intro v1 v2 v3 v4 v5 v6 v7 v8 M h
    simp [Mo_read_L77] at h
  | succ n ih =>
    intro v1 v2 v3 v4 v5 v6 v7 v8 M h
    rw [Mo_read_L77] at h
    refine v_iload C dX6_read_77 rfl ?_
    refine v_iconst (v := 4) C dX6_read_79 (by decide) ?_
    refine v_icmp_ge (tgt := 164) C dX6_read_80 (by decide) (fun q => ?_) (fun q => ?_)
    · replace h := hT q h
      exact v_weak [true, true, true, true, true, true, true, true, false, false, false] (Mo_read_b164_ok C hQ H62 h)
    · replace h := hF q h
      refine v_iload C dX6_read_83 rfl ?_
      refine v_if_ne (tgt := 164) C dX6_read_85 (by decide) (fun q => ?_) (fun q => ?_)
      · replace h := hF q h
        exact v_weak [true, true, true, true, true, true, true, true, false, false, false] (Mo_read_b164_ok C hQ H62 h)
      · replace h := hT q h
        refine v_iload_n C dX6_read_88 rfl ?_
        refine v_i2l C dX6_read_89 ?_
        refine v_iconst (v := 4) C dX6_read_90 (by decide) ?_
        refine v_iload C dX6_read_91 rfl ?_
        refine v_imul C dX6_read_93 ?_
        refine v_i2l C dX6_read_94 ?_
        refine v_ladd C dX6_read_95 ?_
        refine v_iload C dX6_read_96 rfl ?_
        refine v_i2l C dX6_read_98 ?_
        refine v_ladd C dX6_read_99 ?_
        refine v_lstore C dX6_read_100 (by decide) rfl ?_
        refine v_aload_n C dX6_read_102 rfl ?_
        refine v_getr (j := 46) C fk_X6_50 rfl dX6_read_103 ?_
        refine v_iload_n C dX6_read_106 rfl ?_
        obtain ⟨q1, h⟩ := hG h
        refine v_iald C rfl q1 dX6_read_107 ?_
        refine v_bipush (v := (-4)) C dX6_read_108 (by decide) ?_
        refine v_icmp_ne (tgt := 117) C dX6_read_110 (by decide) (fun q => ?_) (fun q => ?_)
        · replace h := hF q h
          refine v_aload_n C dX6_read_117 rfl ?_
          refine v_getr (j := 46) C fk_X6_50 rfl dX6_read_118 ?_
          refine v_iload_n C dX6_read_121 rfl ?_
          obtain ⟨q2, h⟩ := hG h
          refine v_iald C rfl q2 dX6_read_122 ?_
          refine v_iload_n C dX6_read_123 rfl ?_
          refine v_icmp_eq (tgt := 131) C dX6_read_124 (by decide) (fun q => ?_) (fun q => ?_)
          · replace h := hT q h
            refine v_lload C dX6_read_131 rfl ?_
            refine v_lconst (v := 0) C dX6_read_133 (by decide) ?_
            refine v_lcmp C dX6_read_134 ?_
            refine v_if_lt (tgt := 151) C dX6_read_135 (by decide) (fun q => ?_) (fun q => ?_)
            · replace h := hT q h
              exact v_weak [true, true, true, true, true, false, true, true, true, false, false] (Mo_read_b151_ok C hQ H62 ih h)
            · replace h := hF q h
              refine v_lload C dX6_read_138 rfl ?_
              refine v_aload_n C dX6_read_140 rfl ?_
              refine v_getr (j := 47) C fk_X6_53 rfl dX6_read_141 ?_
              refine v_iload_n C dX6_read_144 rfl ?_
              obtain ⟨q3, h⟩ := hG h
              refine v_iald C rfl q3 dX6_read_145 ?_
              refine v_i2l C dX6_read_146 ?_
              refine v_lcmp C dX6_read_147 ?_
              refine v_if_lt (tgt := 155) C dX6_read_148 (by decide) (fun q => ?_) (fun q => ?_)
              · replace h := hT q h
                refine v_iconst (v := 0) C dX6_read_155 (by decide) ?_
                exact v_weak [true, true, true, true, true, false, true, true, true, false, false] (Mo_read_b156_ok C hQ H62 ih h)
              · replace h := hF q h
                exact v_weak [true, true, true, true, true, false, true, true, true, false, false] (Mo_read_b151_ok C hQ H62 ih h)
          · replace h := hF q h
            refine v_iconst (v := 3) C dX6_read_127 (by decide) ?_
            refine v_goto (tgt := 156) C dX6_read_128 (by decide) ?_
            exact v_weak [true, true, true, true, true, false, true, true, true, false, false] (Mo_read_b156_ok C hQ H62 ih h)
        · replace h := hT q h
          refine v_iconst (v := 1) C dX6_read_113 (by decide) ?_
          refine v_goto (tgt := 156) C dX6_read_114 (by decide) ?_
          exact v_weak [true, true, true, true, true, false, true, true, true, false, false] (Mo_read_b156_ok C hQ H62 ih h)
set_option maxHeartbeats 4000000 in
set_option maxRecDepth 100000 in
theorem Mo_read_L62_ok {X : XX} {G : GG} (C : Cx X G cX6_read 11 RX6 3 72 (some .int)) {r : Int32} {M' : Mem} (hQ : Rt X G (some (.int r)) M')   : ∀ (n : Nat) (v1 : Int32) (v2 : Int32) (v3 : Int32) (v4 : Int32) (v5 : Int32) (v6 : Int32) (v7 : Int32) (M : Mem), Mo_read_L62 n v1 v2 v3 v4 v5 v6 v7 M = some (r, M') → V X G 11 M 62 [some (.ref (G.2.1 32)), some (.int v1), some (.int v2), some (.int v3), some (.int v4), some (.int v5), some (.int v6), some (.int v7), none, none, none] [] := by
  intro n
  induction n with
  | zero =>
    intro v1 v2 v3 v4 v5 v6 v7 M h
    simp [Mo_read_L62] at h
  | succ n ih =>
    intro v1 v2 v3 v4 v5 v6 v7 M h
    rw [Mo_read_L62] at h
    refine v_iload C dX6_read_62 rfl ?_
    refine v_iload C dX6_read_64 rfl ?_
    refine v_icmp_ge (tgt := 268) C dX6_read_66 (by decide) (fun q => ?_) (fun q => ?_)
    · replace h := hT q h
      exact v_weak [true, false, false, false, false, true, true, false, false, false, false] (Mo_read_b268_ok C hQ h)
    · replace h := hF q h
      refine v_iload C dX6_read_69 rfl ?_
      refine v_if_ne (tgt := 268) C dX6_read_71 (by decide) (fun q => ?_) (fun q => ?_)
      · replace h := hF q h
        exact v_weak [true, false, false, false, false, true, true, false, false, false, false] (Mo_read_b268_ok C hQ h)
      · replace h := hT q h
        refine v_iconst (v := 0) C dX6_read_74 (by decide) ?_
        refine v_istore C dX6_read_75 (by decide) rfl ?_
        exact v_weak [true, true, true, true, true, true, true, true, true, false, false] (Mo_read_L77_ok C hQ ih _ _ _ _ _ _ _ _ _ _ h)
set_option maxHeartbeats 4000000 in
set_option maxRecDepth 100000 in
theorem Mo_read_L26_ok {X : XX} {G : GG} (C : Cx X G cX6_read 11 RX6 3 72 (some .int)) {r : Int32} {M' : Mem} (hQ : Rt X G (some (.int r)) M')   : ∀ (n : Nat) (v1 : Int32) (v2 : Int32) (v3 : Int32) (v4 : Int32) (v5 : Int32) (M : Mem), Mo_read_L26 n v1 v2 v3 v4 v5 M = some (r, M') → V X G 11 M 26 [some (.ref (G.2.1 32)), some (.int v1), some (.int v2), some (.int v3), some (.int v4), some (.int v5), none, none, none, none, none] [] := by
  intro n
  induction n with
  | zero =>
    intro v1 v2 v3 v4 v5 M h
    simp [Mo_read_L26] at h
  | succ n ih =>
    intro v1 v2 v3 v4 v5 M h
    rw [Mo_read_L26] at h
    refine v_iload C dX6_read_26 rfl ?_
    refine v_bipush (v := 35) C dX6_read_28 (by decide) ?_
    refine v_icmp_ge (tgt := 53) C dX6_read_30 (by decide) (fun q => ?_) (fun q => ?_)
    · replace h := hT q h
      refine v_iconst (v := 0) C dX6_read_53 (by decide) ?_
      refine v_istore C dX6_read_54 (by decide) rfl ?_
      refine v_iconst (v := 0) C dX6_read_56 (by decide) ?_
      refine v_istore C dX6_read_57 (by decide) rfl ?_
      refine v_iconst (v := 0) C dX6_read_59 (by decide) ?_
      refine v_istore C dX6_read_60 (by decide) rfl ?_
      exact v_weak [true, true, true, true, true, true, true, true, false, false, false] (Mo_read_L62_ok C hQ _ _ _ _ _ _ _ _ _ h)
    · replace h := hF q h
      refine v_aload_n C dX6_read_33 rfl ?_
      refine v_getr (j := 49) C fk_X6_59 rfl dX6_read_34 ?_
      refine v_iload C dX6_read_37 rfl ?_
      refine v_aload_n C dX6_read_39 rfl ?_
      refine v_getr (j := 33) C fk_X6_7 rfl dX6_read_40 ?_
      refine v_iload C dX6_read_43 rfl ?_
      obtain ⟨q1, h⟩ := hG h
      refine v_iald C rfl q1 dX6_read_45 ?_
      obtain ⟨q2, h⟩ := hG h
      refine v_iast C rfl q2 dX6_read_46 ?_
      refine v_iinc (v := 1) C dX6_read_47 rfl (by decide) (by decide) rfl ?_
      refine v_goto (tgt := 26) C dX6_read_50 (by decide) ?_
      exact v_weak [true, true, true, true, true, true, false, false, false, false, false] (ih _ _ _ _ _ _ h)
set_option maxHeartbeats 4000000 in
set_option maxRecDepth 100000 in
theorem Mo_read_ok (l : Launch) {G : GG} (hI : IG G) {M M' : Mem} {v1 : Int32} {v2 : Int32} {v3 : Int32} {v4 : Int32} {r : Int32} (h : Mo_read v1 v2 v3 v4 M = some (r, M')) : Sp l G yX6_read cX6_read 11 (some .int) 3 72 [.ref (G.2.1 32), .int v1, .int v2, .int v3, .int v4] M (some (.int r)) M' := by
  unfold Mo_read at h
  refine sp_intro [some (.ref (G.2.1 32)), some (.int v1), some (.int v2), some (.int v3), some (.int v4), none, none, none, none, none, none] hI (by decide) (Nat.le_of_ble_eq_true rfl) (fun _ hq => hq) (fun X _ C hQ => ?_)
  refine v_iload_n C dX6_read_0 rfl ?_
  refine v_iload_n C dX6_read_1 rfl ?_
  obtain ⟨r3, M1, c2, h⟩ := hB h
  refine v_callSi C (Mo_isSheet_ok (xl X) C.ig c2) ml_X6_304 mb_X6_isSheet ms_X6_isSheet rfl rfl (Nat.le_of_ble_eq_true rfl) (by decide) (by decide) dX6_read_2 ?_
  refine v_if_eq (tgt := 21) C dX6_read_5 (by decide) (fun q => ?_) (fun q => ?_)
  · replace h := hT q h
    refine v_iconst (v := (-1)) C dX6_read_21 (by decide) ?_
    obtain ⟨rfl, rfl⟩ := hR h
    exact v_iret C hQ dX6_read_22
  · replace h := hF q h
    refine v_iload C dX6_read_8 rfl ?_
    refine v_i2l C dX6_read_10 ?_
    refine v_lconst (v := 0) C dX6_read_11 (by decide) ?_
    refine v_ldc2 (v := 10) C dX6_read_12 (tT 1165 (by decide +kernel) rfl) ?_
    obtain ⟨r6, M4, c5, h⟩ := hB h
    refine v_callSi C (Mo_in_ok (xl X) C.ig c5) ml_X6_64 mb_X6_in ms_X6_in rfl rfl (Nat.le_of_ble_eq_true rfl) (by decide) (by decide) dX6_read_15 ?_
    refine v_if_ne (tgt := 23) C dX6_read_18 (by decide) (fun q => ?_) (fun q => ?_)
    · replace h := hF q h
      refine v_iconst (v := 0) C dX6_read_23 (by decide) ?_
      refine v_istore C dX6_read_24 (by decide) rfl ?_
      exact v_weak [true, true, true, true, true, true, false, false, false, false, false] (Mo_read_L26_ok C hQ _ _ _ _ _ _ _ h)
    · replace h := hT q h
      refine v_iconst (v := (-1)) C dX6_read_21 (by decide) ?_
      obtain ⟨rfl, rfl⟩ := hR h
      exact v_iret C hQ dX6_read_22
set_option maxHeartbeats 4000000 in
set_option maxRecDepth 100000 in
theorem Mo_torn_ok (l : Launch) {G : GG} (hI : IG G) {M M' : Mem}  {r : Int32} (h : Mo_torn M = some (r, M')) : Sp l G yX6_torn cX6_torn 1 (some .int) 0 0 [.ref (G.2.1 32)] M (some (.int r)) M' := by
  unfold Mo_torn at h
  refine sp_intro [some (.ref (G.2.1 32))] hI (by decide) (Nat.le_of_ble_eq_true rfl) (fun _ hq => hq) (fun X _ C hQ => ?_)
  refine v_aload_n C dX6_torn_0 rfl ?_
  refine v_geti C fk_X6_312 rfl dX6_torn_1 ?_
  obtain ⟨rfl, rfl⟩ := hR h
  exact v_iret C hQ dX6_torn_4
set_option maxHeartbeats 4000000 in
set_option maxRecDepth 100000 in
theorem Mo_sumOf_b67_ok {X : XX} {G : GG} (C : Cx X G cX6_sumOf 6 RX6 1 23 (some .int)) {r : Int32} {M' : Mem} (hQ : Rt X G (some (.int r)) M') {k5 : Int32 → Int32 → Int32 → Int32 → Mem → Option (Int32 × Mem)} {k19 : Int32 → Int32 → Int32 → Int32 → Int32 → Mem → Option (Int32 × Mem)} (H5 : ∀ (v1 : Int32) (v2 : Int32) (v3 : Int32) (v4 : Int32) (M : Mem), k5 v1 v2 v3 v4 M = some (r, M') → V X G 6 M 5 [some (.ref (G.2.1 32)), some (.int v1), some (.int v2), some (.int v3), some (.int v4), none] []) (H19 : ∀ (v1 : Int32) (v2 : Int32) (v3 : Int32) (v4 : Int32) (v5 : Int32) (M : Mem), k19 v1 v2 v3 v4 v5 M = some (r, M') → V X G 6 M 19 [some (.ref (G.2.1 32)), some (.int v1), some (.int v2), some (.int v3), some (.int v4), some (.int v5)] []) {v1 : Int32} {v2 : Int32} {v4 : Int32} {v5 : Int32} {s0 : Int32} {s1 : Int32} {M : Mem}  (h : Mo_sumOf_b67 k5 k19 v1 v2 v4 v5 s0 s1 M = some (r, M')) : V X G 6 M 67 [some (.ref (G.2.1 32)), some (.int v1), some (.int v2), none, some (.int v4), some (.int v5)] [.int s1, .int s0] := by
  unfold Mo_sumOf_b67 at h
  refine v_iadd C dX6_sumOf_67 ?_
  refine v_istore_n C dX6_sumOf_68 (by decide) rfl ?_
  refine v_iinc (v := 1) C dX6_sumOf_69 rfl (by decide) (by decide) rfl ?_
  refine v_goto (tgt := 19) C dX6_sumOf_72 (by decide) ?_
  exact v_weak [true, true, true, true, true, true] (H19 _ _ _ _ _ _ h)
set_option maxHeartbeats 4000000 in
set_option maxRecDepth 100000 in
theorem Mo_sumOf_b52_ok {X : XX} {G : GG} (C : Cx X G cX6_sumOf 6 RX6 1 23 (some .int)) {r : Int32} {M' : Mem} (hQ : Rt X G (some (.int r)) M') {k5 : Int32 → Int32 → Int32 → Int32 → Mem → Option (Int32 × Mem)} {k19 : Int32 → Int32 → Int32 → Int32 → Int32 → Mem → Option (Int32 × Mem)} (H5 : ∀ (v1 : Int32) (v2 : Int32) (v3 : Int32) (v4 : Int32) (M : Mem), k5 v1 v2 v3 v4 M = some (r, M') → V X G 6 M 5 [some (.ref (G.2.1 32)), some (.int v1), some (.int v2), some (.int v3), some (.int v4), none] []) (H19 : ∀ (v1 : Int32) (v2 : Int32) (v3 : Int32) (v4 : Int32) (v5 : Int32) (M : Mem), k19 v1 v2 v3 v4 v5 M = some (r, M') → V X G 6 M 19 [some (.ref (G.2.1 32)), some (.int v1), some (.int v2), some (.int v3), some (.int v4), some (.int v5)] []) {v1 : Int32} {v2 : Int32} {v4 : Int32} {v5 : Int32} {s0 : Int32} {s1 : Int32} {M : Mem}  (h : Mo_sumOf_b52 k5 k19 v1 v2 v4 v5 s0 s1 M = some (r, M')) : V X G 6 M 52 [some (.ref (G.2.1 32)), some (.int v1), some (.int v2), none, some (.int v4), some (.int v5)] [.int s1, .int s0] := by
  unfold Mo_sumOf_b52 at h
  obtain ⟨r3, M1, c2, h⟩ := hB h
  refine v_callSi C (Mo_flag_ok (xl X) C.ig c2) ml_X6_214 mb_X6_flag ms_X6_flag rfl rfl (Nat.le_of_ble_eq_true rfl) (by decide) (by decide) dX6_sumOf_52 ?_
  refine v_goto (tgt := 67) C dX6_sumOf_55 (by decide) ?_
  exact v_weak [true, true, true, false, true, true] (Mo_sumOf_b67_ok C hQ H5 H19 h)
set_option maxHeartbeats 4000000 in
set_option maxRecDepth 100000 in
theorem Mo_sumOf_L19_ok {X : XX} {G : GG} (C : Cx X G cX6_sumOf 6 RX6 1 23 (some .int)) {r : Int32} {M' : Mem} (hQ : Rt X G (some (.int r)) M') {k5 : Int32 → Int32 → Int32 → Int32 → Mem → Option (Int32 × Mem)} (H5 : ∀ (v1 : Int32) (v2 : Int32) (v3 : Int32) (v4 : Int32) (M : Mem), k5 v1 v2 v3 v4 M = some (r, M') → V X G 6 M 5 [some (.ref (G.2.1 32)), some (.int v1), some (.int v2), some (.int v3), some (.int v4), none] []) : ∀ (n : Nat) (v1 : Int32) (v2 : Int32) (v3 : Int32) (v4 : Int32) (v5 : Int32) (M : Mem), Mo_sumOf_L19 k5 n v1 v2 v3 v4 v5 M = some (r, M') → V X G 6 M 19 [some (.ref (G.2.1 32)), some (.int v1), some (.int v2), some (.int v3), some (.int v4), some (.int v5)] [] := by
  intro n
  induction n with
  | zero =>
    intro v1 v2 v3 v4 v5 M h
    simp [Mo_sumOf_L19] at h
  | succ n ih =>
    intro v1 v2 v3 v4 v5 M h
    rw [Mo_sumOf_L19] at h
    refine v_iload C dX6_sumOf_19 rfl ?_
    refine v_aload_n C dX6_sumOf_21 rfl ?_
    refine v_getr (j := 33) C fk_X6_7 rfl dX6_sumOf_22 ?_
    refine v_iconst (v := 2) C dX6_sumOf_25 (by decide) ?_
    refine v_iald_k (k := 2) (n := 35) C rfl rfl (by decide) dX6_sumOf_26 ?_
    refine v_icmp_ge (tgt := 75) C dX6_sumOf_27 (by decide) (fun q => ?_) (fun q => ?_)
    · replace h := hT q h
      refine v_iinc (v := 1) C dX6_sumOf_75 rfl (by decide) (by decide) rfl ?_
      refine v_goto (tgt := 5) C dX6_sumOf_78 (by decide) ?_
      exact v_weak [true, true, true, true, true, false] (H5 _ _ _ _ _ h)
    · replace h := hF q h
      refine v_iload_n C dX6_sumOf_30 rfl ?_
      refine v_iload_n C dX6_sumOf_31 rfl ?_
      refine v_if_eq (tgt := 58) C dX6_sumOf_32 (by decide) (fun q => ?_) (fun q => ?_)
      · replace h := hT q h
        refine v_aload_n C dX6_sumOf_58 rfl ?_
        refine v_iload_n C dX6_sumOf_59 rfl ?_
        refine v_iload C dX6_sumOf_60 rfl ?_
        refine v_iload C dX6_sumOf_62 rfl ?_
        obtain ⟨r3, M1, c2, h⟩ := hB h
        refine v_callVi C (Mo_of_ok (xl X) C.ig c2) ml_X6_150 mb_X6_of mv_X6_of rfl rfl rfl (Nat.le_of_ble_eq_true rfl) (by decide) (by decide) dX6_sumOf_64 ?_
        exact v_weak [true, true, true, false, true, true] (Mo_sumOf_b67_ok C hQ H5 ih h)
      · replace h := hF q h
        refine v_aload_n C dX6_sumOf_35 rfl ?_
        refine v_iload_n C dX6_sumOf_36 rfl ?_
        refine v_iload C dX6_sumOf_37 rfl ?_
        refine v_iload C dX6_sumOf_39 rfl ?_
        obtain ⟨r6, M4, c5, h⟩ := hB h
        refine v_callVi C (Mo_of_ok (xl X) C.ig c5) ml_X6_150 mb_X6_of mv_X6_of rfl rfl rfl (Nat.le_of_ble_eq_true rfl) (by decide) (by decide) dX6_sumOf_41 ?_
        refine v_if_eq (tgt := 51) C dX6_sumOf_44 (by decide) (fun q => ?_) (fun q => ?_)
        · replace h := hT q h
          refine v_iconst (v := 0) C dX6_sumOf_51 (by decide) ?_
          exact v_weak [true, true, true, false, true, true] (Mo_sumOf_b52_ok C hQ H5 ih h)
        · replace h := hF q h
          refine v_iconst (v := 1) C dX6_sumOf_47 (by decide) ?_
          refine v_goto (tgt := 52) C dX6_sumOf_48 (by decide) ?_
          exact v_weak [true, true, true, false, true, true] (Mo_sumOf_b52_ok C hQ H5 ih h)
set_option maxHeartbeats 4000000 in
set_option maxRecDepth 100000 in
theorem Mo_sumOf_L5_ok {X : XX} {G : GG} (C : Cx X G cX6_sumOf 6 RX6 1 23 (some .int)) {r : Int32} {M' : Mem} (hQ : Rt X G (some (.int r)) M')   : ∀ (n : Nat) (v1 : Int32) (v2 : Int32) (v3 : Int32) (v4 : Int32) (M : Mem), Mo_sumOf_L5 n v1 v2 v3 v4 M = some (r, M') → V X G 6 M 5 [some (.ref (G.2.1 32)), some (.int v1), some (.int v2), some (.int v3), some (.int v4), none] [] := by
  intro n
  induction n with
  | zero =>
    intro v1 v2 v3 v4 M h
    simp [Mo_sumOf_L5] at h
  | succ n ih =>
    intro v1 v2 v3 v4 M h
    rw [Mo_sumOf_L5] at h
    refine v_iload C dX6_sumOf_5 rfl ?_
    refine v_aload_n C dX6_sumOf_7 rfl ?_
    refine v_getr (j := 33) C fk_X6_7 rfl dX6_sumOf_8 ?_
    refine v_iconst (v := 1) C dX6_sumOf_11 (by decide) ?_
    refine v_iald_k (k := 1) (n := 35) C rfl rfl (by decide) dX6_sumOf_12 ?_
    refine v_icmp_ge (tgt := 81) C dX6_sumOf_13 (by decide) (fun q => ?_) (fun q => ?_)
    · replace h := hT q h
      refine v_iload_n C dX6_sumOf_81 rfl ?_
      obtain ⟨rfl, rfl⟩ := hR h
      exact v_iret C hQ dX6_sumOf_82
    · replace h := hF q h
      refine v_iconst (v := 0) C dX6_sumOf_16 (by decide) ?_
      refine v_istore C dX6_sumOf_17 (by decide) rfl ?_
      exact v_weak [true, true, true, true, true, true] (Mo_sumOf_L19_ok C hQ ih _ _ _ _ _ _ _ h)
set_option maxHeartbeats 4000000 in
set_option maxRecDepth 100000 in
theorem Mo_sumOf_ok (l : Launch) {G : GG} (hI : IG G) {M M' : Mem} {v1 : Int32} {v2 : Int32} {r : Int32} (h : Mo_sumOf v1 v2 M = some (r, M')) : Sp l G yX6_sumOf cX6_sumOf 6 (some .int) 1 23 [.ref (G.2.1 32), .int v1, .int v2] M (some (.int r)) M' := by
  unfold Mo_sumOf at h
  refine sp_intro [some (.ref (G.2.1 32)), some (.int v1), some (.int v2), none, none, none] hI (by decide) (Nat.le_of_ble_eq_true rfl) (fun _ hq => hq) (fun X _ C hQ => ?_)
  refine v_iconst (v := 0) C dX6_sumOf_0 (by decide) ?_
  refine v_istore_n C dX6_sumOf_1 (by decide) rfl ?_
  refine v_iconst (v := 0) C dX6_sumOf_2 (by decide) ?_
  refine v_istore C dX6_sumOf_3 (by decide) rfl ?_
  exact v_weak [true, true, true, true, true, false] (Mo_sumOf_L5_ok C hQ _ _ _ _ _ _ h)
set_option maxHeartbeats 4000000 in
set_option maxRecDepth 100000 in
theorem Mo_count_ok (l : Launch) {G : GG} (hI : IG G) {M M' : Mem} {v1 : Int32} {r : Int32} (h : Mo_count v1 M = some (r, M')) : Sp l G yX6_count cX6_count 2 (some .int) 2 48 [.ref (G.2.1 32), .int v1] M (some (.int r)) M' := by
  unfold Mo_count at h
  refine sp_intro [some (.ref (G.2.1 32)), some (.int v1)] hI (by decide) (Nat.le_of_ble_eq_true rfl) (fun _ hq => hq) (fun X _ C hQ => ?_)
  refine v_iload_n C dX6_count_0 rfl ?_
  by_cases q1_0 : v1 = 0
  · subst q1_0
    replace h := hT rfl h
    refine v_tin (tgt := 40) C dX6_count_1 (by decide) (by decide) rfl (by decide) ?_
    refine v_aload_n C dX6_count_40 rfl ?_
    refine v_getr (j := 35) C fk_X6_16 rfl dX6_count_41 ?_
    refine v_iconst (v := 0) C dX6_count_44 (by decide) ?_
    refine v_zald_k (k := 0) (n := 2) C rfl rfl (by decide) dX6_count_45 ?_
    obtain ⟨r3, M1, c2, h⟩ := hB h
    refine v_callSi C (Mo_flag_ok (xl X) C.ig c2) ml_X6_214 mb_X6_flag ms_X6_flag rfl rfl (Nat.le_of_ble_eq_true rfl) (by decide) (by decide) dX6_count_46 ?_
    refine v_aload_n C dX6_count_49 rfl ?_
    refine v_getr (j := 35) C fk_X6_16 rfl dX6_count_50 ?_
    refine v_iconst (v := 1) C dX6_count_53 (by decide) ?_
    refine v_zald_k (k := 1) (n := 2) C rfl rfl (by decide) dX6_count_54 ?_
    obtain ⟨r6, M4, c5, h⟩ := hB h
    refine v_callSi C (Mo_flag_ok (xl X) C.ig c5) ml_X6_214 mb_X6_flag ms_X6_flag rfl rfl (Nat.le_of_ble_eq_true rfl) (by decide) (by decide) dX6_count_55 ?_
    refine v_iadd C dX6_count_58 ?_
    obtain ⟨rfl, rfl⟩ := hR h
    exact v_iret C hQ dX6_count_59
  replace h := hF q1_0 h
  by_cases q1_1 : v1 = 1
  · subst q1_1
    replace h := hT rfl h
    refine v_tin (tgt := 60) C dX6_count_1 (by decide) (by decide) rfl (by decide) ?_
    refine v_aload_n C dX6_count_60 rfl ?_
    refine v_iconst (v := 0) C dX6_count_61 (by decide) ?_
    refine v_iconst (v := 1) C dX6_count_62 (by decide) ?_
    obtain ⟨r9, M7, c8, h⟩ := hB h
    refine v_callVi C (Mo_sumOf_ok (xl X) C.ig c8) ml_X6_315 mb_X6_sumOf mv_X6_sumOf rfl rfl rfl (Nat.le_of_ble_eq_true rfl) (by decide) (by decide) dX6_count_63 ?_
    refine v_aload_n C dX6_count_66 rfl ?_
    refine v_iconst (v := 1) C dX6_count_67 (by decide) ?_
    refine v_iconst (v := 1) C dX6_count_68 (by decide) ?_
    obtain ⟨r12, M10, c11, h⟩ := hB h
    refine v_callVi C (Mo_sumOf_ok (xl X) C.ig c11) ml_X6_315 mb_X6_sumOf mv_X6_sumOf rfl rfl rfl (Nat.le_of_ble_eq_true rfl) (by decide) (by decide) dX6_count_69 ?_
    refine v_iadd C dX6_count_72 ?_
    obtain ⟨rfl, rfl⟩ := hR h
    exact v_iret C hQ dX6_count_73
  replace h := hF q1_1 h
  by_cases q1_2 : v1 = 2
  · subst q1_2
    replace h := hT rfl h
    refine v_tin (tgt := 74) C dX6_count_1 (by decide) (by decide) rfl (by decide) ?_
    refine v_aload_n C dX6_count_74 rfl ?_
    refine v_geti C fk_X6_68 rfl dX6_count_75 ?_
    obtain ⟨rfl, rfl⟩ := hR h
    exact v_iret C hQ dX6_count_78
  replace h := hF q1_2 h
  by_cases q1_3 : v1 = 3
  · subst q1_3
    replace h := hT rfl h
    refine v_tin (tgt := 79) C dX6_count_1 (by decide) (by decide) rfl (by decide) ?_
    refine v_aload_n C dX6_count_79 rfl ?_
    refine v_getr (j := 46) C fk_X6_50 rfl dX6_count_80 ?_
    refine v_iconst (v := 0) C dX6_count_83 (by decide) ?_
    refine v_iald_k (k := 0) (n := 4) C rfl rfl (by decide) dX6_count_84 ?_
    refine v_bipush (v := (-4)) C dX6_count_85 (by decide) ?_
    refine v_icmp_ne (tgt := 95) C dX6_count_87 (by decide) (fun q => ?_) (fun q => ?_)
    · replace h := hF q h
      refine v_aload_n C dX6_count_95 rfl ?_
      refine v_getr (j := 47) C fk_X6_53 rfl dX6_count_96 ?_
      refine v_iconst (v := 0) C dX6_count_99 (by decide) ?_
      refine v_iald_k (k := 0) (n := 4) C rfl rfl (by decide) dX6_count_100 ?_
      obtain ⟨rfl, rfl⟩ := hR h
      exact v_iret C hQ dX6_count_101
    · replace h := hT q h
      refine v_bipush (v := (-4)) C dX6_count_90 (by decide) ?_
      refine v_goto (tgt := 101) C dX6_count_92 (by decide) ?_
      obtain ⟨rfl, rfl⟩ := hR h
      exact v_iret C hQ dX6_count_101
  replace h := hF q1_3 h
  by_cases q1_4 : v1 = 4
  · subst q1_4
    replace h := hT rfl h
    refine v_tin (tgt := 102) C dX6_count_1 (by decide) (by decide) rfl (by decide) ?_
    refine v_aload_n C dX6_count_102 rfl ?_
    refine v_iconst (v := 0) C dX6_count_103 (by decide) ?_
    refine v_iconst (v := 0) C dX6_count_104 (by decide) ?_
    obtain ⟨r15, M13, c14, h⟩ := hB h
    refine v_callVi C (Mo_sumOf_ok (xl X) C.ig c14) ml_X6_315 mb_X6_sumOf mv_X6_sumOf rfl rfl rfl (Nat.le_of_ble_eq_true rfl) (by decide) (by decide) dX6_count_105 ?_
    obtain ⟨rfl, rfl⟩ := hR h
    exact v_iret C hQ dX6_count_108
  replace h := hF q1_4 h
  by_cases q1_5 : v1 = 5
  · subst q1_5
    replace h := hT rfl h
    refine v_tin (tgt := 109) C dX6_count_1 (by decide) (by decide) rfl (by decide) ?_
    refine v_aload_n C dX6_count_109 rfl ?_
    refine v_iconst (v := 1) C dX6_count_110 (by decide) ?_
    refine v_iconst (v := 0) C dX6_count_111 (by decide) ?_
    obtain ⟨r18, M16, c17, h⟩ := hB h
    refine v_callVi C (Mo_sumOf_ok (xl X) C.ig c17) ml_X6_315 mb_X6_sumOf mv_X6_sumOf rfl rfl rfl (Nat.le_of_ble_eq_true rfl) (by decide) (by decide) dX6_count_112 ?_
    obtain ⟨rfl, rfl⟩ := hR h
    exact v_iret C hQ dX6_count_115
  replace h := hF q1_5 h
  refine v_tout (tgt := 116) C dX6_count_1 (tsw6 q1_0 q1_1 q1_2 q1_3 q1_4 q1_5) (by decide) ?_
  refine v_iconst (v := (-1)) C dX6_count_116 (by decide) ?_
  obtain ⟨rfl, rfl⟩ := hR h
  exact v_iret C hQ dX6_count_117
