set_option maxHeartbeats 4000000 in
set_option maxRecDepth 100000 in
theorem Tr_readNumber_b43_ok {X : XX} {G : GG} (C : Cx X G cX3_readNumber 3 RX3 2 44 (some .boolean)) {r : Int32} {M' : Mem} (hQ : Rt X G (some (.int r)) M')    {M : Mem}  (h : Tr_readNumber_b43 M = some (r, M')) : V X G 3 M 43 [some (.ref (G.2.1 1)), none, none] [] := by
  unfold Tr_readNumber_b43 at h
  refine v_aload_n C dX3_readNumber_43 rfl ?_
  refine v_iconst (v := 3) C dX3_readNumber_44 (by decide) ?_
  refine v_aload_n C dX3_readNumber_45 rfl ?_
  refine v_geti C fk_X3_69 rfl dX3_readNumber_46 ?_
  obtain ⟨r3, M1, c2, h⟩ := hB h
  refine v_callVi C (Tr_stopAt_ok (xl X) C.ig c2) ml_X3_61 mb_X3_stopAt mv_X3_stopAt rfl rfl rfl (Nat.le_of_ble_eq_true rfl) (by decide) (by decide) dX3_readNumber_49 ?_
  refine v_if_eq (tgt := 59) C dX3_readNumber_52 (by decide) (fun q => ?_) (fun q => ?_)
  · replace h := hT q h
    refine v_iconst (v := 0) C dX3_readNumber_59 (by decide) ?_
    obtain ⟨rfl, rfl⟩ := hR h
    exact v_zret C hQ rfl dX3_readNumber_60
  · replace h := hF q h
    refine v_iconst (v := 1) C dX3_readNumber_55 (by decide) ?_
    refine v_goto (tgt := 60) C dX3_readNumber_56 (by decide) ?_
    obtain ⟨rfl, rfl⟩ := hR h
    exact v_zret C hQ rfl dX3_readNumber_60
set_option maxHeartbeats 4000000 in
set_option maxRecDepth 100000 in
theorem Tr_readNumber_ok (l : Launch) {G : GG} (hI : IG G) {M M' : Mem} {v1 : Int32} {v2 : Int32} {r : Int32} (h : Tr_readNumber v1 v2 M = some (r, M')) : Sp l G yX3_readNumber cX3_readNumber 3 (some .boolean) 2 44 [.ref (G.2.1 1), .int v1, .int v2] M (some (.int r)) M' := by
  unfold Tr_readNumber at h
  refine sp_intro [some (.ref (G.2.1 1)), some (.int v1), some (.int v2)] hI (by decide) (Nat.le_of_ble_eq_true rfl) (fun _ hq => hq) (fun X _ C hQ => ?_)
  refine v_aload_n C dX3_readNumber_0 rfl ?_
  obtain ⟨r3, M1, c2, h⟩ := hB h
  refine v_callVi C (Tr_readToken_ok (xl X) C.ig c2) ml_X3_48 mb_X3_readToken mv_X3_readToken rfl rfl rfl (Nat.le_of_ble_eq_true rfl) (by decide) (by decide) dX3_readNumber_1 ?_
  refine v_if_ne (tgt := 9) C dX3_readNumber_4 (by decide) (fun q => ?_) (fun q => ?_)
  · replace h := hF q h
    refine v_aload_n C dX3_readNumber_9 rfl ?_
    refine v_geti C fk_X3_52 rfl dX3_readNumber_10 ?_
    refine v_iconst (v := 2) C dX3_readNumber_13 (by decide) ?_
    refine v_icmp_eq (tgt := 27) C dX3_readNumber_14 (by decide) (fun q => ?_) (fun q => ?_)
    · replace h := hT q h
      refine v_aload_n C dX3_readNumber_27 rfl ?_
      refine v_geti C fk_X3_82 rfl dX3_readNumber_28 ?_
      refine v_iload_n C dX3_readNumber_31 rfl ?_
      refine v_icmp_lt (tgt := 43) C dX3_readNumber_32 (by decide) (fun q => ?_) (fun q => ?_)
      · replace h := hT q h
        exact v_weak [true, false, false] (Tr_readNumber_b43_ok C hQ h)
      · replace h := hF q h
        refine v_aload_n C dX3_readNumber_35 rfl ?_
        refine v_geti C fk_X3_82 rfl dX3_readNumber_36 ?_
        refine v_iload_n C dX3_readNumber_39 rfl ?_
        refine v_icmp_le (tgt := 55) C dX3_readNumber_40 (by decide) (fun q => ?_) (fun q => ?_)
        · replace h := hT q h
          refine v_iconst (v := 1) C dX3_readNumber_55 (by decide) ?_
          refine v_goto (tgt := 60) C dX3_readNumber_56 (by decide) ?_
          obtain ⟨rfl, rfl⟩ := hR h
          exact v_zret C hQ rfl dX3_readNumber_60
        · replace h := hF q h
          exact v_weak [true, false, false] (Tr_readNumber_b43_ok C hQ h)
    · replace h := hF q h
      refine v_aload_n C dX3_readNumber_17 rfl ?_
      refine v_iconst (v := 2) C dX3_readNumber_18 (by decide) ?_
      refine v_aload_n C dX3_readNumber_19 rfl ?_
      refine v_geti C fk_X3_69 rfl dX3_readNumber_20 ?_
      obtain ⟨r6, M4, c5, h⟩ := hB h
      refine v_callVi C (Tr_stopAt_ok (xl X) C.ig c5) ml_X3_61 mb_X3_stopAt mv_X3_stopAt rfl rfl rfl (Nat.le_of_ble_eq_true rfl) (by decide) (by decide) dX3_readNumber_23 ?_
      obtain ⟨q7, h⟩ := hG h
      obtain ⟨rfl, rfl⟩ := hR h
      exact v_zret C hQ q7 dX3_readNumber_26
  · replace h := hT q h
    refine v_iconst (v := 0) C dX3_readNumber_7 (by decide) ?_
    obtain ⟨rfl, rfl⟩ := hR h
    exact v_zret C hQ rfl dX3_readNumber_8
set_option maxHeartbeats 4000000 in
set_option maxRecDepth 100000 in
theorem Tr_readPrime_b51_ok {X : XX} {G : GG} (C : Cx X G cX3_readPrime 1 RX3 3 66 (some .boolean)) {r : Int32} {M' : Mem} (hQ : Rt X G (some (.int r)) M')    {M : Mem}  (h : Tr_readPrime_b51 M = some (r, M')) : V X G 1 M 51 [some (.ref (G.2.1 1))] [] := by
  unfold Tr_readPrime_b51 at h
  refine v_aload_n C dX3_readPrime_51 rfl ?_
  refine v_iconst (v := 3) C dX3_readPrime_52 (by decide) ?_
  refine v_aload_n C dX3_readPrime_53 rfl ?_
  refine v_geti C fk_X3_69 rfl dX3_readPrime_54 ?_
  obtain ⟨r3, M1, c2, h⟩ := hB h
  refine v_callVi C (Tr_stopAt_ok (xl X) C.ig c2) ml_X3_61 mb_X3_stopAt mv_X3_stopAt rfl rfl rfl (Nat.le_of_ble_eq_true rfl) (by decide) (by decide) dX3_readPrime_57 ?_
  obtain ⟨q4, h⟩ := hG h
  obtain ⟨rfl, rfl⟩ := hR h
  exact v_zret C hQ q4 dX3_readPrime_60
set_option maxHeartbeats 4000000 in
set_option maxRecDepth 100000 in
theorem Tr_readPrime_ok (l : Launch) {G : GG} (hI : IG G) {M M' : Mem}  {r : Int32} (h : Tr_readPrime M = some (r, M')) : Sp l G yX3_readPrime cX3_readPrime 1 (some .boolean) 3 66 [.ref (G.2.1 1)] M (some (.int r)) M' := by
  unfold Tr_readPrime at h
  refine sp_intro [some (.ref (G.2.1 1))] hI (by decide) (Nat.le_of_ble_eq_true rfl) (fun _ hq => hq) (fun X _ C hQ => ?_)
  refine v_aload_n C dX3_readPrime_0 rfl ?_
  refine v_geti C fk_X3_32 rfl dX3_readPrime_1 ?_
  refine v_if_eq (tgt := 17) C dX3_readPrime_4 (by decide) (fun q => ?_) (fun q => ?_)
  · replace h := hT q h
    refine v_aload_n C dX3_readPrime_17 rfl ?_
    refine v_iconst (v := 1) C dX3_readPrime_18 (by decide) ?_
    refine v_putz C fk_X3_32 rfl rfl dX3_readPrime_19 ?_
    refine v_aload_n C dX3_readPrime_22 rfl ?_
    refine v_iconst (v := 2) C dX3_readPrime_23 (by decide) ?_
    refine v_bipush (v := 7) C dX3_readPrime_24 (by decide) ?_
    obtain ⟨r3, M1, c2, h⟩ := hB h
    refine v_callVi C (Tr_readNumber_ok (xl X) C.ig c2) ml_X3_79 mb_X3_readNumber mv_X3_readNumber rfl rfl rfl (Nat.le_of_ble_eq_true rfl) (by decide) (by decide) dX3_readPrime_26 ?_
    refine v_if_ne (tgt := 34) C dX3_readPrime_29 (by decide) (fun q => ?_) (fun q => ?_)
    · replace h := hF q h
      refine v_aload_n C dX3_readPrime_34 rfl ?_
      refine v_geti C fk_X3_82 rfl dX3_readPrime_35 ?_
      refine v_iconst (v := 4) C dX3_readPrime_38 (by decide) ?_
      refine v_icmp_eq (tgt := 51) C dX3_readPrime_39 (by decide) (fun q => ?_) (fun q => ?_)
      · replace h := hT q h
        exact v_weak [true] (Tr_readPrime_b51_ok C hQ h)
      · replace h := hF q h
        refine v_aload_n C dX3_readPrime_42 rfl ?_
        refine v_geti C fk_X3_82 rfl dX3_readPrime_43 ?_
        refine v_bipush (v := 6) C dX3_readPrime_46 (by decide) ?_
        refine v_icmp_ne (tgt := 61) C dX3_readPrime_48 (by decide) (fun q => ?_) (fun q => ?_)
        · replace h := hF q h
          refine v_aload_n C dX3_readPrime_61 rfl ?_
          refine v_getr (j := 3) C fk_X3_18 rfl dX3_readPrime_62 ?_
          refine v_aload_n C dX3_readPrime_65 rfl ?_
          refine v_geti C fk_X3_82 rfl dX3_readPrime_66 ?_
          refine v_puti C fk_X3_58 rfl dX3_readPrime_69 ?_
          refine v_iconst (v := 1) C dX3_readPrime_72 (by decide) ?_
          obtain ⟨rfl, rfl⟩ := hR h
          exact v_zret C hQ rfl dX3_readPrime_73
        · replace h := hT q h
          exact v_weak [true] (Tr_readPrime_b51_ok C hQ h)
    · replace h := hT q h
      refine v_iconst (v := 0) C dX3_readPrime_32 (by decide) ?_
      obtain ⟨rfl, rfl⟩ := hR h
      exact v_zret C hQ rfl dX3_readPrime_33
  · replace h := hF q h
    refine v_aload_n C dX3_readPrime_7 rfl ?_
    refine v_iconst (v := 4) C dX3_readPrime_8 (by decide) ?_
    refine v_aload_n C dX3_readPrime_9 rfl ?_
    refine v_geti C fk_X3_69 rfl dX3_readPrime_10 ?_
    obtain ⟨r6, M4, c5, h⟩ := hB h
    refine v_callVi C (Tr_stopAt_ok (xl X) C.ig c5) ml_X3_61 mb_X3_stopAt mv_X3_stopAt rfl rfl rfl (Nat.le_of_ble_eq_true rfl) (by decide) (by decide) dX3_readPrime_13 ?_
    obtain ⟨q7, h⟩ := hG h
    obtain ⟨rfl, rfl⟩ := hR h
    exact v_zret C hQ q7 dX3_readPrime_16
set_option maxHeartbeats 4000000 in
set_option maxRecDepth 100000 in
theorem Tr_putBlock_b167_ok {X : XX} {G : GG} (C : Cx X G cX3_putBlock 10 RX3 2 47 none) {M' : Mem} (hQ : Rt X G none M') {k31 : Int32 → Int32 → Int32 → Int32 → Int32 → Mem → Option Mem} (H31 : ∀ (v1 : Int32) (v2 : Int32) (v5 : Int32) (v6 : Int32) (v7 : Int32) (M : Mem), k31 v1 v2 v5 v6 v7 M = some M' → V X G 10 M 31 [some (.ref (G.2.1 1)), some (.int v1), some (.int v2), none, none, some (.int v5), some (.int v6), some (.int v7), none, none] []) {v1 : Int32} {v2 : Int32} {v5 : Int32} {v6 : Int32} {v7 : Int32} {M : Mem}  (h : Tr_putBlock_b167 k31 v1 v2 v5 v6 v7 M = some M') : V X G 10 M 167 [some (.ref (G.2.1 1)), some (.int v1), some (.int v2), none, none, some (.int v5), some (.int v6), some (.int v7), none, none] [] := by
  unfold Tr_putBlock_b167 at h
  refine v_iinc (v := 1) C dX3_putBlock_167 rfl (by decide) (by decide) rfl ?_
  refine v_goto (tgt := 31) C dX3_putBlock_170 (by decide) ?_
  exact v_weak [true, true, true, false, false, true, true, true, false, false] (H31 _ _ _ _ _ _ h)
set_option maxHeartbeats 4000000 in
set_option maxRecDepth 100000 in
theorem Tr_putBlock_L31_ok {X : XX} {G : GG} (C : Cx X G cX3_putBlock 10 RX3 2 47 none) {M' : Mem} (hQ : Rt X G none M')   : ∀ (n : Nat) (v1 : Int32) (v2 : Int32) (v5 : Int32) (v6 : Int32) (v7 : Int32) (M : Mem), Tr_putBlock_L31 n v1 v2 v5 v6 v7 M = some M' → V X G 10 M 31 [some (.ref (G.2.1 1)), some (.int v1), some (.int v2), none, none, some (.int v5), some (.int v6), some (.int v7), none, none] [] := by
  intro n
  induction n with
  | zero =>
    intro v1 v2 v5 v6 v7 M h
    simp [Tr_putBlock_L31] at h
  | succ n ih =>
    intro v1 v2 v5 v6 v7 M h
    rw [Tr_putBlock_L31] at h
    refine v_iload C dX3_putBlock_31 rfl ?_
    refine v_aload_n C dX3_putBlock_33 rfl ?_
    refine v_geti C fk_X3_82 rfl dX3_putBlock_34 ?_
    refine v_icmp_ge (tgt := 173) C dX3_putBlock_37 (by decide) (fun q => ?_) (fun q => ?_)
    · replace h := hT q h
      obtain rfl := hRv h
      exact v_vret C hQ dX3_putBlock_173
    · replace h := hF q h
      refine v_iload C dX3_putBlock_40 rfl ?_
      refine v_iload C dX3_putBlock_42 rfl ?_
      refine v_iadd C dX3_putBlock_44 ?_
      refine v_istore C dX3_putBlock_45 (by decide) rfl ?_
      refine v_iload C dX3_putBlock_47 rfl ?_
      refine v_iload C dX3_putBlock_49 rfl ?_
      refine v_iadd C dX3_putBlock_51 ?_
      refine v_istore C dX3_putBlock_52 (by decide) rfl ?_
      refine v_iload_n C dX3_putBlock_54 rfl ?_
      refine v_iconst (v := 5) C dX3_putBlock_55 (by decide) ?_
      refine v_icmp_ne (tgt := 103) C dX3_putBlock_56 (by decide) (fun q => ?_) (fun q => ?_)
      · replace h := hF q h
        refine v_iload_n C dX3_putBlock_103 rfl ?_
        refine v_iconst (v := 3) C dX3_putBlock_104 (by decide) ?_
        refine v_icmp_ne (tgt := 139) C dX3_putBlock_105 (by decide) (fun q => ?_) (fun q => ?_)
        · replace h := hF q h
          refine v_aload_n C dX3_putBlock_139 rfl ?_
          refine v_getr (j := 3) C fk_X3_18 rfl dX3_putBlock_140 ?_
          refine v_iconst (v := 0) C dX3_putBlock_143 (by decide) ?_
          refine v_iload C dX3_putBlock_144 rfl ?_
          refine v_iload C dX3_putBlock_146 rfl ?_
          refine v_iconst (v := 1) C dX3_putBlock_148 (by decide) ?_
          obtain ⟨M1, c2, h⟩ := hV h
          refine v_callVv C (Pa_putValue_ok (xl X) C.ig c2) ml_X3_105 mb_X1_putValue mv_X1_putValue rfl rfl rfl (Nat.le_of_ble_eq_true rfl) (by decide) (by decide) dX3_putBlock_149 ?_
          refine v_aload_n C dX3_putBlock_152 rfl ?_
          refine v_getr (j := 3) C fk_X3_18 rfl dX3_putBlock_153 ?_
          refine v_iconst (v := 1) C dX3_putBlock_156 (by decide) ?_
          refine v_iload C dX3_putBlock_157 rfl ?_
          refine v_iload C dX3_putBlock_159 rfl ?_
          refine v_iconst (v := 1) C dX3_putBlock_161 (by decide) ?_
          refine v_iadd C dX3_putBlock_162 ?_
          refine v_iconst (v := 1) C dX3_putBlock_163 (by decide) ?_
          obtain ⟨M3, c4, h⟩ := hV h
          refine v_callVv C (Pa_putValue_ok (xl X) C.ig c4) ml_X3_105 mb_X1_putValue mv_X1_putValue rfl rfl rfl (Nat.le_of_ble_eq_true rfl) (by decide) (by decide) dX3_putBlock_164 ?_
          exact v_weak [true, true, true, false, false, true, true, true, false, false] (Tr_putBlock_b167_ok C hQ ih h)
        · replace h := hT q h
          refine v_aload_n C dX3_putBlock_108 rfl ?_
          refine v_getr (j := 3) C fk_X3_18 rfl dX3_putBlock_109 ?_
          refine v_iconst (v := 0) C dX3_putBlock_112 (by decide) ?_
          refine v_iload C dX3_putBlock_113 rfl ?_
          refine v_iload C dX3_putBlock_115 rfl ?_
          refine v_iconst (v := 1) C dX3_putBlock_117 (by decide) ?_
          obtain ⟨M5, c6, h⟩ := hV h
          refine v_callVv C (Pa_putValue_ok (xl X) C.ig c6) ml_X3_105 mb_X1_putValue mv_X1_putValue rfl rfl rfl (Nat.le_of_ble_eq_true rfl) (by decide) (by decide) dX3_putBlock_118 ?_
          refine v_aload_n C dX3_putBlock_121 rfl ?_
          refine v_getr (j := 3) C fk_X3_18 rfl dX3_putBlock_122 ?_
          refine v_iconst (v := 1) C dX3_putBlock_125 (by decide) ?_
          refine v_iload C dX3_putBlock_126 rfl ?_
          refine v_iconst (v := 1) C dX3_putBlock_128 (by decide) ?_
          refine v_iadd C dX3_putBlock_129 ?_
          refine v_iload C dX3_putBlock_130 rfl ?_
          refine v_iconst (v := 1) C dX3_putBlock_132 (by decide) ?_
          obtain ⟨M7, c8, h⟩ := hV h
          refine v_callVv C (Pa_putValue_ok (xl X) C.ig c8) ml_X3_105 mb_X1_putValue mv_X1_putValue rfl rfl rfl (Nat.le_of_ble_eq_true rfl) (by decide) (by decide) dX3_putBlock_133 ?_
          refine v_goto (tgt := 167) C dX3_putBlock_136 (by decide) ?_
          exact v_weak [true, true, true, false, false, true, true, true, false, false] (Tr_putBlock_b167_ok C hQ ih h)
      · replace h := hT q h
        refine v_aload_n C dX3_putBlock_59 rfl ?_
        refine v_getr (j := 3) C fk_X3_18 rfl dX3_putBlock_60 ?_
        refine v_iconst (v := 0) C dX3_putBlock_63 (by decide) ?_
        refine v_iload C dX3_putBlock_64 rfl ?_
        refine v_iload C dX3_putBlock_66 rfl ?_
        refine v_iload_n C dX3_putBlock_68 rfl ?_
        obtain ⟨M9, c10, h⟩ := hV h
        refine v_callVv C (Pa_putValue_ok (xl X) C.ig c10) ml_X3_105 mb_X1_putValue mv_X1_putValue rfl rfl rfl (Nat.le_of_ble_eq_true rfl) (by decide) (by decide) dX3_putBlock_69 ?_
        refine v_aload_n C dX3_putBlock_72 rfl ?_
        refine v_getr (j := 3) C fk_X3_18 rfl dX3_putBlock_73 ?_
        refine v_iconst (v := 0) C dX3_putBlock_76 (by decide) ?_
        refine v_iload C dX3_putBlock_77 rfl ?_
        refine v_iload C dX3_putBlock_79 rfl ?_
        refine v_iconst (v := 1) C dX3_putBlock_81 (by decide) ?_
        refine v_iadd C dX3_putBlock_82 ?_
        refine v_iconst (v := 1) C dX3_putBlock_83 (by decide) ?_
        obtain ⟨M11, c12, h⟩ := hV h
        refine v_callVv C (Pa_putValue_ok (xl X) C.ig c12) ml_X3_105 mb_X1_putValue mv_X1_putValue rfl rfl rfl (Nat.le_of_ble_eq_true rfl) (by decide) (by decide) dX3_putBlock_84 ?_
        refine v_aload_n C dX3_putBlock_87 rfl ?_
        refine v_getr (j := 3) C fk_X3_18 rfl dX3_putBlock_88 ?_
        refine v_iconst (v := 1) C dX3_putBlock_91 (by decide) ?_
        refine v_iload C dX3_putBlock_92 rfl ?_
        refine v_iload C dX3_putBlock_94 rfl ?_
        refine v_iconst (v := 1) C dX3_putBlock_96 (by decide) ?_
        obtain ⟨M13, c14, h⟩ := hV h
        refine v_callVv C (Pa_putValue_ok (xl X) C.ig c14) ml_X3_105 mb_X1_putValue mv_X1_putValue rfl rfl rfl (Nat.le_of_ble_eq_true rfl) (by decide) (by decide) dX3_putBlock_97 ?_
        refine v_goto (tgt := 167) C dX3_putBlock_100 (by decide) ?_
        exact v_weak [true, true, true, false, false, true, true, true, false, false] (Tr_putBlock_b167_ok C hQ ih h)
set_option maxHeartbeats 4000000 in
set_option maxRecDepth 100000 in
theorem Tr_putBlock_ok (l : Launch) {G : GG} (hI : IG G) {M M' : Mem} {v1 : Int32} {v2 : Int32} {v3 : Int32} {v4 : Int32} (h : Tr_putBlock v1 v2 v3 v4 M = some M') : Sp l G yX3_putBlock cX3_putBlock 10 none 2 47 [.ref (G.2.1 1), .int v1, .int v2, .int v3, .int v4] M none M' := by
  unfold Tr_putBlock at h
  refine sp_intro [some (.ref (G.2.1 1)), some (.int v1), some (.int v2), some (.int v3), some (.int v4), none, none, none, none, none] hI (by decide) (Nat.le_of_ble_eq_true rfl) (fun _ hq => hq) (fun X _ C hQ => ?_)
  refine v_aload_n C dX3_putBlock_0 rfl ?_
  refine v_getr (j := 3) C fk_X3_18 rfl dX3_putBlock_1 ?_
  refine v_geti C fk_X3_91 rfl dX3_putBlock_4 ?_
  refine v_istore C dX3_putBlock_7 (by decide) rfl ?_
  refine v_aload_n C dX3_putBlock_9 rfl ?_
  refine v_getr (j := 3) C fk_X3_18 rfl dX3_putBlock_10 ?_
  refine v_geti C fk_X3_94 rfl dX3_putBlock_13 ?_
  refine v_istore C dX3_putBlock_16 (by decide) rfl ?_
  refine v_aload_n C dX3_putBlock_18 rfl ?_
  refine v_getr (j := 3) C fk_X3_18 rfl dX3_putBlock_19 ?_
  refine v_iload_n C dX3_putBlock_22 rfl ?_
  refine v_iload C dX3_putBlock_23 rfl ?_
  obtain ⟨M1, c2, h⟩ := hV h
  refine v_callVv C (Pa_growTo_ok (xl X) C.ig c2) ml_X3_101 mb_X1_growTo mv_X1_growTo rfl rfl rfl (Nat.le_of_ble_eq_true rfl) (by decide) (by decide) dX3_putBlock_25 ?_
  refine v_iconst (v := 0) C dX3_putBlock_28 (by decide) ?_
  refine v_istore C dX3_putBlock_29 (by decide) rfl ?_
  exact v_weak [true, true, true, false, false, true, true, true, false, false] (Tr_putBlock_L31_ok C hQ _ _ _ _ _ _ _ h)
set_option maxHeartbeats 4000000 in
set_option maxRecDepth 100000 in
theorem Tr_readBlock_b125_ok {X : XX} {G : GG} (C : Cx X G cX3_readBlock 6 RX3 3 76 (some .boolean)) {r : Int32} {M' : Mem} (hQ : Rt X G (some (.int r)) M')    {M : Mem}  (h : Tr_readBlock_b125 M = some (r, M')) : V X G 6 M 125 [some (.ref (G.2.1 1)), none, none, none, none, none] [] := by
  unfold Tr_readBlock_b125 at h
  refine v_aload_n C dX3_readBlock_125 rfl ?_
  refine v_iconst (v := 5) C dX3_readBlock_126 (by decide) ?_
  refine v_aload_n C dX3_readBlock_127 rfl ?_
  refine v_geti C fk_X3_69 rfl dX3_readBlock_128 ?_
  obtain ⟨r3, M1, c2, h⟩ := hB h
  refine v_callVi C (Tr_stopAt_ok (xl X) C.ig c2) ml_X3_61 mb_X3_stopAt mv_X3_stopAt rfl rfl rfl (Nat.le_of_ble_eq_true rfl) (by decide) (by decide) dX3_readBlock_131 ?_
  obtain ⟨q4, h⟩ := hG h
  obtain ⟨rfl, rfl⟩ := hR h
  exact v_zret C hQ q4 dX3_readBlock_134
set_option maxHeartbeats 4000000 in
set_option maxRecDepth 100000 in
theorem Tr_readBlock_b110_ok {X : XX} {G : GG} (C : Cx X G cX3_readBlock 6 RX3 3 76 (some .boolean)) {r : Int32} {M' : Mem} (hQ : Rt X G (some (.int r)) M')   {v1 : Int32} {v2 : Int32} {v4 : Int32} {s0 : Int32} {s1 : Int32} {M : Mem}  (h : Tr_readBlock_b110 v1 v2 v4 s0 s1 M = some (r, M')) : V X G 6 M 110 [some (.ref (G.2.1 1)), some (.int v1), some (.int v2), none, some (.int v4), none] [.int s1, .int s0] := by
  unfold Tr_readBlock_b110 at h
  refine v_iadd C dX3_readBlock_110 ?_
  refine v_istore C dX3_readBlock_111 (by decide) rfl ?_
  refine v_iload C dX3_readBlock_113 rfl ?_
  refine v_iconst (v := 4) C dX3_readBlock_115 (by decide) ?_
  refine v_icmp_gt (tgt := 125) C dX3_readBlock_116 (by decide) (fun q => ?_) (fun q => ?_)
  · replace h := hT q h
    exact v_weak [true, false, false, false, false, false] (Tr_readBlock_b125_ok C hQ h)
  · replace h := hF q h
    refine v_iload C dX3_readBlock_119 rfl ?_
    refine v_iconst (v := 4) C dX3_readBlock_121 (by decide) ?_
    refine v_icmp_le (tgt := 135) C dX3_readBlock_122 (by decide) (fun q => ?_) (fun q => ?_)
    · replace h := hT q h
      refine v_aload_n C dX3_readBlock_135 rfl ?_
      refine v_iload_n C dX3_readBlock_136 rfl ?_
      refine v_iload_n C dX3_readBlock_137 rfl ?_
      refine v_iload C dX3_readBlock_138 rfl ?_
      refine v_iload C dX3_readBlock_140 rfl ?_
      obtain ⟨M1, c2, h⟩ := hV h
      refine v_callVv C (Tr_putBlock_ok (xl X) C.ig c2) ml_X3_97 mb_X3_putBlock mv_X3_putBlock rfl rfl rfl (Nat.le_of_ble_eq_true rfl) (by decide) (by decide) dX3_readBlock_142 ?_
      refine v_iconst (v := 1) C dX3_readBlock_145 (by decide) ?_
      obtain ⟨rfl, rfl⟩ := hR h
      exact v_zret C hQ rfl dX3_readBlock_146
    · replace h := hF q h
      exact v_weak [true, false, false, false, false, false] (Tr_readBlock_b125_ok C hQ h)
set_option maxHeartbeats 4000000 in
set_option maxRecDepth 100000 in
theorem Tr_readBlock_b85_ok {X : XX} {G : GG} (C : Cx X G cX3_readBlock 6 RX3 3 76 (some .boolean)) {r : Int32} {M' : Mem} (hQ : Rt X G (some (.int r)) M')   {v1 : Int32} {v2 : Int32} {s0 : Int32} {s1 : Int32} {M : Mem}  (h : Tr_readBlock_b85 v1 v2 s0 s1 M = some (r, M')) : V X G 6 M 85 [some (.ref (G.2.1 1)), some (.int v1), some (.int v2), none, none, none] [.int s1, .int s0] := by
  unfold Tr_readBlock_b85 at h
  refine v_iadd C dX3_readBlock_85 ?_
  refine v_istore C dX3_readBlock_86 (by decide) rfl ?_
  refine v_aload_n C dX3_readBlock_88 rfl ?_
  refine v_getr (j := 3) C fk_X3_18 rfl dX3_readBlock_89 ?_
  refine v_geti C fk_X3_94 rfl dX3_readBlock_92 ?_
  refine v_aload_n C dX3_readBlock_95 rfl ?_
  refine v_geti C fk_X3_82 rfl dX3_readBlock_96 ?_
  refine v_iadd C dX3_readBlock_99 ?_
  refine v_iload_n C dX3_readBlock_100 rfl ?_
  refine v_iconst (v := 2) C dX3_readBlock_101 (by decide) ?_
  refine v_icmp_ne (tgt := 109) C dX3_readBlock_102 (by decide) (fun q => ?_) (fun q => ?_)
  · replace h := hF q h
    refine v_iconst (v := 0) C dX3_readBlock_109 (by decide) ?_
    exact v_weak [true, true, true, false, true, false] (Tr_readBlock_b110_ok C hQ h)
  · replace h := hT q h
    refine v_iconst (v := 1) C dX3_readBlock_105 (by decide) ?_
    refine v_goto (tgt := 110) C dX3_readBlock_106 (by decide) ?_
    exact v_weak [true, true, true, false, true, false] (Tr_readBlock_b110_ok C hQ h)
set_option maxHeartbeats 4000000 in
set_option maxRecDepth 100000 in
theorem Tr_readBlock_b51_ok {X : XX} {G : GG} (C : Cx X G cX3_readBlock 6 RX3 3 76 (some .boolean)) {r : Int32} {M' : Mem} (hQ : Rt X G (some (.int r)) M')   {v1 : Int32} {v2 : Int32} {s0 : Int32} {M : Mem}  (h : Tr_readBlock_b51 v1 v2 s0 M = some (r, M')) : V X G 6 M 51 [some (.ref (G.2.1 1)), some (.int v1), some (.int v2), none, none, none] [.int s0] := by
  unfold Tr_readBlock_b51 at h
  refine v_istore_n C dX3_readBlock_51 (by decide) rfl ?_
  refine v_aload_n C dX3_readBlock_52 rfl ?_
  refine v_iload_n C dX3_readBlock_53 rfl ?_
  refine v_iconst (v := 4) C dX3_readBlock_54 (by decide) ?_
  obtain ⟨r3, M1, c2, h⟩ := hB h
  refine v_callVi C (Tr_readNumber_ok (xl X) C.ig c2) ml_X3_79 mb_X3_readNumber mv_X3_readNumber rfl rfl rfl (Nat.le_of_ble_eq_true rfl) (by decide) (by decide) dX3_readBlock_55 ?_
  refine v_if_ne (tgt := 63) C dX3_readBlock_58 (by decide) (fun q => ?_) (fun q => ?_)
  · replace h := hF q h
    refine v_aload_n C dX3_readBlock_63 rfl ?_
    refine v_getr (j := 3) C fk_X3_18 rfl dX3_readBlock_64 ?_
    refine v_geti C fk_X3_91 rfl dX3_readBlock_67 ?_
    refine v_aload_n C dX3_readBlock_70 rfl ?_
    refine v_geti C fk_X3_82 rfl dX3_readBlock_71 ?_
    refine v_iadd C dX3_readBlock_74 ?_
    refine v_iload_n C dX3_readBlock_75 rfl ?_
    refine v_iconst (v := 3) C dX3_readBlock_76 (by decide) ?_
    refine v_icmp_ne (tgt := 84) C dX3_readBlock_77 (by decide) (fun q => ?_) (fun q => ?_)
    · replace h := hF q h
      refine v_iconst (v := 0) C dX3_readBlock_84 (by decide) ?_
      exact v_weak [true, true, true, false, false, false] (Tr_readBlock_b85_ok C hQ h)
    · replace h := hT q h
      refine v_iconst (v := 1) C dX3_readBlock_80 (by decide) ?_
      refine v_goto (tgt := 85) C dX3_readBlock_81 (by decide) ?_
      exact v_weak [true, true, true, false, false, false] (Tr_readBlock_b85_ok C hQ h)
  · replace h := hT q h
    refine v_iconst (v := 0) C dX3_readBlock_61 (by decide) ?_
    obtain ⟨rfl, rfl⟩ := hR h
    exact v_zret C hQ rfl dX3_readBlock_62
set_option maxHeartbeats 4000000 in
set_option maxRecDepth 100000 in
theorem Tr_readBlock_b46_ok {X : XX} {G : GG} (C : Cx X G cX3_readBlock 6 RX3 3 76 (some .boolean)) {r : Int32} {M' : Mem} (hQ : Rt X G (some (.int r)) M')   {v1 : Int32} {v2 : Int32} {M : Mem}  (h : Tr_readBlock_b46 v1 v2 M = some (r, M')) : V X G 6 M 46 [some (.ref (G.2.1 1)), some (.int v1), some (.int v2), none, none, none] [] := by
  unfold Tr_readBlock_b46 at h
  refine v_iconst (v := 0) C dX3_readBlock_46 (by decide) ?_
  refine v_goto (tgt := 51) C dX3_readBlock_47 (by decide) ?_
  exact v_weak [true, true, true, false, false, false] (Tr_readBlock_b51_ok C hQ h)
set_option maxHeartbeats 4000000 in
set_option maxRecDepth 100000 in
theorem Tr_readBlock_b36_ok {X : XX} {G : GG} (C : Cx X G cX3_readBlock 6 RX3 3 76 (some .boolean)) {r : Int32} {M' : Mem} (hQ : Rt X G (some (.int r)) M')   {v1 : Int32} {v2 : Int32} {M : Mem}  (h : Tr_readBlock_b36 v1 v2 M = some (r, M')) : V X G 6 M 36 [some (.ref (G.2.1 1)), some (.int v1), some (.int v2), none, none, none] [] := by
  unfold Tr_readBlock_b36 at h
  refine v_iload_n C dX3_readBlock_36 rfl ?_
  refine v_iconst (v := 2) C dX3_readBlock_37 (by decide) ?_
  refine v_icmp_eq (tgt := 46) C dX3_readBlock_38 (by decide) (fun q => ?_) (fun q => ?_)
  · replace h := hT q h
    exact v_weak [true, true, true, false, false, false] (Tr_readBlock_b46_ok C hQ h)
  · replace h := hF q h
    refine v_iload_n C dX3_readBlock_41 rfl ?_
    refine v_iconst (v := 3) C dX3_readBlock_42 (by decide) ?_
    refine v_icmp_ne (tgt := 50) C dX3_readBlock_43 (by decide) (fun q => ?_) (fun q => ?_)
    · replace h := hF q h
      refine v_iconst (v := 1) C dX3_readBlock_50 (by decide) ?_
      exact v_weak [true, true, true, false, false, false] (Tr_readBlock_b51_ok C hQ h)
    · replace h := hT q h
      exact v_weak [true, true, true, false, false, false] (Tr_readBlock_b46_ok C hQ h)
set_option maxHeartbeats 4000000 in
set_option maxRecDepth 100000 in
theorem Tr_readBlock_ok (l : Launch) {G : GG} (hI : IG G) {M M' : Mem} {v1 : Int32} {r : Int32} (h : Tr_readBlock v1 M = some (r, M')) : Sp l G yX3_readBlock cX3_readBlock 6 (some .boolean) 3 76 [.ref (G.2.1 1), .int v1] M (some (.int r)) M' := by
  unfold Tr_readBlock at h
  refine sp_intro [some (.ref (G.2.1 1)), some (.int v1), none, none, none, none] hI (by decide) (Nat.le_of_ble_eq_true rfl) (fun _ hq => hq) (fun X _ C hQ => ?_)
  refine v_iconst (v := 0) C dX3_readBlock_0 (by decide) ?_
  refine v_istore_n C dX3_readBlock_1 (by decide) rfl ?_
  refine v_iload_n C dX3_readBlock_2 rfl ?_
  refine v_iconst (v := 5) C dX3_readBlock_3 (by decide) ?_
  refine v_icmp_ne (tgt := 36) C dX3_readBlock_4 (by decide) (fun q => ?_) (fun q => ?_)
  · replace h := hF q h
    exact v_weak [true, true, true, false, false, false] (Tr_readBlock_b36_ok C hQ h)
  · replace h := hT q h
    refine v_aload_n C dX3_readBlock_7 rfl ?_
    refine v_iconst (v := 0) C dX3_readBlock_8 (by decide) ?_
    refine v_bipush (v := 6) C dX3_readBlock_9 (by decide) ?_
    obtain ⟨r3, M1, c2, h⟩ := hB h
    refine v_callVi C (Tr_readNumber_ok (xl X) C.ig c2) ml_X3_79 mb_X3_readNumber mv_X3_readNumber rfl rfl rfl (Nat.le_of_ble_eq_true rfl) (by decide) (by decide) dX3_readBlock_11 ?_
    refine v_if_ne (tgt := 19) C dX3_readBlock_14 (by decide) (fun q => ?_) (fun q => ?_)
    · replace h := hF q h
      refine v_aload_n C dX3_readBlock_19 rfl ?_
      refine v_geti C fk_X3_82 rfl dX3_readBlock_20 ?_
      refine v_istore_n C dX3_readBlock_23 (by decide) rfl ?_
      refine v_aload_n C dX3_readBlock_24 rfl ?_
      refine v_aload_n C dX3_readBlock_25 rfl ?_
      refine v_geti C fk_X3_29 rfl dX3_readBlock_26 ?_
      refine v_iload_n C dX3_readBlock_29 rfl ?_
      refine v_mmax C (tT 321 (by decide +kernel) rfl) w_mmax (by decide) (Nat.le_of_ble_eq_true rfl) dX3_readBlock_30 ?_
      refine v_puti C fk_X3_29 rfl dX3_readBlock_33 ?_
      exact v_weak [true, true, true, false, false, false] (Tr_readBlock_b36_ok C hQ h)
    · replace h := hT q h
      refine v_iconst (v := 0) C dX3_readBlock_17 (by decide) ?_
      obtain ⟨rfl, rfl⟩ := hR h
      exact v_zret C hQ rfl dX3_readBlock_18
set_option maxHeartbeats 4000000 in
set_option maxRecDepth 100000 in
theorem Tr_readLine_b48_ok {X : XX} {G : GG} (C : Cx X G cX3_readLine 3 RX3 6 127 (some .boolean)) {r : Int32} {M' : Mem} (hQ : Rt X G (some (.int r)) M')   {s0 : Int32} {M : Mem}  (h : Tr_readLine_b48 s0 M = some (r, M')) : V X G 3 M 48 [some (.ref (G.2.1 1)), none, none] [.int s0] := by
  unfold Tr_readLine_b48 at h
  refine v_istore_n C dX3_readLine_48 (by decide) rfl ?_
  refine v_iload_n C dX3_readLine_49 rfl ?_
  refine v_if_eq (tgt := 60) C dX3_readLine_50 (by decide) (fun q => ?_) (fun q => ?_)
  · replace h := hT q h
    refine v_iconst (v := 0) C dX3_readLine_60 (by decide) ?_
    obtain ⟨rfl, rfl⟩ := hR h
    exact v_zret C hQ rfl dX3_readLine_61
  · replace h := hF q h
    refine v_aload_n C dX3_readLine_53 rfl ?_
    obtain ⟨r3, M1, c2, h⟩ := hB h
    refine v_callVi C (Tr_readToken_ok (xl X) C.ig c2) ml_X3_48 mb_X3_readToken mv_X3_readToken rfl rfl rfl (Nat.le_of_ble_eq_true rfl) (by decide) (by decide) dX3_readLine_54 ?_
    refine v_if_ne (tgt := 62) C dX3_readLine_57 (by decide) (fun q => ?_) (fun q => ?_)
    · replace h := hF q h
      refine v_aload_n C dX3_readLine_62 rfl ?_
      refine v_geti C fk_X3_52 rfl dX3_readLine_63 ?_
      refine v_iconst (v := 3) C dX3_readLine_66 (by decide) ?_
      refine v_icmp_eq (tgt := 82) C dX3_readLine_67 (by decide) (fun q => ?_) (fun q => ?_)
      · replace h := hT q h
        refine v_iconst (v := 1) C dX3_readLine_82 (by decide) ?_
        refine v_goto (tgt := 87) C dX3_readLine_83 (by decide) ?_
        obtain ⟨rfl, rfl⟩ := hR h
        exact v_zret C hQ rfl dX3_readLine_87
      · replace h := hF q h
        refine v_aload_n C dX3_readLine_70 rfl ?_
        refine v_iconst (v := 2) C dX3_readLine_71 (by decide) ?_
        refine v_aload_n C dX3_readLine_72 rfl ?_
        refine v_geti C fk_X3_69 rfl dX3_readLine_73 ?_
        obtain ⟨r6, M4, c5, h⟩ := hB h
        refine v_callVi C (Tr_stopAt_ok (xl X) C.ig c5) ml_X3_61 mb_X3_stopAt mv_X3_stopAt rfl rfl rfl (Nat.le_of_ble_eq_true rfl) (by decide) (by decide) dX3_readLine_76 ?_
        refine v_if_eq (tgt := 86) C dX3_readLine_79 (by decide) (fun q => ?_) (fun q => ?_)
        · replace h := hT q h
          refine v_iconst (v := 0) C dX3_readLine_86 (by decide) ?_
          obtain ⟨rfl, rfl⟩ := hR h
          exact v_zret C hQ rfl dX3_readLine_87
        · replace h := hF q h
          refine v_iconst (v := 1) C dX3_readLine_82 (by decide) ?_
          refine v_goto (tgt := 87) C dX3_readLine_83 (by decide) ?_
          obtain ⟨rfl, rfl⟩ := hR h
          exact v_zret C hQ rfl dX3_readLine_87
    · replace h := hT q h
      refine v_iconst (v := 0) C dX3_readLine_60 (by decide) ?_
      obtain ⟨rfl, rfl⟩ := hR h
      exact v_zret C hQ rfl dX3_readLine_61
set_option maxHeartbeats 4000000 in
set_option maxRecDepth 100000 in
theorem Tr_readLine_b16_ok {X : XX} {G : GG} (C : Cx X G cX3_readLine 3 RX3 6 127 (some .boolean)) {r : Int32} {M' : Mem} (hQ : Rt X G (some (.int r)) M')   {s0 : Int32} {M : Mem}  (h : Tr_readLine_b16 s0 M = some (r, M')) : V X G 3 M 16 [some (.ref (G.2.1 1)), none, none] [.int s0] := by
  unfold Tr_readLine_b16 at h
  refine v_istore_n C dX3_readLine_16 (by decide) rfl ?_
  refine v_iload_n C dX3_readLine_17 rfl ?_
  refine v_if_ne (tgt := 31) C dX3_readLine_18 (by decide) (fun q => ?_) (fun q => ?_)
  · replace h := hF q h
    refine v_iload_n C dX3_readLine_31 rfl ?_
    refine v_iconst (v := 1) C dX3_readLine_32 (by decide) ?_
    refine v_icmp_ne (tgt := 43) C dX3_readLine_33 (by decide) (fun q => ?_) (fun q => ?_)
    · replace h := hF q h
      refine v_aload_n C dX3_readLine_43 rfl ?_
      refine v_iload_n C dX3_readLine_44 rfl ?_
      obtain ⟨r3, M1, c2, h⟩ := hB h
      refine v_callVi C (Tr_readBlock_ok (xl X) C.ig c2) ml_X3_75 mb_X3_readBlock mv_X3_readBlock rfl rfl rfl (Nat.le_of_ble_eq_true rfl) (by decide) (by decide) dX3_readLine_45 ?_
      exact v_weak [true, false, false] (Tr_readLine_b48_ok C hQ h)
    · replace h := hT q h
      refine v_aload_n C dX3_readLine_36 rfl ?_
      obtain ⟨r6, M4, c5, h⟩ := hB h
      refine v_callVi C (Tr_readPrime_ok (xl X) C.ig c5) ml_X3_72 mb_X3_readPrime mv_X3_readPrime rfl rfl rfl (Nat.le_of_ble_eq_true rfl) (by decide) (by decide) dX3_readLine_37 ?_
      refine v_goto (tgt := 48) C dX3_readLine_40 (by decide) ?_
      exact v_weak [true, false, false] (Tr_readLine_b48_ok C hQ h)
  · replace h := hT q h
    refine v_aload_n C dX3_readLine_21 rfl ?_
    refine v_iconst (v := 2) C dX3_readLine_22 (by decide) ?_
    refine v_aload_n C dX3_readLine_23 rfl ?_
    refine v_geti C fk_X3_69 rfl dX3_readLine_24 ?_
    obtain ⟨r9, M7, c8, h⟩ := hB h
    refine v_callVi C (Tr_stopAt_ok (xl X) C.ig c8) ml_X3_61 mb_X3_stopAt mv_X3_stopAt rfl rfl rfl (Nat.le_of_ble_eq_true rfl) (by decide) (by decide) dX3_readLine_27 ?_
    obtain ⟨q10, h⟩ := hG h
    obtain ⟨rfl, rfl⟩ := hR h
    exact v_zret C hQ q10 dX3_readLine_30
set_option maxHeartbeats 4000000 in
set_option maxRecDepth 100000 in
theorem Tr_readLine_ok (l : Launch) {G : GG} (hI : IG G) {M M' : Mem}  {r : Int32} (h : Tr_readLine M = some (r, M')) : Sp l G yX3_readLine cX3_readLine 3 (some .boolean) 6 127 [.ref (G.2.1 1)] M (some (.int r)) M' := by
  unfold Tr_readLine at h
  refine sp_intro [some (.ref (G.2.1 1)), none, none] hI (by decide) (Nat.le_of_ble_eq_true rfl) (fun _ hq => hq) (fun X _ C hQ => ?_)
  refine v_aload_n C dX3_readLine_0 rfl ?_
  refine v_geti C fk_X3_52 rfl dX3_readLine_1 ?_
  refine v_iconst (v := 1) C dX3_readLine_4 (by decide) ?_
  refine v_icmp_ne (tgt := 15) C dX3_readLine_5 (by decide) (fun q => ?_) (fun q => ?_)
  · replace h := hF q h
    refine v_iconst (v := 0) C dX3_readLine_15 (by decide) ?_
    exact v_weak [true, false, false] (Tr_readLine_b16_ok C hQ h)
  · replace h := hT q h
    refine v_aload_n C dX3_readLine_8 rfl ?_
    obtain ⟨r3, M1, c2, h⟩ := hB h
    refine v_callVi C (Tr_lineOfName_ok (xl X) C.ig c2) ml_X3_65 mb_X3_lineOfName mv_X3_lineOfName rfl rfl rfl (Nat.le_of_ble_eq_true rfl) (by decide) (by decide) dX3_readLine_9 ?_
    refine v_goto (tgt := 16) C dX3_readLine_12 (by decide) ?_
    exact v_weak [true, false, false] (Tr_readLine_b16_ok C hQ h)
set_option maxHeartbeats 4000000 in
set_option maxRecDepth 100000 in
theorem Tr_readText_b104_ok {X : XX} {G : GG} (C : Cx X G cX3_readText 3 RX3 7 149 none) {M' : Mem} (hQ : Rt X G none M')    {M : Mem}  (h : Tr_readText_b104 M = some M') : V X G 3 M 104 [some (.ref (G.2.1 1)), none, none] [] := by
  unfold Tr_readText_b104 at h
  refine v_aload_n C dX3_readText_104 rfl ?_
  refine v_geti C fk_X3_36 rfl dX3_readText_105 ?_
  refine v_if_ne (tgt := 136) C dX3_readText_108 (by decide) (fun q => ?_) (fun q => ?_)
  · replace h := hF q h
    obtain rfl := hRv h
    exact v_vret C hQ dX3_readText_136
  · replace h := hT q h
    refine v_aload_n C dX3_readText_111 rfl ?_
    refine v_geti C fk_X3_29 rfl dX3_readText_112 ?_
    refine v_aload_n C dX3_readText_115 rfl ?_
    refine v_getr (j := 3) C fk_X3_18 rfl dX3_readText_116 ?_
    refine v_geti C fk_X3_58 rfl dX3_readText_119 ?_
    refine v_icmp_lt (tgt := 136) C dX3_readText_122 (by decide) (fun q => ?_) (fun q => ?_)
    · replace h := hT q h
      obtain rfl := hRv h
      exact v_vret C hQ dX3_readText_136
    · replace h := hF q h
      refine v_aload_n C dX3_readText_125 rfl ?_
      refine v_bipush (v := 6) C dX3_readText_126 (by decide) ?_
      refine v_aload_n C dX3_readText_128 rfl ?_
      refine v_geti C fk_X3_22 rfl dX3_readText_129 ?_
      obtain ⟨r3, M1, c2, h⟩ := hB h
      refine v_callVi C (Tr_stopAt_ok (xl X) C.ig c2) ml_X3_61 mb_X3_stopAt mv_X3_stopAt rfl rfl rfl (Nat.le_of_ble_eq_true rfl) (by decide) (by decide) dX3_readText_132 ?_
      refine v_pop C dX3_readText_135 rfl ?_
      obtain rfl := hRv h
      exact v_vret C hQ dX3_readText_136
set_option maxHeartbeats 4000000 in
set_option maxRecDepth 100000 in
theorem Tr_readText_b94_ok {X : XX} {G : GG} (C : Cx X G cX3_readText 3 RX3 7 149 none) {M' : Mem} (hQ : Rt X G none M') {k41 : Int32 → Int32 → Mem → Option Mem} (H41 : ∀ (v1 : Int32) (v2 : Int32) (M : Mem), k41 v1 v2 M = some M' → V X G 3 M 41 [some (.ref (G.2.1 1)), some (.int v1), some (.int v2)] []) {v1 : Int32} {v2 : Int32} {s1 : Int32} {s2 : Int32} {M : Mem}  (h : Tr_readText_b94 k41 v1 v2 s1 s2 M = some M') : V X G 3 M 94 [some (.ref (G.2.1 1)), some (.int v1), some (.int v2)] [.int s2, .int s1, .ref (G.2.1 1)] := by
  unfold Tr_readText_b94 at h
  refine v_iadd C dX3_readText_94 ?_
  refine v_puti C fk_X3_45 rfl dX3_readText_95 ?_
  refine v_iinc (v := 1) C dX3_readText_98 rfl (by decide) (by decide) rfl ?_
  refine v_goto (tgt := 41) C dX3_readText_101 (by decide) ?_
  exact v_weak [true, true, true] (H41 _ _ _ h)
set_option maxHeartbeats 4000000 in
set_option maxRecDepth 100000 in
theorem Tr_readText_b79_ok {X : XX} {G : GG} (C : Cx X G cX3_readText 3 RX3 7 149 none) {M' : Mem} (hQ : Rt X G none M') {k41 : Int32 → Int32 → Mem → Option Mem} (H41 : ∀ (v1 : Int32) (v2 : Int32) (M : Mem), k41 v1 v2 M = some M' → V X G 3 M 41 [some (.ref (G.2.1 1)), some (.int v1), some (.int v2)] []) {v2 : Int32} {s0 : Int32} {M : Mem}  (h : Tr_readText_b79 k41 v2 s0 M = some M') : V X G 3 M 79 [some (.ref (G.2.1 1)), none, some (.int v2)] [.int s0] := by
  unfold Tr_readText_b79 at h
  refine v_istore_n C dX3_readText_79 (by decide) rfl ?_
  refine v_aload_n C dX3_readText_80 rfl ?_
  refine v_dup C dX3_readText_81 rfl ?_
  refine v_geti C fk_X3_45 rfl dX3_readText_82 ?_
  refine v_iload_n C dX3_readText_85 rfl ?_
  refine v_if_eq (tgt := 93) C dX3_readText_86 (by decide) (fun q => ?_) (fun q => ?_)
  · replace h := hT q h
    refine v_iconst (v := 0) C dX3_readText_93 (by decide) ?_
    exact v_weak [true, true, true] (Tr_readText_b94_ok C hQ H41 h)
  · replace h := hF q h
    refine v_iconst (v := 1) C dX3_readText_89 (by decide) ?_
    refine v_goto (tgt := 94) C dX3_readText_90 (by decide) ?_
    exact v_weak [true, true, true] (Tr_readText_b94_ok C hQ H41 h)
set_option maxHeartbeats 4000000 in
set_option maxRecDepth 100000 in
theorem Tr_readText_b78_ok {X : XX} {G : GG} (C : Cx X G cX3_readText 3 RX3 7 149 none) {M' : Mem} (hQ : Rt X G none M') {k41 : Int32 → Int32 → Mem → Option Mem} (H41 : ∀ (v1 : Int32) (v2 : Int32) (M : Mem), k41 v1 v2 M = some M' → V X G 3 M 41 [some (.ref (G.2.1 1)), some (.int v1), some (.int v2)] []) {v2 : Int32} {M : Mem}  (h : Tr_readText_b78 k41 v2 M = some M') : V X G 3 M 78 [some (.ref (G.2.1 1)), none, some (.int v2)] [] := by
  unfold Tr_readText_b78 at h
  refine v_iconst (v := 0) C dX3_readText_78 (by decide) ?_
  exact v_weak [true, false, true] (Tr_readText_b79_ok C hQ H41 h)
set_option maxHeartbeats 4000000 in
set_option maxRecDepth 100000 in
theorem Tr_readText_L41_ok {X : XX} {G : GG} (C : Cx X G cX3_readText 3 RX3 7 149 none) {M' : Mem} (hQ : Rt X G none M')   : ∀ (n : Nat) (v1 : Int32) (v2 : Int32) (M : Mem), Tr_readText_L41 n v1 v2 M = some M' → V X G 3 M 41 [some (.ref (G.2.1 1)), some (.int v1), some (.int v2)] [] := by
  intro n
  induction n with
  | zero =>
    intro v1 v2 M h
    simp [Tr_readText_L41] at h
  | succ n ih =>
    intro v1 v2 M h
    rw [Tr_readText_L41] at h
    refine v_iload_n C dX3_readText_41 rfl ?_
    refine v_aload_n C dX3_readText_42 rfl ?_
    refine v_geti C fk_X3_22 rfl dX3_readText_43 ?_
    refine v_icmp_gt (tgt := 104) C dX3_readText_46 (by decide) (fun q => ?_) (fun q => ?_)
    · replace h := hT q h
      exact v_weak [true, false, false] (Tr_readText_b104_ok C hQ h)
    · replace h := hF q h
      refine v_iload_n C dX3_readText_49 rfl ?_
      refine v_if_eq (tgt := 104) C dX3_readText_50 (by decide) (fun q => ?_) (fun q => ?_)
      · replace h := hT q h
        exact v_weak [true, false, false] (Tr_readText_b104_ok C hQ h)
      · replace h := hF q h
        refine v_aload_n C dX3_readText_53 rfl ?_
        obtain ⟨r3, M1, c2, h⟩ := hB h
        refine v_callVi C (Tr_readToken_ok (xl X) C.ig c2) ml_X3_48 mb_X3_readToken mv_X3_readToken rfl rfl rfl (Nat.le_of_ble_eq_true rfl) (by decide) (by decide) dX3_readText_54 ?_
        refine v_if_eq (tgt := 78) C dX3_readText_57 (by decide) (fun q => ?_) (fun q => ?_)
        · replace h := hT q h
          exact v_weak [true, false, true] (Tr_readText_b78_ok C hQ ih h)
        · replace h := hF q h
          refine v_aload_n C dX3_readText_60 rfl ?_
          refine v_geti C fk_X3_52 rfl dX3_readText_61 ?_
          refine v_if_eq (tgt := 78) C dX3_readText_64 (by decide) (fun q => ?_) (fun q => ?_)
          · replace h := hT q h
            exact v_weak [true, false, true] (Tr_readText_b78_ok C hQ ih h)
          · replace h := hF q h
            refine v_aload_n C dX3_readText_67 rfl ?_
            obtain ⟨r6, M4, c5, h⟩ := hB h
            refine v_callVi C (Tr_readLine_ok (xl X) C.ig c5) ml_X3_55 mb_X3_readLine mv_X3_readLine rfl rfl rfl (Nat.le_of_ble_eq_true rfl) (by decide) (by decide) dX3_readText_68 ?_
            refine v_if_eq (tgt := 78) C dX3_readText_71 (by decide) (fun q => ?_) (fun q => ?_)
            · replace h := hT q h
              exact v_weak [true, false, true] (Tr_readText_b78_ok C hQ ih h)
            · replace h := hF q h
              refine v_iconst (v := 1) C dX3_readText_74 (by decide) ?_
              refine v_goto (tgt := 79) C dX3_readText_75 (by decide) ?_
              exact v_weak [true, false, true] (Tr_readText_b79_ok C hQ ih h)
set_option maxHeartbeats 4000000 in
set_option maxRecDepth 100000 in
theorem Tr_readText_ok (l : Launch) {G : GG} (hI : IG G) {M M' : Mem}  (h : Tr_readText M = some M') : Sp l G yX3_readText cX3_readText 3 none 7 149 [.ref (G.2.1 1)] M none M' := by
  unfold Tr_readText at h
  refine sp_intro [some (.ref (G.2.1 1)), none, none] hI (by decide) (Nat.le_of_ble_eq_true rfl) (fun _ hq => hq) (fun X _ C hQ => ?_)
  refine v_aload_n C dX3_readText_0 rfl ?_
  refine v_iconst (v := 0) C dX3_readText_1 (by decide) ?_
  refine v_puti C fk_X3_26 rfl dX3_readText_2 ?_
  refine v_aload_n C dX3_readText_5 rfl ?_
  refine v_iconst (v := (-1)) C dX3_readText_6 (by decide) ?_
  refine v_puti C fk_X3_29 rfl dX3_readText_7 ?_
  refine v_aload_n C dX3_readText_10 rfl ?_
  refine v_iconst (v := 0) C dX3_readText_11 (by decide) ?_
  refine v_putz C fk_X3_32 rfl rfl dX3_readText_12 ?_
  refine v_aload_n C dX3_readText_15 rfl ?_
  refine v_iconst (v := 0) C dX3_readText_16 (by decide) ?_
  refine v_puti C fk_X3_36 rfl dX3_readText_17 ?_
  refine v_aload_n C dX3_readText_20 rfl ?_
  refine v_iconst (v := 0) C dX3_readText_21 (by decide) ?_
  refine v_puti C fk_X3_39 rfl dX3_readText_22 ?_
  refine v_aload_n C dX3_readText_25 rfl ?_
  refine v_getr (j := 3) C fk_X3_18 rfl dX3_readText_26 ?_
  obtain ⟨M1, c2, h⟩ := hV h
  refine v_callVv C (Pa_makeEmpty_ok (xl X) C.ig c2) ml_X3_42 mb_X1_makeEmpty mv_X1_makeEmpty rfl rfl rfl (Nat.le_of_ble_eq_true rfl) (by decide) (by decide) dX3_readText_29 ?_
  refine v_aload_n C dX3_readText_32 rfl ?_
  refine v_iconst (v := 0) C dX3_readText_33 (by decide) ?_
  refine v_puti C fk_X3_45 rfl dX3_readText_34 ?_
  refine v_iconst (v := 1) C dX3_readText_37 (by decide) ?_
  refine v_istore_n C dX3_readText_38 (by decide) rfl ?_
  refine v_iconst (v := 0) C dX3_readText_39 (by decide) ?_
  refine v_istore_n C dX3_readText_40 (by decide) rfl ?_
  exact v_weak [true, true, true] (Tr_readText_L41_ok C hQ _ _ _ _ h)
set_option maxHeartbeats 4000000 in
set_option maxRecDepth 100000 in
theorem Un_putChains_b106_ok {X : XX} {G : GG} (C : Cx X G cX4_putChains 6 RX4 3 74 none) {M' : Mem} (hQ : Rt X G none M') {k28 : Nat → Int32 → Int32 → Int32 → Int32 → Mem → Option Mem} (H28 : ∀ (v1 : Nat) (v2 : Int32) (v3 : Int32) (v4 : Int32) (v5 : Int32) (M : Mem), isP v1 = true → k28 v1 v2 v3 v4 v5 M = some M' → V X G 6 M 28 [some (.ref (G.2.1 22)), some (.ref (G.2.1 v1)), some (.int v2), some (.int v3), some (.int v4), some (.int v5)] []) {v1 : Nat} {v2 : Int32} {v3 : Int32} {v4 : Int32} {v5 : Int32} {M : Mem} (g1 : isP v1 = true) (h : Un_putChains_b106 k28 v1 v2 v3 v4 v5 M = some M') : V X G 6 M 106 [some (.ref (G.2.1 22)), some (.ref (G.2.1 v1)), some (.int v2), some (.int v3), some (.int v4), some (.int v5)] [] := by
  unfold Un_putChains_b106 at h
  refine v_iinc (v := 1) C dX4_putChains_106 rfl (by decide) (by decide) rfl ?_
  refine v_goto (tgt := 28) C dX4_putChains_109 (by decide) ?_
  exact v_weak [true, true, true, true, true, true] (H28 _ _ _ _ _ _ g1 h)
set_option maxHeartbeats 4000000 in
set_option maxRecDepth 100000 in
theorem Un_putChains_b103_ok {X : XX} {G : GG} (C : Cx X G cX4_putChains 6 RX4 3 74 none) {M' : Mem} (hQ : Rt X G none M') {k28 : Nat → Int32 → Int32 → Int32 → Int32 → Mem → Option Mem} (H28 : ∀ (v1 : Nat) (v2 : Int32) (v3 : Int32) (v4 : Int32) (v5 : Int32) (M : Mem), isP v1 = true → k28 v1 v2 v3 v4 v5 M = some M' → V X G 6 M 28 [some (.ref (G.2.1 22)), some (.ref (G.2.1 v1)), some (.int v2), some (.int v3), some (.int v4), some (.int v5)] []) {v1 : Nat} {v2 : Int32} {v3 : Int32} {v4 : Int32} {v5 : Int32} {s1 : Nat} {s2 : Int32} {s3 : Int32} {s4 : Int32} {s5 : Int32} {M : Mem} (g1 : isP v1 = true) (gs1 : isP s1 = true) (h : Un_putChains_b103 k28 v1 v2 v3 v4 v5 s1 s2 s3 s4 s5 M = some M') : V X G 6 M 103 [some (.ref (G.2.1 22)), some (.ref (G.2.1 v1)), some (.int v2), some (.int v3), some (.int v4), some (.int v5)] [.int s5, .int s4, .int s3, .int s2, .ref (G.2.1 s1), .ref (G.2.1 23)] := by
  unfold Un_putChains_b103 at h
  obtain ⟨M1, c2, h⟩ := hV h
  refine v_callVv C (Eq_putBlock_ok (xl X) C.ig c2) ml_X4_46 mb_X0_putBlock mv_X0_putBlock rfl rfl rfl (Nat.le_of_ble_eq_true rfl) (by decide) (by decide) dX4_putChains_103 ?_
  exact v_weak [true, true, true, true, true, true] (Un_putChains_b106_ok C hQ H28 g1 h)
set_option maxHeartbeats 4000000 in
set_option maxRecDepth 100000 in
theorem Un_putChains_b93_ok {X : XX} {G : GG} (C : Cx X G cX4_putChains 6 RX4 3 74 none) {M' : Mem} (hQ : Rt X G none M') {k28 : Nat → Int32 → Int32 → Int32 → Int32 → Mem → Option Mem} (H28 : ∀ (v1 : Nat) (v2 : Int32) (v3 : Int32) (v4 : Int32) (v5 : Int32) (M : Mem), isP v1 = true → k28 v1 v2 v3 v4 v5 M = some M' → V X G 6 M 28 [some (.ref (G.2.1 22)), some (.ref (G.2.1 v1)), some (.int v2), some (.int v3), some (.int v4), some (.int v5)] []) {v1 : Nat} {v2 : Int32} {v3 : Int32} {v4 : Int32} {v5 : Int32} {s1 : Nat} {s2 : Int32} {s3 : Int32} {s4 : Int32} {M : Mem} (g1 : isP v1 = true) (gs1 : isP s1 = true) (h : Un_putChains_b93 k28 v1 v2 v3 v4 v5 s1 s2 s3 s4 M = some M') : V X G 6 M 93 [some (.ref (G.2.1 22)), some (.ref (G.2.1 v1)), some (.int v2), some (.int v3), some (.int v4), some (.int v5)] [.int s4, .int s3, .int s2, .ref (G.2.1 s1), .ref (G.2.1 23)] := by
  unfold Un_putChains_b93 at h
  refine v_iload C dX4_putChains_93 rfl ?_
  refine v_if_eq (tgt := 102) C dX4_putChains_95 (by decide) (fun q => ?_) (fun q => ?_)
  · replace h := hT q h
    refine v_iconst (v := (-1)) C dX4_putChains_102 (by decide) ?_
    exact v_weak [true, true, true, true, true, true] (Un_putChains_b103_ok C hQ H28 g1 gs1 h)
  · replace h := hF q h
    refine v_iconst (v := 0) C dX4_putChains_98 (by decide) ?_
    refine v_goto (tgt := 103) C dX4_putChains_99 (by decide) ?_
    exact v_weak [true, true, true, true, true, true] (Un_putChains_b103_ok C hQ H28 g1 gs1 h)
set_option maxHeartbeats 4000000 in
set_option maxRecDepth 100000 in
theorem Un_putChains_b64_ok {X : XX} {G : GG} (C : Cx X G cX4_putChains 6 RX4 3 74 none) {M' : Mem} (hQ : Rt X G none M') {k28 : Nat → Int32 → Int32 → Int32 → Int32 → Mem → Option Mem} (H28 : ∀ (v1 : Nat) (v2 : Int32) (v3 : Int32) (v4 : Int32) (v5 : Int32) (M : Mem), isP v1 = true → k28 v1 v2 v3 v4 v5 M = some M' → V X G 6 M 28 [some (.ref (G.2.1 22)), some (.ref (G.2.1 v1)), some (.int v2), some (.int v3), some (.int v4), some (.int v5)] []) {v1 : Nat} {v2 : Int32} {v3 : Int32} {v4 : Int32} {v5 : Int32} {s1 : Nat} {s2 : Int32} {s3 : Int32} {s4 : Int32} {s5 : Int32} {M : Mem} (g1 : isP v1 = true) (gs1 : isP s1 = true) (h : Un_putChains_b64 k28 v1 v2 v3 v4 v5 s1 s2 s3 s4 s5 M = some M') : V X G 6 M 64 [some (.ref (G.2.1 22)), some (.ref (G.2.1 v1)), some (.int v2), some (.int v3), some (.int v4), some (.int v5)] [.int s5, .int s4, .int s3, .int s2, .ref (G.2.1 s1), .ref (G.2.1 23)] := by
  unfold Un_putChains_b64 at h
  obtain ⟨M1, c2, h⟩ := hV h
  refine v_callVv C (Eq_putBlock_ok (xl X) C.ig c2) ml_X4_46 mb_X0_putBlock mv_X0_putBlock rfl rfl rfl (Nat.le_of_ble_eq_true rfl) (by decide) (by decide) dX4_putChains_64 ?_
  refine v_iload C dX4_putChains_67 rfl ?_
  refine v_if_le (tgt := 106) C dX4_putChains_69 (by decide) (fun q => ?_) (fun q => ?_)
  · replace h := hT q h
    exact v_weak [true, true, true, true, true, true] (Un_putChains_b106_ok C hQ H28 g1 h)
  · replace h := hF q h
    refine v_aload_n C dX4_putChains_72 rfl ?_
    refine v_getr (j := 23) C fk_X4_21 rfl dX4_putChains_73 ?_
    refine v_aload_n C dX4_putChains_76 rfl ?_
    refine v_iload C dX4_putChains_77 rfl ?_
    refine v_iload C dX4_putChains_79 rfl ?_
    refine v_iconst (v := 1) C dX4_putChains_81 (by decide) ?_
    refine v_isub C dX4_putChains_82 ?_
    refine v_iload C dX4_putChains_83 rfl ?_
    refine v_if_eq (tgt := 92) C dX4_putChains_85 (by decide) (fun q => ?_) (fun q => ?_)
    · replace h := hT q h
      refine v_iconst (v := 0) C dX4_putChains_92 (by decide) ?_
      exact v_weak [true, true, true, true, true, true] (Un_putChains_b93_ok C hQ H28 g1 g1 h)
    · replace h := hF q h
      refine v_iconst (v := (-1)) C dX4_putChains_88 (by decide) ?_
      refine v_goto (tgt := 93) C dX4_putChains_89 (by decide) ?_
      exact v_weak [true, true, true, true, true, true] (Un_putChains_b93_ok C hQ H28 g1 g1 h)
set_option maxHeartbeats 4000000 in
set_option maxRecDepth 100000 in
theorem Un_putChains_b53_ok {X : XX} {G : GG} (C : Cx X G cX4_putChains 6 RX4 3 74 none) {M' : Mem} (hQ : Rt X G none M') {k28 : Nat → Int32 → Int32 → Int32 → Int32 → Mem → Option Mem} (H28 : ∀ (v1 : Nat) (v2 : Int32) (v3 : Int32) (v4 : Int32) (v5 : Int32) (M : Mem), isP v1 = true → k28 v1 v2 v3 v4 v5 M = some M' → V X G 6 M 28 [some (.ref (G.2.1 22)), some (.ref (G.2.1 v1)), some (.int v2), some (.int v3), some (.int v4), some (.int v5)] []) {v1 : Nat} {v2 : Int32} {v3 : Int32} {v4 : Int32} {v5 : Int32} {s1 : Nat} {s2 : Int32} {s3 : Int32} {s4 : Int32} {M : Mem} (g1 : isP v1 = true) (gs1 : isP s1 = true) (h : Un_putChains_b53 k28 v1 v2 v3 v4 v5 s1 s2 s3 s4 M = some M') : V X G 6 M 53 [some (.ref (G.2.1 22)), some (.ref (G.2.1 v1)), some (.int v2), some (.int v3), some (.int v4), some (.int v5)] [.int s4, .int s3, .int s2, .ref (G.2.1 s1), .ref (G.2.1 23)] := by
  unfold Un_putChains_b53 at h
  refine v_iload C dX4_putChains_53 rfl ?_
  refine v_if_eq (tgt := 62) C dX4_putChains_55 (by decide) (fun q => ?_) (fun q => ?_)
  · replace h := hT q h
    refine v_iload_n C dX4_putChains_62 rfl ?_
    refine v_ineg C dX4_putChains_63 ?_
    exact v_weak [true, true, true, true, true, true] (Un_putChains_b64_ok C hQ H28 g1 gs1 h)
  · replace h := hF q h
    refine v_iconst (v := 1) C dX4_putChains_58 (by decide) ?_
    refine v_goto (tgt := 64) C dX4_putChains_59 (by decide) ?_
    exact v_weak [true, true, true, true, true, true] (Un_putChains_b64_ok C hQ H28 g1 gs1 h)
set_option maxHeartbeats 4000000 in
set_option maxRecDepth 100000 in
theorem Un_putChains_L28_ok {X : XX} {G : GG} (C : Cx X G cX4_putChains 6 RX4 3 74 none) {M' : Mem} (hQ : Rt X G none M')   : ∀ (n : Nat) (v1 : Nat) (v2 : Int32) (v3 : Int32) (v4 : Int32) (v5 : Int32) (M : Mem), isP v1 = true → Un_putChains_L28 n v1 v2 v3 v4 v5 M = some M' → V X G 6 M 28 [some (.ref (G.2.1 22)), some (.ref (G.2.1 v1)), some (.int v2), some (.int v3), some (.int v4), some (.int v5)] [] := by
  intro n
  induction n with
  | zero =>
    intro v1 v2 v3 v4 v5 M g1 h
    simp [Un_putChains_L28] at h
  | succ n ih =>
    intro v1 v2 v3 v4 v5 M g1 h
    rw [Un_putChains_L28] at h
    refine v_iload C dX4_putChains_28 rfl ?_
    refine v_iload_n C dX4_putChains_30 rfl ?_
    refine v_icmp_ge (tgt := 112) C dX4_putChains_31 (by decide) (fun q => ?_) (fun q => ?_)
    · replace h := hT q h
      obtain rfl := hRv h
      exact v_vret C hQ dX4_putChains_112
    · replace h := hF q h
      refine v_aload_n C dX4_putChains_34 rfl ?_
      refine v_getr (j := 23) C fk_X4_21 rfl dX4_putChains_35 ?_
      refine v_aload_n C dX4_putChains_38 rfl ?_
      refine v_iload C dX4_putChains_39 rfl ?_
      refine v_iload C dX4_putChains_41 rfl ?_
      refine v_iload C dX4_putChains_43 rfl ?_
      refine v_if_eq (tgt := 52) C dX4_putChains_45 (by decide) (fun q => ?_) (fun q => ?_)
      · replace h := hT q h
        refine v_iconst (v := 1) C dX4_putChains_52 (by decide) ?_
        exact v_weak [true, true, true, true, true, true] (Un_putChains_b53_ok C hQ ih g1 g1 h)
      · replace h := hF q h
        refine v_iconst (v := 0) C dX4_putChains_48 (by decide) ?_
        refine v_goto (tgt := 53) C dX4_putChains_49 (by decide) ?_
        exact v_weak [true, true, true, true, true, true] (Un_putChains_b53_ok C hQ ih g1 g1 h)
set_option maxHeartbeats 4000000 in
set_option maxRecDepth 100000 in
theorem Un_putChains_b13_ok {X : XX} {G : GG} (C : Cx X G cX4_putChains 6 RX4 3 74 none) {M' : Mem} (hQ : Rt X G none M')   {v1 : Nat} {v2 : Int32} {v3 : Int32} {s0 : Int32} {M : Mem} (g1 : isP v1 = true) (h : Un_putChains_b13 v1 v2 v3 s0 M = some M') : V X G 6 M 13 [some (.ref (G.2.1 22)), some (.ref (G.2.1 v1)), some (.int v2), some (.int v3), none, none] [.int s0] := by
  unfold Un_putChains_b13 at h
  refine v_istore C dX4_putChains_13 (by decide) rfl ?_
  refine v_aload_n C dX4_putChains_15 rfl ?_
  refine v_getr (j := 23) C fk_X4_21 rfl dX4_putChains_16 ?_
  refine v_aload_n C dX4_putChains_19 rfl ?_
  refine v_iload_n C dX4_putChains_20 rfl ?_
  refine v_iload_n C dX4_putChains_21 rfl ?_
  obtain ⟨M1, c2, h⟩ := hV h
  refine v_callVv C (Eq_begin_ok (xl X) C.ig c2) ml_X4_43 mb_X0_begin mv_X0_begin rfl rfl rfl (Nat.le_of_ble_eq_true rfl) (by decide) (by decide) dX4_putChains_22 ?_
  refine v_iconst (v := 0) C dX4_putChains_25 (by decide) ?_
  refine v_istore C dX4_putChains_26 (by decide) rfl ?_
  exact v_weak [true, true, true, true, true, true] (Un_putChains_L28_ok C hQ _ _ _ _ _ _ _ g1 h)
set_option maxHeartbeats 4000000 in
set_option maxRecDepth 100000 in
theorem Un_putChains_ok (l : Launch) {G : GG} (hI : IG G) {M M' : Mem} {v1 : Nat} {v2 : Int32} {v3 : Int32} (h : Un_putChains v1 v2 v3 M = some M') : Sp l G yX4_putChains cX4_putChains 6 none 3 74 [.ref (G.2.1 22), .ref (G.2.1 v1), .int v2, .int v3] M none M' := by
  unfold Un_putChains at h
  obtain ⟨g1, h⟩ := hG h
  refine sp_intro [some (.ref (G.2.1 22)), some (.ref (G.2.1 v1)), some (.int v2), some (.int v3), none, none] hI (by decide) (Nat.le_of_ble_eq_true rfl) (fun _ hq => hq) (fun X _ C hQ => ?_)
  refine v_iload_n C dX4_putChains_0 rfl ?_
  refine v_aload_n C dX4_putChains_1 rfl ?_
  refine v_geti C fk_X4_58 (intP1 g1) dX4_putChains_2 ?_
  refine v_icmp_ne (tgt := 12) C dX4_putChains_5 (by decide) (fun q => ?_) (fun q => ?_)
  · replace h := hF q h
    refine v_iconst (v := 0) C dX4_putChains_12 (by decide) ?_
    exact v_weak [true, true, true, true, false, false] (Un_putChains_b13_ok C hQ g1 h)
  · replace h := hT q h
    refine v_iconst (v := 1) C dX4_putChains_8 (by decide) ?_
    refine v_goto (tgt := 13) C dX4_putChains_9 (by decide) ?_
    exact v_weak [true, true, true, true, false, false] (Un_putChains_b13_ok C hQ g1 h)
