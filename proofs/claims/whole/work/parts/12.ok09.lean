set_option maxHeartbeats 4000000 in
set_option maxRecDepth 100000 in
theorem Mo_text_L125_ok {X : XX} {G : GG} (C : Cx X G cX6_text 3 RX6 4 96 (some .int)) {r : Int32} {M' : Mem} (hQ : Rt X G (some (.int r)) M')   : ∀ (n : Nat) (v1 : Int32) (v2 : Int32) (M : Mem), Mo_text_L125 n v1 v2 M = some (r, M') → V X G 3 M 125 [some (.ref (G.2.1 32)), some (.int v1), some (.int v2)] [] := by
  intro n
  induction n with
  | zero =>
    intro v1 v2 M h
    simp [Mo_text_L125] at h
  | succ n ih =>
    intro v1 v2 M h
    rw [Mo_text_L125] at h
    refine v_iload_n C dX6_text_125 rfl ?_
    refine v_bipush (v := 35) C dX6_text_126 (by decide) ?_
    refine v_icmp_ge (tgt := 149) C dX6_text_128 (by decide) (fun q => ?_) (fun q => ?_)
    · replace h := hT q h
      refine v_aload_n C dX6_text_149 rfl ?_
      refine v_getr (j := 35) C fk_X6_16 rfl dX6_text_150 ?_
      refine v_iconst (v := 0) C dX6_text_153 (by decide) ?_
      refine v_iconst (v := 0) C dX6_text_154 (by decide) ?_
      refine v_zast_k (k := 0) (n := 2) C rfl rfl (by decide) rfl dX6_text_155 ?_
      refine v_aload_n C dX6_text_156 rfl ?_
      refine v_getr (j := 35) C fk_X6_16 rfl dX6_text_157 ?_
      refine v_iconst (v := 1) C dX6_text_160 (by decide) ?_
      refine v_iconst (v := 0) C dX6_text_161 (by decide) ?_
      refine v_zast_k (k := 1) (n := 2) C rfl rfl (by decide) rfl dX6_text_162 ?_
      refine v_iload_n C dX6_text_163 rfl ?_
      obtain ⟨rfl, rfl⟩ := hR h
      exact v_iret C hQ dX6_text_164
    · replace h := hF q h
      refine v_aload_n C dX6_text_131 rfl ?_
      refine v_getr (j := 33) C fk_X6_7 rfl dX6_text_132 ?_
      refine v_iload_n C dX6_text_135 rfl ?_
      refine v_aload_n C dX6_text_136 rfl ?_
      refine v_getr (j := 36) C fk_X6_20 rfl dX6_text_137 ?_
      refine v_iload_n C dX6_text_140 rfl ?_
      obtain ⟨q1, h⟩ := hG h
      refine v_iald C rfl q1 dX6_text_141 ?_
      obtain ⟨q2, h⟩ := hG h
      refine v_iast C rfl q2 dX6_text_142 ?_
      refine v_iinc (v := 1) C dX6_text_143 rfl (by decide) (by decide) rfl ?_
      refine v_goto (tgt := 125) C dX6_text_146 (by decide) ?_
      exact v_weak [true, true, true] (ih _ _ _ h)
set_option maxHeartbeats 4000000 in
set_option maxRecDepth 100000 in
theorem Mo_text_b98_ok {X : XX} {G : GG} (C : Cx X G cX6_text 3 RX6 4 96 (some .int)) {r : Int32} {M' : Mem} (hQ : Rt X G (some (.int r)) M')   {v1 : Int32} {s1 : Int32} {M : Mem}  (h : Mo_text_b98 v1 s1 M = some (r, M')) : V X G 3 M 98 [some (.ref (G.2.1 32)), some (.int v1), none] [.int s1, .ref (G.2.1 32)] := by
  unfold Mo_text_b98 at h
  refine v_bipush (v := 6) C dX6_text_98 (by decide) ?_
  obtain ⟨M1, c2, h⟩ := hV h
  refine v_callVv C (Mo_requires_ok (xl X) C.ig c2) ml_X6_106 mb_X6_requires mv_X6_requires rfl rfl rfl (Nat.le_of_ble_eq_true rfl) (by decide) (by decide) dX6_text_100 ?_
  refine v_aload_n C dX6_text_103 rfl ?_
  refine v_iconst (v := 0) C dX6_text_104 (by decide) ?_
  refine v_puti C fk_X6_68 rfl dX6_text_105 ?_
  refine v_aload_n C dX6_text_108 rfl ?_
  refine v_geti C fk_X6_72 rfl dX6_text_109 ?_
  refine v_if_le (tgt := 123) C dX6_text_112 (by decide) (fun q => ?_) (fun q => ?_)
  · replace h := hT q h
    refine v_iconst (v := 0) C dX6_text_123 (by decide) ?_
    refine v_istore_n C dX6_text_124 (by decide) rfl ?_
    exact v_weak [true, true, true] (Mo_text_L125_ok C hQ _ _ _ _ h)
  · replace h := hF q h
    refine v_bipush (v := (-10)) C dX6_text_115 (by decide) ?_
    refine v_aload_n C dX6_text_117 rfl ?_
    refine v_geti C fk_X6_78 rfl dX6_text_118 ?_
    refine v_isub C dX6_text_121 ?_
    obtain ⟨rfl, rfl⟩ := hR h
    exact v_iret C hQ dX6_text_122
set_option maxHeartbeats 4000000 in
set_option maxRecDepth 100000 in
theorem Mo_text_b79_ok {X : XX} {G : GG} (C : Cx X G cX6_text 3 RX6 4 96 (some .int)) {r : Int32} {M' : Mem} (hQ : Rt X G (some (.int r)) M')   {v1 : Int32} {M : Mem}  (h : Mo_text_b79 v1 M = some (r, M')) : V X G 3 M 79 [some (.ref (G.2.1 32)), some (.int v1), none] [] := by
  unfold Mo_text_b79 at h
  refine v_aload_n C dX6_text_79 rfl ?_
  refine v_aload_n C dX6_text_80 rfl ?_
  refine v_geti C fk_X6_125 rfl dX6_text_81 ?_
  refine v_aload_n C dX6_text_84 rfl ?_
  refine v_getr (j := 36) C fk_X6_20 rfl dX6_text_85 ?_
  refine v_iconst (v := 0) C dX6_text_88 (by decide) ?_
  refine v_iald_k (k := 0) (n := 35) C rfl rfl (by decide) dX6_text_89 ?_
  refine v_icmp_ge (tgt := 97) C dX6_text_90 (by decide) (fun q => ?_) (fun q => ?_)
  · replace h := hT q h
    refine v_iconst (v := 0) C dX6_text_97 (by decide) ?_
    exact v_weak [true, true, false] (Mo_text_b98_ok C hQ h)
  · replace h := hF q h
    refine v_iconst (v := 1) C dX6_text_93 (by decide) ?_
    refine v_goto (tgt := 98) C dX6_text_94 (by decide) ?_
    exact v_weak [true, true, false] (Mo_text_b98_ok C hQ h)
set_option maxHeartbeats 4000000 in
set_option maxRecDepth 100000 in
theorem Mo_text_L55_ok {X : XX} {G : GG} (C : Cx X G cX6_text 3 RX6 4 96 (some .int)) {r : Int32} {M' : Mem} (hQ : Rt X G (some (.int r)) M')   : ∀ (n : Nat) (v1 : Int32) (M : Mem), Mo_text_L55 n v1 M = some (r, M') → V X G 3 M 55 [some (.ref (G.2.1 32)), some (.int v1), none] [] := by
  intro n
  induction n with
  | zero =>
    intro v1 M h
    simp [Mo_text_L55] at h
  | succ n ih =>
    intro v1 M h
    rw [Mo_text_L55] at h
    refine v_aload_n C dX6_text_55 rfl ?_
    refine v_geti C fk_X6_72 rfl dX6_text_56 ?_
    refine v_if_ne (tgt := 79) C dX6_text_59 (by decide) (fun q => ?_) (fun q => ?_)
    · replace h := hF q h
      exact v_weak [true, true, false] (Mo_text_b79_ok C hQ h)
    · replace h := hT q h
      refine v_aload_n C dX6_text_62 rfl ?_
      refine v_geti C fk_X6_92 rfl dX6_text_63 ?_
      refine v_if_eq (tgt := 79) C dX6_text_66 (by decide) (fun q => ?_) (fun q => ?_)
      · replace h := hT q h
        exact v_weak [true, true, false] (Mo_text_b79_ok C hQ h)
      · replace h := hF q h
        refine v_aload_n C dX6_text_69 rfl ?_
        obtain ⟨M1, c2, h⟩ := hV h
        refine v_callVv C (Mo_readLine_ok (xl X) C.ig c2) ml_X6_144 mb_X6_readLine mv_X6_readLine rfl rfl rfl (Nat.le_of_ble_eq_true rfl) (by decide) (by decide) dX6_text_70 ?_
        refine v_iinc (v := 1) C dX6_text_73 rfl (by decide) (by decide) rfl ?_
        refine v_goto (tgt := 55) C dX6_text_76 (by decide) ?_
        exact v_weak [true, true, false] (ih _ _ h)
set_option maxHeartbeats 4000000 in
set_option maxRecDepth 100000 in
theorem Mo_text_L24_ok {X : XX} {G : GG} (C : Cx X G cX6_text 3 RX6 4 96 (some .int)) {r : Int32} {M' : Mem} (hQ : Rt X G (some (.int r)) M')   : ∀ (n : Nat) (v1 : Int32) (v2 : Int32) (M : Mem), Mo_text_L24 n v1 v2 M = some (r, M') → V X G 3 M 24 [some (.ref (G.2.1 32)), some (.int v1), some (.int v2)] [] := by
  intro n
  induction n with
  | zero =>
    intro v1 v2 M h
    simp [Mo_text_L24] at h
  | succ n ih =>
    intro v1 v2 M h
    rw [Mo_text_L24] at h
    refine v_iload_n C dX6_text_24 rfl ?_
    refine v_bipush (v := 35) C dX6_text_25 (by decide) ?_
    refine v_icmp_ge (tgt := 43) C dX6_text_27 (by decide) (fun q => ?_) (fun q => ?_)
    · replace h := hT q h
      refine v_aload_n C dX6_text_43 rfl ?_
      refine v_getr (j := 36) C fk_X6_20 rfl dX6_text_44 ?_
      refine v_iconst (v := 0) C dX6_text_47 (by decide) ?_
      refine v_bipush (v := 7) C dX6_text_48 (by decide) ?_
      refine v_iast_k (k := 0) (n := 35) C rfl rfl (by decide) dX6_text_50 ?_
      refine v_aload_n C dX6_text_51 rfl ?_
      obtain ⟨M1, c2, h⟩ := hV h
      refine v_callVv C (Mo_reads_ok (xl X) C.ig c2) ml_X6_122 mb_X6_reads mv_X6_reads rfl rfl rfl (Nat.le_of_ble_eq_true rfl) (by decide) (by decide) dX6_text_52 ?_
      exact v_weak [true, true, false] (Mo_text_L55_ok C hQ _ _ _ h)
    · replace h := hF q h
      refine v_aload_n C dX6_text_30 rfl ?_
      refine v_getr (j := 36) C fk_X6_20 rfl dX6_text_31 ?_
      refine v_iload_n C dX6_text_34 rfl ?_
      refine v_iconst (v := 0) C dX6_text_35 (by decide) ?_
      obtain ⟨q3, h⟩ := hG h
      refine v_iast C rfl q3 dX6_text_36 ?_
      refine v_iinc (v := 1) C dX6_text_37 rfl (by decide) (by decide) rfl ?_
      refine v_goto (tgt := 24) C dX6_text_40 (by decide) ?_
      exact v_weak [true, true, true] (ih _ _ _ h)
set_option maxHeartbeats 4000000 in
set_option maxRecDepth 100000 in
theorem Mo_text_ok (l : Launch) {G : GG} (hI : IG G) {M M' : Mem}  {r : Int32} (h : Mo_text M = some (r, M')) : Sp l G yX6_text cX6_text 3 (some .int) 4 96 [.ref (G.2.1 32)] M (some (.int r)) M' := by
  unfold Mo_text at h
  refine sp_intro [some (.ref (G.2.1 32)), none, none] hI (by decide) (Nat.le_of_ble_eq_true rfl) (fun _ hq => hq) (fun X _ C hQ => ?_)
  refine v_iconst (v := 0) C dX6_text_0 (by decide) ?_
  refine v_istore_n C dX6_text_1 (by decide) rfl ?_
  refine v_aload_n C dX6_text_2 rfl ?_
  refine v_iconst (v := 0) C dX6_text_3 (by decide) ?_
  refine v_puti C fk_X6_72 rfl dX6_text_4 ?_
  refine v_aload_n C dX6_text_7 rfl ?_
  refine v_iconst (v := 0) C dX6_text_8 (by decide) ?_
  refine v_puti C fk_X6_81 rfl dX6_text_9 ?_
  refine v_aload_n C dX6_text_12 rfl ?_
  refine v_iconst (v := 0) C dX6_text_13 (by decide) ?_
  refine v_putz C fk_X6_136 rfl rfl dX6_text_14 ?_
  refine v_aload_n C dX6_text_17 rfl ?_
  refine v_iconst (v := (-1)) C dX6_text_18 (by decide) ?_
  refine v_puti C fk_X6_125 rfl dX6_text_19 ?_
  refine v_iconst (v := 0) C dX6_text_22 (by decide) ?_
  refine v_istore_n C dX6_text_23 (by decide) rfl ?_
  exact v_weak [true, true, true] (Mo_text_L24_ok C hQ _ _ _ _ h)
set_option maxHeartbeats 4000000 in
set_option maxRecDepth 100000 in
theorem Mo_fault_ok (l : Launch) {G : GG} (hI : IG G) {M M' : Mem}  {r : Int32} (h : Mo_fault M = some (r, M')) : Sp l G yX6_fault cX6_fault 1 (some .int) 0 0 [.ref (G.2.1 32)] M (some (.int r)) M' := by
  unfold Mo_fault at h
  refine sp_intro [some (.ref (G.2.1 32))] hI (by decide) (Nat.le_of_ble_eq_true rfl) (fun _ hq => hq) (fun X _ C hQ => ?_)
  refine v_aload_n C dX6_fault_0 rfl ?_
  refine v_geti C fk_X6_72 rfl dX6_fault_1 ?_
  obtain ⟨rfl, rfl⟩ := hR h
  exact v_iret C hQ dX6_fault_4
set_option maxHeartbeats 4000000 in
set_option maxRecDepth 100000 in
theorem Mo_isTable_ok (l : Launch) {G : GG} (hI : IG G) {M M' : Mem} {v1 : Int32} {r : Int32} (h : Mo_isTable v1 M = some (r, M')) : Sp l G yX6_isTable cX6_isTable 2 (some .boolean) 1 25 [.ref (G.2.1 32), .int v1] M (some (.int r)) M' := by
  unfold Mo_isTable at h
  refine sp_intro [some (.ref (G.2.1 32)), some (.int v1)] hI (by decide) (Nat.le_of_ble_eq_true rfl) (fun _ hq => hq) (fun X _ C hQ => ?_)
  refine v_iload_n C dX6_isTable_0 rfl ?_
  refine v_i2l C dX6_isTable_1 ?_
  refine v_lconst (v := 0) C dX6_isTable_2 (by decide) ?_
  refine v_lconst (v := 1) C dX6_isTable_3 (by decide) ?_
  obtain ⟨r3, M1, c2, h⟩ := hB h
  refine v_callSi C (Mo_in_ok (xl X) C.ig c2) ml_X6_64 mb_X6_in ms_X6_in rfl rfl (Nat.le_of_ble_eq_true rfl) (by decide) (by decide) dX6_isTable_4 ?_
  obtain ⟨q4, h⟩ := hG h
  obtain ⟨rfl, rfl⟩ := hR h
  exact v_zret C hQ q4 dX6_isTable_7
set_option maxHeartbeats 4000000 in
set_option maxRecDepth 100000 in
theorem Mo_isPlace_ok (l : Launch) {G : GG} (hI : IG G) {M M' : Mem} {v1 : Int32} {v2 : Int32} {r : Int32} (h : Mo_isPlace v1 v2 M = some (r, M')) : Sp l G yX6_isPlace cX6_isPlace 3 (some .boolean) 1 25 [.ref (G.2.1 32), .int v1, .int v2] M (some (.int r)) M' := by
  unfold Mo_isPlace at h
  refine sp_intro [some (.ref (G.2.1 32)), some (.int v1), some (.int v2)] hI (by decide) (Nat.le_of_ble_eq_true rfl) (fun _ hq => hq) (fun X _ C hQ => ?_)
  refine v_iload_n C dX6_isPlace_0 rfl ?_
  refine v_i2l C dX6_isPlace_1 ?_
  refine v_lconst (v := 0) C dX6_isPlace_2 (by decide) ?_
  refine v_aload_n C dX6_isPlace_3 rfl ?_
  refine v_getr (j := 33) C fk_X6_7 rfl dX6_isPlace_4 ?_
  refine v_iconst (v := 1) C dX6_isPlace_7 (by decide) ?_
  refine v_iald_k (k := 1) (n := 35) C rfl rfl (by decide) dX6_isPlace_8 ?_
  refine v_iconst (v := 1) C dX6_isPlace_9 (by decide) ?_
  refine v_isub C dX6_isPlace_10 ?_
  refine v_i2l C dX6_isPlace_11 ?_
  obtain ⟨r3, M1, c2, h⟩ := hB h
  refine v_callSi C (Mo_in_ok (xl X) C.ig c2) ml_X6_64 mb_X6_in ms_X6_in rfl rfl (Nat.le_of_ble_eq_true rfl) (by decide) (by decide) dX6_isPlace_12 ?_
  refine v_if_eq (tgt := 40) C dX6_isPlace_15 (by decide) (fun q => ?_) (fun q => ?_)
  · replace h := hT q h
    refine v_iconst (v := 0) C dX6_isPlace_40 (by decide) ?_
    obtain ⟨rfl, rfl⟩ := hR h
    exact v_zret C hQ rfl dX6_isPlace_41
  · replace h := hF q h
    refine v_iload_n C dX6_isPlace_18 rfl ?_
    refine v_i2l C dX6_isPlace_19 ?_
    refine v_lconst (v := 0) C dX6_isPlace_20 (by decide) ?_
    refine v_aload_n C dX6_isPlace_21 rfl ?_
    refine v_getr (j := 33) C fk_X6_7 rfl dX6_isPlace_22 ?_
    refine v_iconst (v := 2) C dX6_isPlace_25 (by decide) ?_
    refine v_iald_k (k := 2) (n := 35) C rfl rfl (by decide) dX6_isPlace_26 ?_
    refine v_iconst (v := 1) C dX6_isPlace_27 (by decide) ?_
    refine v_isub C dX6_isPlace_28 ?_
    refine v_i2l C dX6_isPlace_29 ?_
    obtain ⟨r6, M4, c5, h⟩ := hB h
    refine v_callSi C (Mo_in_ok (xl X) C.ig c5) ml_X6_64 mb_X6_in ms_X6_in rfl rfl (Nat.le_of_ble_eq_true rfl) (by decide) (by decide) dX6_isPlace_30 ?_
    refine v_if_eq (tgt := 40) C dX6_isPlace_33 (by decide) (fun q => ?_) (fun q => ?_)
    · replace h := hT q h
      refine v_iconst (v := 0) C dX6_isPlace_40 (by decide) ?_
      obtain ⟨rfl, rfl⟩ := hR h
      exact v_zret C hQ rfl dX6_isPlace_41
    · replace h := hF q h
      refine v_iconst (v := 1) C dX6_isPlace_36 (by decide) ?_
      refine v_goto (tgt := 41) C dX6_isPlace_37 (by decide) ?_
      obtain ⟨rfl, rfl⟩ := hR h
      exact v_zret C hQ rfl dX6_isPlace_41
set_option maxHeartbeats 4000000 in
set_option maxRecDepth 100000 in
theorem Mo_isX_ok (l : Launch) {G : GG} (hI : IG G) {M M' : Mem} {v1 : Int32} {r : Int32} (h : Mo_isX v1 M = some (r, M')) : Sp l G yX6_isX cX6_isX 2 (some .boolean) 1 25 [.ref (G.2.1 32), .int v1] M (some (.int r)) M' := by
  unfold Mo_isX at h
  refine sp_intro [some (.ref (G.2.1 32)), some (.int v1)] hI (by decide) (Nat.le_of_ble_eq_true rfl) (fun _ hq => hq) (fun X _ C hQ => ?_)
  refine v_iload_n C dX6_isX_0 rfl ?_
  refine v_i2l C dX6_isX_1 ?_
  refine v_lconst (v := 0) C dX6_isX_2 (by decide) ?_
  refine v_aload_n C dX6_isX_3 rfl ?_
  refine v_getr (j := 33) C fk_X6_7 rfl dX6_isX_4 ?_
  refine v_iconst (v := 0) C dX6_isX_7 (by decide) ?_
  refine v_iald_k (k := 0) (n := 35) C rfl rfl (by decide) dX6_isX_8 ?_
  refine v_i2l C dX6_isX_9 ?_
  obtain ⟨r3, M1, c2, h⟩ := hB h
  refine v_callSi C (Mo_in_ok (xl X) C.ig c2) ml_X6_64 mb_X6_in ms_X6_in rfl rfl (Nat.le_of_ble_eq_true rfl) (by decide) (by decide) dX6_isX_10 ?_
  obtain ⟨q4, h⟩ := hG h
  obtain ⟨rfl, rfl⟩ := hR h
  exact v_zret C hQ q4 dX6_isX_13
set_option maxHeartbeats 4000000 in
set_option maxRecDepth 100000 in
theorem Mo_isPart_ok (l : Launch) {G : GG} (hI : IG G) {M M' : Mem} {v0 : Int32} {r : Int32} (h : Mo_isPart v0 M = some (r, M')) : Sp l G yX6_isPart cX6_isPart 1 (some .boolean) 1 25 [.int v0] M (some (.int r)) M' := by
  unfold Mo_isPart at h
  refine sp_intro [some (.int v0)] hI (by decide) (Nat.le_of_ble_eq_true rfl) (fun _ hq => hq) (fun X _ C hQ => ?_)
  refine v_iload_n C dX6_isPart_0 rfl ?_
  refine v_i2l C dX6_isPart_1 ?_
  refine v_lconst (v := 0) C dX6_isPart_2 (by decide) ?_
  refine v_lconst (v := 1) C dX6_isPart_3 (by decide) ?_
  obtain ⟨r3, M1, c2, h⟩ := hB h
  refine v_callSi C (Mo_in_ok (xl X) C.ig c2) ml_X6_64 mb_X6_in ms_X6_in rfl rfl (Nat.le_of_ble_eq_true rfl) (by decide) (by decide) dX6_isPart_4 ?_
  obtain ⟨q4, h⟩ := hG h
  obtain ⟨rfl, rfl⟩ := hR h
  exact v_zret C hQ q4 dX6_isPart_7
set_option maxHeartbeats 4000000 in
set_option maxRecDepth 100000 in
theorem Mo_of_ok (l : Launch) {G : GG} (hI : IG G) {M M' : Mem} {v1 : Int32} {v2 : Int32} {v3 : Int32} {r : Int32} (h : Mo_of v1 v2 v3 M = some (r, M')) : Sp l G yX6_of cX6_of 4 (some .int) 0 0 [.ref (G.2.1 32), .int v1, .int v2, .int v3] M (some (.int r)) M' := by
  unfold Mo_of at h
  refine sp_intro [some (.ref (G.2.1 32)), some (.int v1), some (.int v2), some (.int v3)] hI (by decide) (Nat.le_of_ble_eq_true rfl) (fun _ hq => hq) (fun X _ C hQ => ?_)
  refine v_aload_n C dX6_of_0 rfl ?_
  refine v_getr (j := 33) C fk_X6_7 rfl dX6_of_1 ?_
  refine v_iconst (v := 3) C dX6_of_4 (by decide) ?_
  refine v_bipush (v := 16) C dX6_of_5 (by decide) ?_
  refine v_iload_n C dX6_of_7 rfl ?_
  refine v_imul C dX6_of_8 ?_
  refine v_iadd C dX6_of_9 ?_
  refine v_iconst (v := 4) C dX6_of_10 (by decide) ?_
  refine v_iload_n C dX6_of_11 rfl ?_
  refine v_imul C dX6_of_12 ?_
  refine v_iadd C dX6_of_13 ?_
  refine v_iload_n C dX6_of_14 rfl ?_
  refine v_iadd C dX6_of_15 ?_
  obtain ⟨q1, h⟩ := hG h
  refine v_iald C rfl q1 dX6_of_16 ?_
  obtain ⟨rfl, rfl⟩ := hR h
  exact v_iret C hQ dX6_of_17
set_option maxHeartbeats 4000000 in
set_option maxRecDepth 100000 in
theorem Mo_becomes_ok (l : Launch) {G : GG} (hI : IG G) {M M' : Mem} {v1 : Int32} {v2 : Int32} {v3 : Int32} {v4 : Int32} (h : Mo_becomes v1 v2 v3 v4 M = some M') : Sp l G yX6_becomes cX6_becomes 5 none 0 0 [.ref (G.2.1 32), .int v1, .int v2, .int v3, .int v4] M none M' := by
  unfold Mo_becomes at h
  refine sp_intro [some (.ref (G.2.1 32)), some (.int v1), some (.int v2), some (.int v3), some (.int v4)] hI (by decide) (Nat.le_of_ble_eq_true rfl) (fun _ hq => hq) (fun X _ C hQ => ?_)
  refine v_aload_n C dX6_becomes_0 rfl ?_
  refine v_getr (j := 33) C fk_X6_7 rfl dX6_becomes_1 ?_
  refine v_iconst (v := 3) C dX6_becomes_4 (by decide) ?_
  refine v_bipush (v := 16) C dX6_becomes_5 (by decide) ?_
  refine v_iload_n C dX6_becomes_7 rfl ?_
  refine v_imul C dX6_becomes_8 ?_
  refine v_iadd C dX6_becomes_9 ?_
  refine v_iconst (v := 4) C dX6_becomes_10 (by decide) ?_
  refine v_iload_n C dX6_becomes_11 rfl ?_
  refine v_imul C dX6_becomes_12 ?_
  refine v_iadd C dX6_becomes_13 ?_
  refine v_iload_n C dX6_becomes_14 rfl ?_
  refine v_iadd C dX6_becomes_15 ?_
  refine v_iload C dX6_becomes_16 rfl ?_
  obtain ⟨q1, h⟩ := hG h
  refine v_iast C rfl q1 dX6_becomes_18 ?_
  obtain rfl := hRv h
  exact v_vret C hQ dX6_becomes_19
set_option maxHeartbeats 4000000 in
set_option maxRecDepth 100000 in
theorem Mo_rowsNow_ok (l : Launch) {G : GG} (hI : IG G) {M M' : Mem}  {r : Int32} (h : Mo_rowsNow M = some (r, M')) : Sp l G yX6_rowsNow cX6_rowsNow 1 (some .int) 0 0 [.ref (G.2.1 32)] M (some (.int r)) M' := by
  unfold Mo_rowsNow at h
  refine sp_intro [some (.ref (G.2.1 32))] hI (by decide) (Nat.le_of_ble_eq_true rfl) (fun _ hq => hq) (fun X _ C hQ => ?_)
  refine v_aload_n C dX6_rowsNow_0 rfl ?_
  refine v_geti C fk_X6_147 rfl dX6_rowsNow_1 ?_
  refine v_if_eq (tgt := 16) C dX6_rowsNow_4 (by decide) (fun q => ?_) (fun q => ?_)
  · replace h := hT q h
    refine v_aload_n C dX6_rowsNow_16 rfl ?_
    refine v_getr (j := 33) C fk_X6_7 rfl dX6_rowsNow_17 ?_
    refine v_iconst (v := 1) C dX6_rowsNow_20 (by decide) ?_
    refine v_iald_k (k := 1) (n := 35) C rfl rfl (by decide) dX6_rowsNow_21 ?_
    obtain ⟨rfl, rfl⟩ := hR h
    exact v_iret C hQ dX6_rowsNow_22
  · replace h := hF q h
    refine v_aload_n C dX6_rowsNow_7 rfl ?_
    refine v_getr (j := 33) C fk_X6_7 rfl dX6_rowsNow_8 ?_
    refine v_iconst (v := 2) C dX6_rowsNow_11 (by decide) ?_
    refine v_iald_k (k := 2) (n := 35) C rfl rfl (by decide) dX6_rowsNow_12 ?_
    refine v_goto (tgt := 22) C dX6_rowsNow_13 (by decide) ?_
    obtain ⟨rfl, rfl⟩ := hR h
    exact v_iret C hQ dX6_rowsNow_22
set_option maxHeartbeats 4000000 in
set_option maxRecDepth 100000 in
theorem Mo_columnsNow_ok (l : Launch) {G : GG} (hI : IG G) {M M' : Mem}  {r : Int32} (h : Mo_columnsNow M = some (r, M')) : Sp l G yX6_columnsNow cX6_columnsNow 1 (some .int) 0 0 [.ref (G.2.1 32)] M (some (.int r)) M' := by
  unfold Mo_columnsNow at h
  refine sp_intro [some (.ref (G.2.1 32))] hI (by decide) (Nat.le_of_ble_eq_true rfl) (fun _ hq => hq) (fun X _ C hQ => ?_)
  refine v_aload_n C dX6_columnsNow_0 rfl ?_
  refine v_geti C fk_X6_147 rfl dX6_columnsNow_1 ?_
  refine v_if_eq (tgt := 16) C dX6_columnsNow_4 (by decide) (fun q => ?_) (fun q => ?_)
  · replace h := hT q h
    refine v_aload_n C dX6_columnsNow_16 rfl ?_
    refine v_getr (j := 33) C fk_X6_7 rfl dX6_columnsNow_17 ?_
    refine v_iconst (v := 2) C dX6_columnsNow_20 (by decide) ?_
    refine v_iald_k (k := 2) (n := 35) C rfl rfl (by decide) dX6_columnsNow_21 ?_
    obtain ⟨rfl, rfl⟩ := hR h
    exact v_iret C hQ dX6_columnsNow_22
  · replace h := hF q h
    refine v_aload_n C dX6_columnsNow_7 rfl ?_
    refine v_getr (j := 33) C fk_X6_7 rfl dX6_columnsNow_8 ?_
    refine v_iconst (v := 1) C dX6_columnsNow_11 (by decide) ?_
    refine v_iald_k (k := 1) (n := 35) C rfl rfl (by decide) dX6_columnsNow_12 ?_
    refine v_goto (tgt := 22) C dX6_columnsNow_13 (by decide) ?_
    obtain ⟨rfl, rfl⟩ := hR h
    exact v_iret C hQ dX6_columnsNow_22
set_option maxHeartbeats 4000000 in
set_option maxRecDepth 100000 in
theorem Mo_entry_ok (l : Launch) {G : GG} (hI : IG G) {M M' : Mem} {v1 : Int32} {v2 : Int32} {v3 : Int32} {r : Int32} (h : Mo_entry v1 v2 v3 M = some (r, M')) : Sp l G yX6_entry cX6_entry 4 (some .int) 1 23 [.ref (G.2.1 32), .int v1, .int v2, .int v3] M (some (.int r)) M' := by
  unfold Mo_entry at h
  refine sp_intro [some (.ref (G.2.1 32)), some (.int v1), some (.int v2), some (.int v3)] hI (by decide) (Nat.le_of_ble_eq_true rfl) (fun _ hq => hq) (fun X _ C hQ => ?_)
  refine v_aload_n C dX6_entry_0 rfl ?_
  refine v_geti C fk_X6_147 rfl dX6_entry_1 ?_
  refine v_if_eq (tgt := 17) C dX6_entry_4 (by decide) (fun q => ?_) (fun q => ?_)
  · replace h := hT q h
    refine v_aload_n C dX6_entry_17 rfl ?_
    refine v_iload_n C dX6_entry_18 rfl ?_
    refine v_iload_n C dX6_entry_19 rfl ?_
    refine v_iload_n C dX6_entry_20 rfl ?_
    obtain ⟨r3, M1, c2, h⟩ := hB h
    refine v_callVi C (Mo_of_ok (xl X) C.ig c2) ml_X6_150 mb_X6_of mv_X6_of rfl rfl rfl (Nat.le_of_ble_eq_true rfl) (by decide) (by decide) dX6_entry_21 ?_
    obtain ⟨rfl, rfl⟩ := hR h
    exact v_iret C hQ dX6_entry_24
  · replace h := hF q h
    refine v_aload_n C dX6_entry_7 rfl ?_
    refine v_iload_n C dX6_entry_8 rfl ?_
    refine v_iload_n C dX6_entry_9 rfl ?_
    refine v_iload_n C dX6_entry_10 rfl ?_
    obtain ⟨r6, M4, c5, h⟩ := hB h
    refine v_callVi C (Mo_of_ok (xl X) C.ig c5) ml_X6_150 mb_X6_of mv_X6_of rfl rfl rfl (Nat.le_of_ble_eq_true rfl) (by decide) (by decide) dX6_entry_11 ?_
    refine v_goto (tgt := 24) C dX6_entry_14 (by decide) ?_
    obtain ⟨rfl, rfl⟩ := hR h
    exact v_iret C hQ dX6_entry_24
set_option maxHeartbeats 4000000 in
set_option maxRecDepth 100000 in
theorem Mo_modulo_ok (l : Launch) {G : GG} (hI : IG G) {M M' : Mem} {v1 : Int32} {r : Int32} (h : Mo_modulo v1 M = some (r, M')) : Sp l G yX6_modulo cX6_modulo 2 (some .int) 0 0 [.ref (G.2.1 32), .int v1] M (some (.int r)) M' := by
  unfold Mo_modulo at h
  refine sp_intro [some (.ref (G.2.1 32)), some (.int v1)] hI (by decide) (Nat.le_of_ble_eq_true rfl) (fun _ hq => hq) (fun X _ C hQ => ?_)
  refine v_iload_n C dX6_modulo_0 rfl ?_
  refine v_aload_n C dX6_modulo_1 rfl ?_
  refine v_getr (j := 33) C fk_X6_7 rfl dX6_modulo_2 ?_
  refine v_iconst (v := 0) C dX6_modulo_5 (by decide) ?_
  refine v_iald_k (k := 0) (n := 35) C rfl rfl (by decide) dX6_modulo_6 ?_
  obtain ⟨q1, h⟩ := hN h
  refine v_irem C dX6_modulo_7 q1 ?_
  refine v_aload_n C dX6_modulo_8 rfl ?_
  refine v_getr (j := 33) C fk_X6_7 rfl dX6_modulo_9 ?_
  refine v_iconst (v := 0) C dX6_modulo_12 (by decide) ?_
  refine v_iald_k (k := 0) (n := 35) C rfl rfl (by decide) dX6_modulo_13 ?_
  refine v_iadd C dX6_modulo_14 ?_
  refine v_aload_n C dX6_modulo_15 rfl ?_
  refine v_getr (j := 33) C fk_X6_7 rfl dX6_modulo_16 ?_
  refine v_iconst (v := 0) C dX6_modulo_19 (by decide) ?_
  refine v_iald_k (k := 0) (n := 35) C rfl rfl (by decide) dX6_modulo_20 ?_
  obtain ⟨q2, h⟩ := hN h
  refine v_irem C dX6_modulo_21 q2 ?_
  obtain ⟨rfl, rfl⟩ := hR h
  exact v_iret C hQ dX6_modulo_22
set_option maxHeartbeats 4000000 in
set_option maxRecDepth 100000 in
theorem Mo_startsLarge_L22_ok {X : XX} {G : GG} (C : Cx X G cX6_startsLarge 4 RX6 1 20 none) {M' : Mem} (hQ : Rt X G none M')   : ∀ (n : Nat) (v3 : Int32) (M : Mem), Mo_startsLarge_L22 n v3 M = some M' → V X G 4 M 22 [some (.ref (G.2.1 32)), none, none, some (.int v3)] [] := by
  intro n
  induction n with
  | zero =>
    intro v3 M h
    simp [Mo_startsLarge_L22] at h
  | succ n ih =>
    intro v3 M h
    rw [Mo_startsLarge_L22] at h
    refine v_iload_n C dX6_startsLarge_22 rfl ?_
    refine v_sipush (v := 504) C dX6_startsLarge_23 (by decide) ?_
    refine v_icmp_ge (tgt := 42) C dX6_startsLarge_26 (by decide) (fun q => ?_) (fun q => ?_)
    · replace h := hT q h
      obtain rfl := hRv h
      exact v_vret C hQ dX6_startsLarge_42
    · replace h := hF q h
      refine v_aload_n C dX6_startsLarge_29 rfl ?_
      refine v_getr (j := 38) C fk_X6_26 rfl dX6_startsLarge_30 ?_
      refine v_iload_n C dX6_startsLarge_33 rfl ?_
      refine v_iconst (v := 0) C dX6_startsLarge_34 (by decide) ?_
      obtain ⟨q1, h⟩ := hG h
      refine v_iast C rfl q1 dX6_startsLarge_35 ?_
      refine v_iinc (v := 1) C dX6_startsLarge_36 rfl (by decide) (by decide) rfl ?_
      refine v_goto (tgt := 22) C dX6_startsLarge_39 (by decide) ?_
      exact v_weak [true, false, false, true] (ih _ _ h)
set_option maxHeartbeats 4000000 in
set_option maxRecDepth 100000 in
theorem Mo_startsLarge_ok (l : Launch) {G : GG} (hI : IG G) {M M' : Mem} {v1 : Int32} {v2 : Int32} (h : Mo_startsLarge v1 v2 M = some M') : Sp l G yX6_startsLarge cX6_startsLarge 4 none 1 20 [.ref (G.2.1 32), .int v1, .int v2] M none M' := by
  unfold Mo_startsLarge at h
  refine sp_intro [some (.ref (G.2.1 32)), some (.int v1), some (.int v2), none] hI (by decide) (Nat.le_of_ble_eq_true rfl) (fun _ hq => hq) (fun X _ C hQ => ?_)
  refine v_aload_n C dX6_startsLarge_0 rfl ?_
  refine v_iload_n C dX6_startsLarge_1 rfl ?_
  refine v_aload_n C dX6_startsLarge_2 rfl ?_
  obtain ⟨r3, M1, c2, h⟩ := hB h
  refine v_callVi C (Mo_rowsNow_ok (xl X) C.ig c2) ml_X6_154 mb_X6_rowsNow mv_X6_rowsNow rfl rfl rfl (Nat.le_of_ble_eq_true rfl) (by decide) (by decide) dX6_startsLarge_3 ?_
  refine v_imul C dX6_startsLarge_6 ?_
  refine v_puti C fk_X6_157 rfl dX6_startsLarge_7 ?_
  refine v_aload_n C dX6_startsLarge_10 rfl ?_
  refine v_iload_n C dX6_startsLarge_11 rfl ?_
  refine v_aload_n C dX6_startsLarge_12 rfl ?_
  obtain ⟨r6, M4, c5, h⟩ := hB h
  refine v_callVi C (Mo_columnsNow_ok (xl X) C.ig c5) ml_X6_160 mb_X6_columnsNow mv_X6_columnsNow rfl rfl rfl (Nat.le_of_ble_eq_true rfl) (by decide) (by decide) dX6_startsLarge_13 ?_
  refine v_imul C dX6_startsLarge_16 ?_
  refine v_puti C fk_X6_163 rfl dX6_startsLarge_17 ?_
  refine v_iconst (v := 0) C dX6_startsLarge_20 (by decide) ?_
  refine v_istore_n C dX6_startsLarge_21 (by decide) rfl ?_
  exact v_weak [true, false, false, true] (Mo_startsLarge_L22_ok C hQ _ _ _ h)
set_option maxHeartbeats 4000000 in
set_option maxRecDepth 100000 in
theorem Mo_adds_L15_ok {X : XX} {G : GG} (C : Cx X G cX6_adds 8 RX6 2 46 none) {M' : Mem} (hQ : Rt X G none M') {k3 : Int32 → Int32 → Int32 → Int32 → Int32 → Mem → Option Mem} (H3 : ∀ (v1 : Int32) (v2 : Int32) (v3 : Int32) (v4 : Int32) (v5 : Int32) (M : Mem), k3 v1 v2 v3 v4 v5 M = some M' → V X G 8 M 3 [some (.ref (G.2.1 32)), some (.int v1), some (.int v2), some (.int v3), some (.int v4), some (.int v5), none, none] []) : ∀ (n : Nat) (v1 : Int32) (v2 : Int32) (v3 : Int32) (v4 : Int32) (v5 : Int32) (v6 : Int32) (M : Mem), Mo_adds_L15 k3 n v1 v2 v3 v4 v5 v6 M = some M' → V X G 8 M 15 [some (.ref (G.2.1 32)), some (.int v1), some (.int v2), some (.int v3), some (.int v4), some (.int v5), some (.int v6), none] [] := by
  intro n
  induction n with
  | zero =>
    intro v1 v2 v3 v4 v5 v6 M h
    simp [Mo_adds_L15] at h
  | succ n ih =>
    intro v1 v2 v3 v4 v5 v6 M h
    rw [Mo_adds_L15] at h
    refine v_iload C dX6_adds_15 rfl ?_
    refine v_aload_n C dX6_adds_17 rfl ?_
    obtain ⟨r3, M1, c2, h⟩ := hB h
    refine v_callVi C (Mo_columnsNow_ok (xl X) C.ig c2) ml_X6_160 mb_X6_columnsNow mv_X6_columnsNow rfl rfl rfl (Nat.le_of_ble_eq_true rfl) (by decide) (by decide) dX6_adds_18 ?_
    refine v_icmp_ge (tgt := 97) C dX6_adds_21 (by decide) (fun q => ?_) (fun q => ?_)
    · replace h := hT q h
      refine v_iinc (v := 1) C dX6_adds_97 rfl (by decide) (by decide) rfl ?_
      refine v_goto (tgt := 3) C dX6_adds_100 (by decide) ?_
      exact v_weak [true, true, true, true, true, true, false, false] (H3 _ _ _ _ _ _ h)
    · replace h := hF q h
      refine v_bipush (v := 21) C dX6_adds_24 (by decide) ?_
      refine v_iload_n C dX6_adds_26 rfl ?_
      refine v_aload_n C dX6_adds_27 rfl ?_
      obtain ⟨r6, M4, c5, h⟩ := hB h
      refine v_callVi C (Mo_rowsNow_ok (xl X) C.ig c5) ml_X6_154 mb_X6_rowsNow mv_X6_rowsNow rfl rfl rfl (Nat.le_of_ble_eq_true rfl) (by decide) (by decide) dX6_adds_28 ?_
      refine v_imul C dX6_adds_31 ?_
      refine v_iload C dX6_adds_32 rfl ?_
      refine v_iadd C dX6_adds_34 ?_
      refine v_imul C dX6_adds_35 ?_
      refine v_iload_n C dX6_adds_36 rfl ?_
      refine v_aload_n C dX6_adds_37 rfl ?_
      obtain ⟨r9, M7, c8, h⟩ := hB h
      refine v_callVi C (Mo_columnsNow_ok (xl X) C.ig c8) ml_X6_160 mb_X6_columnsNow mv_X6_columnsNow rfl rfl rfl (Nat.le_of_ble_eq_true rfl) (by decide) (by decide) dX6_adds_38 ?_
      refine v_imul C dX6_adds_41 ?_
      refine v_iadd C dX6_adds_42 ?_
      refine v_iload C dX6_adds_43 rfl ?_
      refine v_iadd C dX6_adds_45 ?_
      refine v_istore C dX6_adds_46 (by decide) rfl ?_
      refine v_aload_n C dX6_adds_48 rfl ?_
      refine v_getr (j := 38) C fk_X6_26 rfl dX6_adds_49 ?_
      refine v_iload C dX6_adds_52 rfl ?_
      refine v_aload_n C dX6_adds_54 rfl ?_
      refine v_aload_n C dX6_adds_55 rfl ?_
      refine v_getr (j := 38) C fk_X6_26 rfl dX6_adds_56 ?_
      refine v_iload C dX6_adds_59 rfl ?_
      obtain ⟨q10, h⟩ := hG h
      refine v_iald C rfl q10 dX6_adds_61 ?_
      refine v_iload_n C dX6_adds_62 rfl ?_
      refine v_aload_n C dX6_adds_63 rfl ?_
      refine v_iconst (v := 0) C dX6_adds_64 (by decide) ?_
      refine v_iload C dX6_adds_65 rfl ?_
      refine v_iload C dX6_adds_67 rfl ?_
      obtain ⟨r13, M11, c12, h⟩ := hB h
      refine v_callVi C (Mo_entry_ok (xl X) C.ig c12) ml_X6_166 mb_X6_entry mv_X6_entry rfl rfl rfl (Nat.le_of_ble_eq_true rfl) (by decide) (by decide) dX6_adds_69 ?_
      refine v_imul C dX6_adds_72 ?_
      refine v_iadd C dX6_adds_73 ?_
      refine v_iload C dX6_adds_74 rfl ?_
      refine v_aload_n C dX6_adds_76 rfl ?_
      refine v_iconst (v := 1) C dX6_adds_77 (by decide) ?_
      refine v_iload C dX6_adds_78 rfl ?_
      refine v_iload C dX6_adds_80 rfl ?_
      obtain ⟨r16, M14, c15, h⟩ := hB h
      refine v_callVi C (Mo_entry_ok (xl X) C.ig c15) ml_X6_166 mb_X6_entry mv_X6_entry rfl rfl rfl (Nat.le_of_ble_eq_true rfl) (by decide) (by decide) dX6_adds_82 ?_
      refine v_imul C dX6_adds_85 ?_
      refine v_iadd C dX6_adds_86 ?_
      obtain ⟨r19, M17, c18, h⟩ := hB h
      refine v_callVi C (Mo_modulo_ok (xl X) C.ig c18) ml_X6_169 mb_X6_modulo mv_X6_modulo rfl rfl rfl (Nat.le_of_ble_eq_true rfl) (by decide) (by decide) dX6_adds_87 ?_
      obtain ⟨q20, h⟩ := hG h
      refine v_iast C rfl q20 dX6_adds_90 ?_
      refine v_iinc (v := 1) C dX6_adds_91 rfl (by decide) (by decide) rfl ?_
      refine v_goto (tgt := 15) C dX6_adds_94 (by decide) ?_
      exact v_weak [true, true, true, true, true, true, true, false] (ih _ _ _ _ _ _ _ h)
set_option maxHeartbeats 4000000 in
set_option maxRecDepth 100000 in
theorem Mo_adds_L3_ok {X : XX} {G : GG} (C : Cx X G cX6_adds 8 RX6 2 46 none) {M' : Mem} (hQ : Rt X G none M')   : ∀ (n : Nat) (v1 : Int32) (v2 : Int32) (v3 : Int32) (v4 : Int32) (v5 : Int32) (M : Mem), Mo_adds_L3 n v1 v2 v3 v4 v5 M = some M' → V X G 8 M 3 [some (.ref (G.2.1 32)), some (.int v1), some (.int v2), some (.int v3), some (.int v4), some (.int v5), none, none] [] := by
  intro n
  induction n with
  | zero =>
    intro v1 v2 v3 v4 v5 M h
    simp [Mo_adds_L3] at h
  | succ n ih =>
    intro v1 v2 v3 v4 v5 M h
    rw [Mo_adds_L3] at h
    refine v_iload C dX6_adds_3 rfl ?_
    refine v_aload_n C dX6_adds_5 rfl ?_
    obtain ⟨r3, M1, c2, h⟩ := hB h
    refine v_callVi C (Mo_rowsNow_ok (xl X) C.ig c2) ml_X6_154 mb_X6_rowsNow mv_X6_rowsNow rfl rfl rfl (Nat.le_of_ble_eq_true rfl) (by decide) (by decide) dX6_adds_6 ?_
    refine v_icmp_ge (tgt := 103) C dX6_adds_9 (by decide) (fun q => ?_) (fun q => ?_)
    · replace h := hT q h
      obtain rfl := hRv h
      exact v_vret C hQ dX6_adds_103
    · replace h := hF q h
      refine v_iconst (v := 0) C dX6_adds_12 (by decide) ?_
      refine v_istore C dX6_adds_13 (by decide) rfl ?_
      exact v_weak [true, true, true, true, true, true, true, false] (Mo_adds_L15_ok C hQ ih _ _ _ _ _ _ _ _ h)
set_option maxHeartbeats 4000000 in
set_option maxRecDepth 100000 in
theorem Mo_adds_ok (l : Launch) {G : GG} (hI : IG G) {M M' : Mem} {v1 : Int32} {v2 : Int32} {v3 : Int32} {v4 : Int32} (h : Mo_adds v1 v2 v3 v4 M = some M') : Sp l G yX6_adds cX6_adds 8 none 2 46 [.ref (G.2.1 32), .int v1, .int v2, .int v3, .int v4] M none M' := by
  unfold Mo_adds at h
  refine sp_intro [some (.ref (G.2.1 32)), some (.int v1), some (.int v2), some (.int v3), some (.int v4), none, none, none] hI (by decide) (Nat.le_of_ble_eq_true rfl) (fun _ hq => hq) (fun X _ C hQ => ?_)
  refine v_iconst (v := 0) C dX6_adds_0 (by decide) ?_
  refine v_istore C dX6_adds_1 (by decide) rfl ?_
  exact v_weak [true, true, true, true, true, true, false, false] (Mo_adds_L3_ok C hQ _ _ _ _ _ _ _ h)
set_option maxHeartbeats 4000000 in
set_option maxRecDepth 100000 in
theorem Mo_inverse_L2_ok {X : XX} {G : GG} (C : Cx X G cX6_inverse 3 RX6 0 0 (some .int)) {r : Int32} {M' : Mem} (hQ : Rt X G (some (.int r)) M')   : ∀ (n : Nat) (v1 : Int32) (v2 : Int32) (M : Mem), Mo_inverse_L2 n v1 v2 M = some (r, M') → V X G 3 M 2 [some (.ref (G.2.1 32)), some (.int v1), some (.int v2)] [] := by
  intro n
  induction n with
  | zero =>
    intro v1 v2 M h
    simp [Mo_inverse_L2] at h
  | succ n ih =>
    intro v1 v2 M h
    rw [Mo_inverse_L2] at h
    refine v_iload_n C dX6_inverse_2 rfl ?_
    refine v_iload_n C dX6_inverse_3 rfl ?_
    refine v_imul C dX6_inverse_4 ?_
    refine v_aload_n C dX6_inverse_5 rfl ?_
    refine v_getr (j := 33) C fk_X6_7 rfl dX6_inverse_6 ?_
    refine v_iconst (v := 0) C dX6_inverse_9 (by decide) ?_
    refine v_iald_k (k := 0) (n := 35) C rfl rfl (by decide) dX6_inverse_10 ?_
    obtain ⟨q1, h⟩ := hN h
    refine v_irem C dX6_inverse_11 q1 ?_
    refine v_iconst (v := 1) C dX6_inverse_12 (by decide) ?_
    refine v_icmp_eq (tgt := 22) C dX6_inverse_13 (by decide) (fun q => ?_) (fun q => ?_)
    · replace h := hT q h
      refine v_iload_n C dX6_inverse_22 rfl ?_
      obtain ⟨rfl, rfl⟩ := hR h
      exact v_iret C hQ dX6_inverse_23
    · replace h := hF q h
      refine v_iinc (v := 1) C dX6_inverse_16 rfl (by decide) (by decide) rfl ?_
      refine v_goto (tgt := 2) C dX6_inverse_19 (by decide) ?_
      exact v_weak [true, true, true] (ih _ _ _ h)
set_option maxHeartbeats 4000000 in
set_option maxRecDepth 100000 in
theorem Mo_inverse_ok (l : Launch) {G : GG} (hI : IG G) {M M' : Mem} {v1 : Int32} {r : Int32} (h : Mo_inverse v1 M = some (r, M')) : Sp l G yX6_inverse cX6_inverse 3 (some .int) 0 0 [.ref (G.2.1 32), .int v1] M (some (.int r)) M' := by
  unfold Mo_inverse at h
  refine sp_intro [some (.ref (G.2.1 32)), some (.int v1), none] hI (by decide) (Nat.le_of_ble_eq_true rfl) (fun _ hq => hq) (fun X _ C hQ => ?_)
  refine v_iconst (v := 1) C dX6_inverse_0 (by decide) ?_
  refine v_istore_n C dX6_inverse_1 (by decide) rfl ?_
  exact v_weak [true, true, true] (Mo_inverse_L2_ok C hQ _ _ _ _ h)
set_option maxHeartbeats 4000000 in
set_option maxRecDepth 100000 in
theorem Mo_largeSwaps_L2_ok {X : XX} {G : GG} (C : Cx X G cX6_largeSwaps 5 RX6 0 0 none) {M' : Mem} (hQ : Rt X G none M')   : ∀ (n : Nat) (v1 : Int32) (v2 : Int32) (v3 : Int32) (M : Mem), Mo_largeSwaps_L2 n v1 v2 v3 M = some M' → V X G 5 M 2 [some (.ref (G.2.1 32)), some (.int v1), some (.int v2), some (.int v3), none] [] := by
  intro n
  induction n with
  | zero =>
    intro v1 v2 v3 M h
    simp [Mo_largeSwaps_L2] at h
  | succ n ih =>
    intro v1 v2 v3 M h
    rw [Mo_largeSwaps_L2] at h
    refine v_iload_n C dX6_largeSwaps_2 rfl ?_
    refine v_bipush (v := 21) C dX6_largeSwaps_3 (by decide) ?_
    refine v_icmp_ge (tgt := 62) C dX6_largeSwaps_5 (by decide) (fun q => ?_) (fun q => ?_)
    · replace h := hT q h
      obtain rfl := hRv h
      exact v_vret C hQ dX6_largeSwaps_62
    · replace h := hF q h
      refine v_aload_n C dX6_largeSwaps_8 rfl ?_
      refine v_getr (j := 38) C fk_X6_26 rfl dX6_largeSwaps_9 ?_
      refine v_bipush (v := 21) C dX6_largeSwaps_12 (by decide) ?_
      refine v_iload_n C dX6_largeSwaps_14 rfl ?_
      refine v_imul C dX6_largeSwaps_15 ?_
      refine v_iload_n C dX6_largeSwaps_16 rfl ?_
      refine v_iadd C dX6_largeSwaps_17 ?_
      obtain ⟨q1, h⟩ := hG h
      refine v_iald C rfl q1 dX6_largeSwaps_18 ?_
      refine v_istore C dX6_largeSwaps_19 (by decide) rfl ?_
      refine v_aload_n C dX6_largeSwaps_21 rfl ?_
      refine v_getr (j := 38) C fk_X6_26 rfl dX6_largeSwaps_22 ?_
      refine v_bipush (v := 21) C dX6_largeSwaps_25 (by decide) ?_
      refine v_iload_n C dX6_largeSwaps_27 rfl ?_
      refine v_imul C dX6_largeSwaps_28 ?_
      refine v_iload_n C dX6_largeSwaps_29 rfl ?_
      refine v_iadd C dX6_largeSwaps_30 ?_
      refine v_aload_n C dX6_largeSwaps_31 rfl ?_
      refine v_getr (j := 38) C fk_X6_26 rfl dX6_largeSwaps_32 ?_
      refine v_bipush (v := 21) C dX6_largeSwaps_35 (by decide) ?_
      refine v_iload_n C dX6_largeSwaps_37 rfl ?_
      refine v_imul C dX6_largeSwaps_38 ?_
      refine v_iload_n C dX6_largeSwaps_39 rfl ?_
      refine v_iadd C dX6_largeSwaps_40 ?_
      obtain ⟨q2, h⟩ := hG h
      refine v_iald C rfl q2 dX6_largeSwaps_41 ?_
      obtain ⟨q3, h⟩ := hG h
      refine v_iast C rfl q3 dX6_largeSwaps_42 ?_
      refine v_aload_n C dX6_largeSwaps_43 rfl ?_
      refine v_getr (j := 38) C fk_X6_26 rfl dX6_largeSwaps_44 ?_
      refine v_bipush (v := 21) C dX6_largeSwaps_47 (by decide) ?_
      refine v_iload_n C dX6_largeSwaps_49 rfl ?_
      refine v_imul C dX6_largeSwaps_50 ?_
      refine v_iload_n C dX6_largeSwaps_51 rfl ?_
      refine v_iadd C dX6_largeSwaps_52 ?_
      refine v_iload C dX6_largeSwaps_53 rfl ?_
      obtain ⟨q4, h⟩ := hG h
      refine v_iast C rfl q4 dX6_largeSwaps_55 ?_
      refine v_iinc (v := 1) C dX6_largeSwaps_56 rfl (by decide) (by decide) rfl ?_
      refine v_goto (tgt := 2) C dX6_largeSwaps_59 (by decide) ?_
      exact v_weak [true, true, true, true, false] (ih _ _ _ _ h)
set_option maxHeartbeats 4000000 in
set_option maxRecDepth 100000 in
theorem Mo_largeSwaps_ok (l : Launch) {G : GG} (hI : IG G) {M M' : Mem} {v1 : Int32} {v2 : Int32} (h : Mo_largeSwaps v1 v2 M = some M') : Sp l G yX6_largeSwaps cX6_largeSwaps 5 none 0 0 [.ref (G.2.1 32), .int v1, .int v2] M none M' := by
  unfold Mo_largeSwaps at h
  refine sp_intro [some (.ref (G.2.1 32)), some (.int v1), some (.int v2), none, none] hI (by decide) (Nat.le_of_ble_eq_true rfl) (fun _ hq => hq) (fun X _ C hQ => ?_)
  refine v_iconst (v := 0) C dX6_largeSwaps_0 (by decide) ?_
  refine v_istore_n C dX6_largeSwaps_1 (by decide) rfl ?_
  exact v_weak [true, true, true, true, false] (Mo_largeSwaps_L2_ok C hQ _ _ _ _ _ h)
set_option maxHeartbeats 4000000 in
set_option maxRecDepth 100000 in
theorem Mo_largeLoses_L3_ok {X : XX} {G : GG} (C : Cx X G cX6_largeLoses 5 RX6 1 21 none) {M' : Mem} (hQ : Rt X G none M')   : ∀ (n : Nat) (v1 : Int32) (v2 : Int32) (v3 : Int32) (v4 : Int32) (M : Mem), Mo_largeLoses_L3 n v1 v2 v3 v4 M = some M' → V X G 5 M 3 [some (.ref (G.2.1 32)), some (.int v1), some (.int v2), some (.int v3), some (.int v4)] [] := by
  intro n
  induction n with
  | zero =>
    intro v1 v2 v3 v4 M h
    simp [Mo_largeLoses_L3] at h
  | succ n ih =>
    intro v1 v2 v3 v4 M h
    rw [Mo_largeLoses_L3] at h
    refine v_iload C dX6_largeLoses_3 rfl ?_
    refine v_bipush (v := 21) C dX6_largeLoses_5 (by decide) ?_
    refine v_icmp_ge (tgt := 59) C dX6_largeLoses_7 (by decide) (fun q => ?_) (fun q => ?_)
    · replace h := hT q h
      obtain rfl := hRv h
      exact v_vret C hQ dX6_largeLoses_59
    · replace h := hF q h
      refine v_aload_n C dX6_largeLoses_10 rfl ?_
      refine v_getr (j := 38) C fk_X6_26 rfl dX6_largeLoses_11 ?_
      refine v_bipush (v := 21) C dX6_largeLoses_14 (by decide) ?_
      refine v_iload_n C dX6_largeLoses_16 rfl ?_
      refine v_imul C dX6_largeLoses_17 ?_
      refine v_iload C dX6_largeLoses_18 rfl ?_
      refine v_iadd C dX6_largeLoses_20 ?_
      refine v_aload_n C dX6_largeLoses_21 rfl ?_
      refine v_aload_n C dX6_largeLoses_22 rfl ?_
      refine v_getr (j := 38) C fk_X6_26 rfl dX6_largeLoses_23 ?_
      refine v_bipush (v := 21) C dX6_largeLoses_26 (by decide) ?_
      refine v_iload_n C dX6_largeLoses_28 rfl ?_
      refine v_imul C dX6_largeLoses_29 ?_
      refine v_iload C dX6_largeLoses_30 rfl ?_
      refine v_iadd C dX6_largeLoses_32 ?_
      obtain ⟨q1, h⟩ := hG h
      refine v_iald C rfl q1 dX6_largeLoses_33 ?_
      refine v_iload_n C dX6_largeLoses_34 rfl ?_
      refine v_aload_n C dX6_largeLoses_35 rfl ?_
      refine v_getr (j := 38) C fk_X6_26 rfl dX6_largeLoses_36 ?_
      refine v_bipush (v := 21) C dX6_largeLoses_39 (by decide) ?_
      refine v_iload_n C dX6_largeLoses_41 rfl ?_
      refine v_imul C dX6_largeLoses_42 ?_
      refine v_iload C dX6_largeLoses_43 rfl ?_
      refine v_iadd C dX6_largeLoses_45 ?_
      obtain ⟨q2, h⟩ := hG h
      refine v_iald C rfl q2 dX6_largeLoses_46 ?_
      refine v_imul C dX6_largeLoses_47 ?_
      refine v_isub C dX6_largeLoses_48 ?_
      obtain ⟨r5, M3, c4, h⟩ := hB h
      refine v_callVi C (Mo_modulo_ok (xl X) C.ig c4) ml_X6_169 mb_X6_modulo mv_X6_modulo rfl rfl rfl (Nat.le_of_ble_eq_true rfl) (by decide) (by decide) dX6_largeLoses_49 ?_
      obtain ⟨q6, h⟩ := hG h
      refine v_iast C rfl q6 dX6_largeLoses_52 ?_
      refine v_iinc (v := 1) C dX6_largeLoses_53 rfl (by decide) (by decide) rfl ?_
      refine v_goto (tgt := 3) C dX6_largeLoses_56 (by decide) ?_
      exact v_weak [true, true, true, true, true] (ih _ _ _ _ _ h)
set_option maxHeartbeats 4000000 in
set_option maxRecDepth 100000 in
theorem Mo_largeLoses_ok (l : Launch) {G : GG} (hI : IG G) {M M' : Mem} {v1 : Int32} {v2 : Int32} {v3 : Int32} (h : Mo_largeLoses v1 v2 v3 M = some M') : Sp l G yX6_largeLoses cX6_largeLoses 5 none 1 21 [.ref (G.2.1 32), .int v1, .int v2, .int v3] M none M' := by
  unfold Mo_largeLoses at h
  refine sp_intro [some (.ref (G.2.1 32)), some (.int v1), some (.int v2), some (.int v3), none] hI (by decide) (Nat.le_of_ble_eq_true rfl) (fun _ hq => hq) (fun X _ C hQ => ?_)
  refine v_iconst (v := 0) C dX6_largeLoses_0 (by decide) ?_
  refine v_istore C dX6_largeLoses_1 (by decide) rfl ?_
  exact v_weak [true, true, true, true, true] (Mo_largeLoses_L3_ok C hQ _ _ _ _ _ _ h)
set_option maxHeartbeats 4000000 in
set_option maxRecDepth 100000 in
theorem Mo_pivotFor_b38_ok {X : XX} {G : GG} (C : Cx X G cX6_pivotFor 5 RX6 0 0 (some .int)) {r : Int32} {M' : Mem} (hQ : Rt X G (some (.int r)) M') {k11 : Int32 → Int32 → Int32 → Int32 → Mem → Option (Int32 × Mem)} (H11 : ∀ (v1 : Int32) (v2 : Int32) (v3 : Int32) (v4 : Int32) (M : Mem), k11 v1 v2 v3 v4 M = some (r, M') → V X G 5 M 11 [some (.ref (G.2.1 32)), some (.int v1), some (.int v2), some (.int v3), some (.int v4)] []) {v1 : Int32} {v2 : Int32} {v4 : Int32} {s0 : Int32} {M : Mem}  (h : Mo_pivotFor_b38 k11 v1 v2 v4 s0 M = some (r, M')) : V X G 5 M 38 [some (.ref (G.2.1 32)), some (.int v1), some (.int v2), none, some (.int v4)] [.int s0] := by
  unfold Mo_pivotFor_b38 at h
  refine v_istore_n C dX6_pivotFor_38 (by decide) rfl ?_
  refine v_iinc (v := (-1)) C dX6_pivotFor_39 rfl (by decide) (by decide) rfl ?_
  refine v_goto (tgt := 11) C dX6_pivotFor_42 (by decide) ?_
  exact v_weak [true, true, true, true, true] (H11 _ _ _ _ _ h)
set_option maxHeartbeats 4000000 in
set_option maxRecDepth 100000 in
theorem Mo_pivotFor_L11_ok {X : XX} {G : GG} (C : Cx X G cX6_pivotFor 5 RX6 0 0 (some .int)) {r : Int32} {M' : Mem} (hQ : Rt X G (some (.int r)) M')   : ∀ (n : Nat) (v1 : Int32) (v2 : Int32) (v3 : Int32) (v4 : Int32) (M : Mem), Mo_pivotFor_L11 n v1 v2 v3 v4 M = some (r, M') → V X G 5 M 11 [some (.ref (G.2.1 32)), some (.int v1), some (.int v2), some (.int v3), some (.int v4)] [] := by
  intro n
  induction n with
  | zero =>
    intro v1 v2 v3 v4 M h
    simp [Mo_pivotFor_L11] at h
  | succ n ih =>
    intro v1 v2 v3 v4 M h
    rw [Mo_pivotFor_L11] at h
    refine v_iload C dX6_pivotFor_11 rfl ?_
    refine v_iload_n C dX6_pivotFor_13 rfl ?_
    refine v_icmp_lt (tgt := 45) C dX6_pivotFor_14 (by decide) (fun q => ?_) (fun q => ?_)
    · replace h := hT q h
      refine v_iload_n C dX6_pivotFor_45 rfl ?_
      obtain ⟨rfl, rfl⟩ := hR h
      exact v_iret C hQ dX6_pivotFor_46
    · replace h := hF q h
      refine v_aload_n C dX6_pivotFor_17 rfl ?_
      refine v_getr (j := 38) C fk_X6_26 rfl dX6_pivotFor_18 ?_
      refine v_bipush (v := 21) C dX6_pivotFor_21 (by decide) ?_
      refine v_iload C dX6_pivotFor_23 rfl ?_
      refine v_imul C dX6_pivotFor_25 ?_
      refine v_iload_n C dX6_pivotFor_26 rfl ?_
      refine v_iadd C dX6_pivotFor_27 ?_
      obtain ⟨q1, h⟩ := hG h
      refine v_iald C rfl q1 dX6_pivotFor_28 ?_
      refine v_if_eq (tgt := 37) C dX6_pivotFor_29 (by decide) (fun q => ?_) (fun q => ?_)
      · replace h := hT q h
        refine v_iload_n C dX6_pivotFor_37 rfl ?_
        exact v_weak [true, true, true, false, true] (Mo_pivotFor_b38_ok C hQ ih h)
      · replace h := hF q h
        refine v_iload C dX6_pivotFor_32 rfl ?_
        refine v_goto (tgt := 38) C dX6_pivotFor_34 (by decide) ?_
        exact v_weak [true, true, true, false, true] (Mo_pivotFor_b38_ok C hQ ih h)
set_option maxHeartbeats 4000000 in
set_option maxRecDepth 100000 in
theorem Mo_pivotFor_ok (l : Launch) {G : GG} (hI : IG G) {M M' : Mem} {v1 : Int32} {v2 : Int32} {r : Int32} (h : Mo_pivotFor v1 v2 M = some (r, M')) : Sp l G yX6_pivotFor cX6_pivotFor 5 (some .int) 0 0 [.ref (G.2.1 32), .int v1, .int v2] M (some (.int r)) M' := by
  unfold Mo_pivotFor at h
  refine sp_intro [some (.ref (G.2.1 32)), some (.int v1), some (.int v2), none, none] hI (by decide) (Nat.le_of_ble_eq_true rfl) (fun _ hq => hq) (fun X _ C hQ => ?_)
  refine v_bipush (v := (-4)) C dX6_pivotFor_0 (by decide) ?_
  refine v_istore_n C dX6_pivotFor_2 (by decide) rfl ?_
  refine v_aload_n C dX6_pivotFor_3 rfl ?_
  refine v_geti C fk_X6_157 rfl dX6_pivotFor_4 ?_
  refine v_iconst (v := 1) C dX6_pivotFor_7 (by decide) ?_
  refine v_isub C dX6_pivotFor_8 ?_
  refine v_istore C dX6_pivotFor_9 (by decide) rfl ?_
  exact v_weak [true, true, true, true, true] (Mo_pivotFor_L11_ok C hQ _ _ _ _ _ _ h)
set_option maxHeartbeats 4000000 in
set_option maxRecDepth 100000 in
theorem Mo_rankOf_b100_ok {X : XX} {G : GG} (C : Cx X G cX6_rankOf 7 RX6 2 45 (some .int)) {r : Int32} {M' : Mem} (hQ : Rt X G (some (.int r)) M') {k4 : Int32 → Int32 → Int32 → Mem → Option (Int32 × Mem)} (H4 : ∀ (v1 : Int32) (v2 : Int32) (v3 : Int32) (M : Mem), k4 v1 v2 v3 M = some (r, M') → V X G 7 M 4 [some (.ref (G.2.1 32)), some (.int v1), some (.int v2), some (.int v3), none, none, none] []) {v1 : Int32} {v2 : Int32} {v3 : Int32} {M : Mem}  (h : Mo_rankOf_b100 k4 v1 v2 v3 M = some (r, M')) : V X G 7 M 100 [some (.ref (G.2.1 32)), some (.int v1), some (.int v2), some (.int v3), none, none, none] [] := by
  unfold Mo_rankOf_b100 at h
  refine v_iinc (v := 1) C dX6_rankOf_100 rfl (by decide) (by decide) rfl ?_
  refine v_goto (tgt := 4) C dX6_rankOf_103 (by decide) ?_
  exact v_weak [true, true, true, true, false, false, false] (H4 _ _ _ _ h)
set_option maxHeartbeats 4000000 in
set_option maxRecDepth 100000 in
theorem Mo_rankOf_L53_ok {X : XX} {G : GG} (C : Cx X G cX6_rankOf 7 RX6 2 45 (some .int)) {r : Int32} {M' : Mem} (hQ : Rt X G (some (.int r)) M') {k4 : Int32 → Int32 → Int32 → Mem → Option (Int32 × Mem)} (H4 : ∀ (v1 : Int32) (v2 : Int32) (v3 : Int32) (M : Mem), k4 v1 v2 v3 M = some (r, M') → V X G 7 M 4 [some (.ref (G.2.1 32)), some (.int v1), some (.int v2), some (.int v3), none, none, none] []) : ∀ (n : Nat) (v1 : Int32) (v2 : Int32) (v3 : Int32) (v5 : Int32) (v6 : Int32) (M : Mem), Mo_rankOf_L53 k4 n v1 v2 v3 v5 v6 M = some (r, M') → V X G 7 M 53 [some (.ref (G.2.1 32)), some (.int v1), some (.int v2), some (.int v3), none, some (.int v5), some (.int v6)] [] := by
  intro n
  induction n with
  | zero =>
    intro v1 v2 v3 v5 v6 M h
    simp [Mo_rankOf_L53] at h
  | succ n ih =>
    intro v1 v2 v3 v5 v6 M h
    rw [Mo_rankOf_L53] at h
    refine v_iload C dX6_rankOf_53 rfl ?_
    refine v_aload_n C dX6_rankOf_55 rfl ?_
    refine v_geti C fk_X6_157 rfl dX6_rankOf_56 ?_
    refine v_icmp_ge (tgt := 97) C dX6_rankOf_59 (by decide) (fun q => ?_) (fun q => ?_)
    · replace h := hT q h
      refine v_iinc (v := 1) C dX6_rankOf_97 rfl (by decide) (by decide) rfl ?_
      exact v_weak [true, true, true, true, false, false, false] (Mo_rankOf_b100_ok C hQ H4 h)
    · replace h := hF q h
      refine v_aload_n C dX6_rankOf_62 rfl ?_
      refine v_iload C dX6_rankOf_63 rfl ?_
      refine v_iload_n C dX6_rankOf_65 rfl ?_
      refine v_iload C dX6_rankOf_66 rfl ?_
      refine v_aload_n C dX6_rankOf_68 rfl ?_
      refine v_getr (j := 38) C fk_X6_26 rfl dX6_rankOf_69 ?_
      refine v_bipush (v := 21) C dX6_rankOf_72 (by decide) ?_
      refine v_iload C dX6_rankOf_74 rfl ?_
      refine v_imul C dX6_rankOf_76 ?_
      refine v_iload_n C dX6_rankOf_77 rfl ?_
      refine v_iadd C dX6_rankOf_78 ?_
      obtain ⟨q1, h⟩ := hG h
      refine v_iald C rfl q1 dX6_rankOf_79 ?_
      refine v_imul C dX6_rankOf_80 ?_
      refine v_aload_n C dX6_rankOf_81 rfl ?_
      refine v_getr (j := 33) C fk_X6_7 rfl dX6_rankOf_82 ?_
      refine v_iconst (v := 0) C dX6_rankOf_85 (by decide) ?_
      refine v_iald_k (k := 0) (n := 35) C rfl rfl (by decide) dX6_rankOf_86 ?_
      obtain ⟨q2, h⟩ := hN h
      refine v_irem C dX6_rankOf_87 q2 ?_
      obtain ⟨M3, c4, h⟩ := hV h
      refine v_callVv C (Mo_largeLoses_ok (xl X) C.ig c4) ml_X6_182 mb_X6_largeLoses mv_X6_largeLoses rfl rfl rfl (Nat.le_of_ble_eq_true rfl) (by decide) (by decide) dX6_rankOf_88 ?_
      refine v_iinc (v := 1) C dX6_rankOf_91 rfl (by decide) (by decide) rfl ?_
      refine v_goto (tgt := 53) C dX6_rankOf_94 (by decide) ?_
      exact v_weak [true, true, true, true, false, true, true] (ih _ _ _ _ _ _ h)
set_option maxHeartbeats 4000000 in
set_option maxRecDepth 100000 in
theorem Mo_rankOf_L4_ok {X : XX} {G : GG} (C : Cx X G cX6_rankOf 7 RX6 2 45 (some .int)) {r : Int32} {M' : Mem} (hQ : Rt X G (some (.int r)) M')   : ∀ (n : Nat) (v1 : Int32) (v2 : Int32) (v3 : Int32) (M : Mem), Mo_rankOf_L4 n v1 v2 v3 M = some (r, M') → V X G 7 M 4 [some (.ref (G.2.1 32)), some (.int v1), some (.int v2), some (.int v3), none, none, none] [] := by
  intro n
  induction n with
  | zero =>
    intro v1 v2 v3 M h
    simp [Mo_rankOf_L4] at h
  | succ n ih =>
    intro v1 v2 v3 M h
    rw [Mo_rankOf_L4] at h
    refine v_iload_n C dX6_rankOf_4 rfl ?_
    refine v_iload_n C dX6_rankOf_5 rfl ?_
    refine v_icmp_ge (tgt := 106) C dX6_rankOf_6 (by decide) (fun q => ?_) (fun q => ?_)
    · replace h := hT q h
      refine v_iload_n C dX6_rankOf_106 rfl ?_
      obtain ⟨rfl, rfl⟩ := hR h
      exact v_iret C hQ dX6_rankOf_107
    · replace h := hF q h
      refine v_aload_n C dX6_rankOf_9 rfl ?_
      refine v_iload_n C dX6_rankOf_10 rfl ?_
      refine v_iload_n C dX6_rankOf_11 rfl ?_
      obtain ⟨r3, M1, c2, h⟩ := hB h
      refine v_callVi C (Mo_pivotFor_ok (xl X) C.ig c2) ml_X6_172 mb_X6_pivotFor mv_X6_pivotFor rfl rfl rfl (Nat.le_of_ble_eq_true rfl) (by decide) (by decide) dX6_rankOf_12 ?_
      refine v_istore C dX6_rankOf_15 (by decide) rfl ?_
      refine v_iload C dX6_rankOf_17 rfl ?_
      refine v_bipush (v := (-4)) C dX6_rankOf_19 (by decide) ?_
      refine v_icmp_eq (tgt := 100) C dX6_rankOf_21 (by decide) (fun q => ?_) (fun q => ?_)
      · replace h := hT q h
        exact v_weak [true, true, true, true, false, false, false] (Mo_rankOf_b100_ok C hQ ih h)
      · replace h := hF q h
        refine v_aload_n C dX6_rankOf_24 rfl ?_
        refine v_iload C dX6_rankOf_25 rfl ?_
        refine v_iload_n C dX6_rankOf_27 rfl ?_
        obtain ⟨M4, c5, h⟩ := hV h
        refine v_callVv C (Mo_largeSwaps_ok (xl X) C.ig c5) ml_X6_175 mb_X6_largeSwaps mv_X6_largeSwaps rfl rfl rfl (Nat.le_of_ble_eq_true rfl) (by decide) (by decide) dX6_rankOf_28 ?_
        refine v_aload_n C dX6_rankOf_31 rfl ?_
        refine v_aload_n C dX6_rankOf_32 rfl ?_
        refine v_getr (j := 38) C fk_X6_26 rfl dX6_rankOf_33 ?_
        refine v_bipush (v := 21) C dX6_rankOf_36 (by decide) ?_
        refine v_iload_n C dX6_rankOf_38 rfl ?_
        refine v_imul C dX6_rankOf_39 ?_
        refine v_iload_n C dX6_rankOf_40 rfl ?_
        refine v_iadd C dX6_rankOf_41 ?_
        obtain ⟨q6, h⟩ := hG h
        refine v_iald C rfl q6 dX6_rankOf_42 ?_
        obtain ⟨r9, M7, c8, h⟩ := hB h
        refine v_callVi C (Mo_inverse_ok (xl X) C.ig c8) ml_X6_179 mb_X6_inverse mv_X6_inverse rfl rfl rfl (Nat.le_of_ble_eq_true rfl) (by decide) (by decide) dX6_rankOf_43 ?_
        refine v_istore C dX6_rankOf_46 (by decide) rfl ?_
        refine v_iload_n C dX6_rankOf_48 rfl ?_
        refine v_iconst (v := 1) C dX6_rankOf_49 (by decide) ?_
        refine v_iadd C dX6_rankOf_50 ?_
        refine v_istore C dX6_rankOf_51 (by decide) rfl ?_
        exact v_weak [true, true, true, true, false, true, true] (Mo_rankOf_L53_ok C hQ ih _ _ _ _ _ _ _ h)
set_option maxHeartbeats 4000000 in
set_option maxRecDepth 100000 in
theorem Mo_rankOf_ok (l : Launch) {G : GG} (hI : IG G) {M M' : Mem} {v1 : Int32} {r : Int32} (h : Mo_rankOf v1 M = some (r, M')) : Sp l G yX6_rankOf cX6_rankOf 7 (some .int) 2 45 [.ref (G.2.1 32), .int v1] M (some (.int r)) M' := by
  unfold Mo_rankOf at h
  refine sp_intro [some (.ref (G.2.1 32)), some (.int v1), none, none, none, none, none] hI (by decide) (Nat.le_of_ble_eq_true rfl) (fun _ hq => hq) (fun X _ C hQ => ?_)
  refine v_iconst (v := 0) C dX6_rankOf_0 (by decide) ?_
  refine v_istore_n C dX6_rankOf_1 (by decide) rfl ?_
  refine v_iconst (v := 0) C dX6_rankOf_2 (by decide) ?_
  refine v_istore_n C dX6_rankOf_3 (by decide) rfl ?_
  exact v_weak [true, true, true, true, false, false, false] (Mo_rankOf_L4_ok C hQ _ _ _ _ _ h)
