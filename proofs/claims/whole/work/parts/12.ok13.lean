set_option maxHeartbeats 4000000 in
set_option maxRecDepth 100000 in
theorem Mo_sets1_ok (l : Launch) {G : GG} (hI : IG G) {M M' : Mem} {v1 : Int32} {v2 : Int32} {v3 : Int32} {v4 : Int32} (h : Mo_sets1 v1 v2 v3 v4 M = some M') : Sp l G yX6_sets1 cX6_sets1 5 none 0 0 [.ref (G.2.1 32), .int v1, .int v2, .int v3, .int v4] M none M' := by
  unfold Mo_sets1 at h
  refine sp_intro [some (.ref (G.2.1 32)), some (.int v1), some (.int v2), some (.int v3), some (.int v4)] hI (by decide) (Nat.le_of_ble_eq_true rfl) (fun _ hq => hq) (fun X _ C hQ => ?_)
  refine v_aload_n C dX6_sets1_0 rfl ?_
  refine v_getr (j := 43) C fk_X6_41 rfl dX6_sets1_1 ?_
  refine v_iconst (v := 3) C dX6_sets1_4 (by decide) ?_
  refine v_bipush (v := 16) C dX6_sets1_5 (by decide) ?_
  refine v_iload_n C dX6_sets1_7 rfl ?_
  refine v_imul C dX6_sets1_8 ?_
  refine v_iadd C dX6_sets1_9 ?_
  refine v_iconst (v := 4) C dX6_sets1_10 (by decide) ?_
  refine v_iload_n C dX6_sets1_11 rfl ?_
  refine v_imul C dX6_sets1_12 ?_
  refine v_iadd C dX6_sets1_13 ?_
  refine v_iload_n C dX6_sets1_14 rfl ?_
  refine v_iadd C dX6_sets1_15 ?_
  refine v_iload C dX6_sets1_16 rfl ?_
  obtain ⟨q1, h⟩ := hG h
  refine v_iast C rfl q1 dX6_sets1_18 ?_
  obtain rfl := hRv h
  exact v_vret C hQ dX6_sets1_19
set_option maxHeartbeats 4000000 in
set_option maxRecDepth 100000 in
theorem Mo_turn_b204_ok {X : XX} {G : GG} (C : Cx X G cX6_turn 6 RX6 1 25 (some .int)) {r : Int32} {M' : Mem} (hQ : Rt X G (some (.int r)) M')    {M : Mem}  (h : Mo_turn_b204 M = some (r, M')) : V X G 6 M 204 [some (.ref (G.2.1 32)), none, none, none, none, none] [] := by
  unfold Mo_turn_b204 at h
  refine v_aload_n C dX6_turn_204 rfl ?_
  obtain ⟨r3, M1, c2, h⟩ := hB h
  refine v_callVi C (Mo_shape_ok (xl X) C.ig c2) ml_X6_268 mb_X6_shape mv_X6_shape rfl rfl rfl (Nat.le_of_ble_eq_true rfl) (by decide) (by decide) dX6_turn_205 ?_
  obtain ⟨rfl, rfl⟩ := hR h
  exact v_iret C hQ dX6_turn_208
set_option maxHeartbeats 4000000 in
set_option maxRecDepth 100000 in
theorem Mo_turn_L149_ok {X : XX} {G : GG} (C : Cx X G cX6_turn 6 RX6 1 25 (some .int)) {r : Int32} {M' : Mem} (hQ : Rt X G (some (.int r)) M')   : ∀ (n : Nat) (v1 : Int32) (v2 : Int32) (M : Mem), Mo_turn_L149 n v1 v2 M = some (r, M') → V X G 6 M 149 [some (.ref (G.2.1 32)), some (.int v1), some (.int v2), none, none, none] [] := by
  intro n
  induction n with
  | zero =>
    intro v1 v2 M h
    simp [Mo_turn_L149] at h
  | succ n ih =>
    intro v1 v2 M h
    rw [Mo_turn_L149] at h
    refine v_iload_n C dX6_turn_149 rfl ?_
    refine v_bipush (v := 35) C dX6_turn_150 (by decide) ?_
    refine v_icmp_ge (tgt := 173) C dX6_turn_152 (by decide) (fun q => ?_) (fun q => ?_)
    · replace h := hT q h
      refine v_iload_n C dX6_turn_173 rfl ?_
      refine v_iconst (v := 1) C dX6_turn_174 (by decide) ?_
      refine v_icmp_ne (tgt := 204) C dX6_turn_175 (by decide) (fun q => ?_) (fun q => ?_)
      · replace h := hF q h
        exact v_weak [true, false, false, false, false, false] (Mo_turn_b204_ok C hQ h)
      · replace h := hT q h
        refine v_aload_n C dX6_turn_178 rfl ?_
        refine v_getr (j := 33) C fk_X6_7 rfl dX6_turn_179 ?_
        refine v_iconst (v := 1) C dX6_turn_182 (by decide) ?_
        refine v_iald_k (k := 1) (n := 35) C rfl rfl (by decide) dX6_turn_183 ?_
        refine v_istore_n C dX6_turn_184 (by decide) rfl ?_
        refine v_aload_n C dX6_turn_185 rfl ?_
        refine v_getr (j := 33) C fk_X6_7 rfl dX6_turn_186 ?_
        refine v_iconst (v := 1) C dX6_turn_189 (by decide) ?_
        refine v_aload_n C dX6_turn_190 rfl ?_
        refine v_getr (j := 33) C fk_X6_7 rfl dX6_turn_191 ?_
        refine v_iconst (v := 2) C dX6_turn_194 (by decide) ?_
        refine v_iald_k (k := 2) (n := 35) C rfl rfl (by decide) dX6_turn_195 ?_
        refine v_iast_k (k := 1) (n := 35) C rfl rfl (by decide) dX6_turn_196 ?_
        refine v_aload_n C dX6_turn_197 rfl ?_
        refine v_getr (j := 33) C fk_X6_7 rfl dX6_turn_198 ?_
        refine v_iconst (v := 2) C dX6_turn_201 (by decide) ?_
        refine v_iload_n C dX6_turn_202 rfl ?_
        refine v_iast_k (k := 2) (n := 35) C rfl rfl (by decide) dX6_turn_203 ?_
        exact v_weak [true, false, false, false, false, false] (Mo_turn_b204_ok C hQ h)
    · replace h := hF q h
      refine v_aload_n C dX6_turn_155 rfl ?_
      refine v_getr (j := 33) C fk_X6_7 rfl dX6_turn_156 ?_
      refine v_iload_n C dX6_turn_159 rfl ?_
      refine v_aload_n C dX6_turn_160 rfl ?_
      refine v_getr (j := 43) C fk_X6_41 rfl dX6_turn_161 ?_
      refine v_iload_n C dX6_turn_164 rfl ?_
      obtain ⟨q1, h⟩ := hG h
      refine v_iald C rfl q1 dX6_turn_165 ?_
      obtain ⟨q2, h⟩ := hG h
      refine v_iast C rfl q2 dX6_turn_166 ?_
      refine v_iinc (v := 1) C dX6_turn_167 rfl (by decide) (by decide) rfl ?_
      refine v_goto (tgt := 149) C dX6_turn_170 (by decide) ?_
      exact v_weak [true, true, true, false, false, false] (ih _ _ _ h)
set_option maxHeartbeats 4000000 in
set_option maxRecDepth 100000 in
theorem Mo_turn_b132_ok {X : XX} {G : GG} (C : Cx X G cX6_turn 6 RX6 1 25 (some .int)) {r : Int32} {M' : Mem} (hQ : Rt X G (some (.int r)) M') {k16 : Int32 → Int32 → Mem → Option (Int32 × Mem)} {k23 : Int32 → Int32 → Int32 → Mem → Option (Int32 × Mem)} (H16 : ∀ (v1 : Int32) (v2 : Int32) (M : Mem), k16 v1 v2 M = some (r, M') → V X G 6 M 16 [some (.ref (G.2.1 32)), some (.int v1), some (.int v2), none, none, none] []) (H23 : ∀ (v1 : Int32) (v2 : Int32) (v3 : Int32) (M : Mem), k23 v1 v2 v3 M = some (r, M') → V X G 6 M 23 [some (.ref (G.2.1 32)), some (.int v1), some (.int v2), some (.int v3), none, none] []) {v1 : Int32} {v2 : Int32} {v3 : Int32} {s1 : Int32} {s2 : Int32} {s3 : Int32} {s4 : Int32} {M : Mem}  (h : Mo_turn_b132 k16 k23 v1 v2 v3 s1 s2 s3 s4 M = some (r, M')) : V X G 6 M 132 [some (.ref (G.2.1 32)), some (.int v1), some (.int v2), some (.int v3), none, none] [.int s4, .int s3, .int s2, .int s1, .ref (G.2.1 32)] := by
  unfold Mo_turn_b132 at h
  obtain ⟨M1, c2, h⟩ := hV h
  refine v_callVv C (Mo_sets1_ok (xl X) C.ig c2) ml_X6_293 mb_X6_sets1 mv_X6_sets1 rfl rfl rfl (Nat.le_of_ble_eq_true rfl) (by decide) (by decide) dX6_turn_132 ?_
  refine v_iinc (v := 1) C dX6_turn_135 rfl (by decide) (by decide) rfl ?_
  refine v_goto (tgt := 23) C dX6_turn_138 (by decide) ?_
  exact v_weak [true, true, true, true, false, false] (H23 _ _ _ _ h)
set_option maxHeartbeats 4000000 in
set_option maxRecDepth 100000 in
theorem Mo_turn_b121_ok {X : XX} {G : GG} (C : Cx X G cX6_turn 6 RX6 1 25 (some .int)) {r : Int32} {M' : Mem} (hQ : Rt X G (some (.int r)) M') {k16 : Int32 → Int32 → Mem → Option (Int32 × Mem)} {k23 : Int32 → Int32 → Int32 → Mem → Option (Int32 × Mem)} (H16 : ∀ (v1 : Int32) (v2 : Int32) (M : Mem), k16 v1 v2 M = some (r, M') → V X G 6 M 16 [some (.ref (G.2.1 32)), some (.int v1), some (.int v2), none, none, none] []) (H23 : ∀ (v1 : Int32) (v2 : Int32) (v3 : Int32) (M : Mem), k23 v1 v2 v3 M = some (r, M') → V X G 6 M 23 [some (.ref (G.2.1 32)), some (.int v1), some (.int v2), some (.int v3), none, none] []) {v1 : Int32} {v2 : Int32} {v3 : Int32} {v4 : Int32} {v5 : Int32} {s1 : Int32} {s2 : Int32} {s3 : Int32} {M : Mem}  (h : Mo_turn_b121 k16 k23 v1 v2 v3 v4 v5 s1 s2 s3 M = some (r, M')) : V X G 6 M 121 [some (.ref (G.2.1 32)), some (.int v1), some (.int v2), some (.int v3), some (.int v4), some (.int v5)] [.int s3, .int s2, .int s1, .ref (G.2.1 32)] := by
  unfold Mo_turn_b121 at h
  refine v_iload_n C dX6_turn_121 rfl ?_
  refine v_if_ne (tgt := 130) C dX6_turn_122 (by decide) (fun q => ?_) (fun q => ?_)
  · replace h := hF q h
    refine v_iload C dX6_turn_130 rfl ?_
    exact v_weak [true, true, true, true, false, false] (Mo_turn_b132_ok C hQ H16 H23 h)
  · replace h := hT q h
    refine v_iload C dX6_turn_125 rfl ?_
    refine v_goto (tgt := 132) C dX6_turn_127 (by decide) ?_
    exact v_weak [true, true, true, true, false, false] (Mo_turn_b132_ok C hQ H16 H23 h)
set_option maxHeartbeats 4000000 in
set_option maxRecDepth 100000 in
theorem Mo_turn_b111_ok {X : XX} {G : GG} (C : Cx X G cX6_turn 6 RX6 1 25 (some .int)) {r : Int32} {M' : Mem} (hQ : Rt X G (some (.int r)) M') {k16 : Int32 → Int32 → Mem → Option (Int32 × Mem)} {k23 : Int32 → Int32 → Int32 → Mem → Option (Int32 × Mem)} (H16 : ∀ (v1 : Int32) (v2 : Int32) (M : Mem), k16 v1 v2 M = some (r, M') → V X G 6 M 16 [some (.ref (G.2.1 32)), some (.int v1), some (.int v2), none, none, none] []) (H23 : ∀ (v1 : Int32) (v2 : Int32) (v3 : Int32) (M : Mem), k23 v1 v2 v3 M = some (r, M') → V X G 6 M 23 [some (.ref (G.2.1 32)), some (.int v1), some (.int v2), some (.int v3), none, none] []) {v1 : Int32} {v2 : Int32} {v3 : Int32} {v4 : Int32} {v5 : Int32} {s1 : Int32} {s2 : Int32} {M : Mem}  (h : Mo_turn_b111 k16 k23 v1 v2 v3 v4 v5 s1 s2 M = some (r, M')) : V X G 6 M 111 [some (.ref (G.2.1 32)), some (.int v1), some (.int v2), some (.int v3), some (.int v4), some (.int v5)] [.int s2, .int s1, .ref (G.2.1 32)] := by
  unfold Mo_turn_b111 at h
  refine v_iload_n C dX6_turn_111 rfl ?_
  refine v_iconst (v := 1) C dX6_turn_112 (by decide) ?_
  refine v_icmp_ne (tgt := 120) C dX6_turn_113 (by decide) (fun q => ?_) (fun q => ?_)
  · replace h := hF q h
    refine v_iload_n C dX6_turn_120 rfl ?_
    exact v_weak [true, true, true, true, true, true] (Mo_turn_b121_ok C hQ H16 H23 h)
  · replace h := hT q h
    refine v_iload_n C dX6_turn_116 rfl ?_
    refine v_goto (tgt := 121) C dX6_turn_117 (by decide) ?_
    exact v_weak [true, true, true, true, true, true] (Mo_turn_b121_ok C hQ H16 H23 h)
set_option maxHeartbeats 4000000 in
set_option maxRecDepth 100000 in
theorem Mo_turn_b96_ok {X : XX} {G : GG} (C : Cx X G cX6_turn 6 RX6 1 25 (some .int)) {r : Int32} {M' : Mem} (hQ : Rt X G (some (.int r)) M') {k16 : Int32 → Int32 → Mem → Option (Int32 × Mem)} {k23 : Int32 → Int32 → Int32 → Mem → Option (Int32 × Mem)} (H16 : ∀ (v1 : Int32) (v2 : Int32) (M : Mem), k16 v1 v2 M = some (r, M') → V X G 6 M 16 [some (.ref (G.2.1 32)), some (.int v1), some (.int v2), none, none, none] []) (H23 : ∀ (v1 : Int32) (v2 : Int32) (v3 : Int32) (M : Mem), k23 v1 v2 v3 M = some (r, M') → V X G 6 M 23 [some (.ref (G.2.1 32)), some (.int v1), some (.int v2), some (.int v3), none, none] []) {v1 : Int32} {v2 : Int32} {v3 : Int32} {v4 : Int32} {v5 : Int32} {s1 : Int32} {s2 : Int32} {s3 : Int32} {s4 : Int32} {M : Mem}  (h : Mo_turn_b96 k16 k23 v1 v2 v3 v4 v5 s1 s2 s3 s4 M = some (r, M')) : V X G 6 M 96 [some (.ref (G.2.1 32)), some (.int v1), some (.int v2), some (.int v3), some (.int v4), some (.int v5)] [.int s4, .int s3, .int s2, .int s1, .ref (G.2.1 32)] := by
  unfold Mo_turn_b96 at h
  obtain ⟨M1, c2, h⟩ := hV h
  refine v_callVv C (Mo_sets1_ok (xl X) C.ig c2) ml_X6_293 mb_X6_sets1 mv_X6_sets1 rfl rfl rfl (Nat.le_of_ble_eq_true rfl) (by decide) (by decide) dX6_turn_96 ?_
  refine v_aload_n C dX6_turn_99 rfl ?_
  refine v_iconst (v := 1) C dX6_turn_100 (by decide) ?_
  refine v_iload_n C dX6_turn_101 rfl ?_
  refine v_iconst (v := 1) C dX6_turn_102 (by decide) ?_
  refine v_icmp_ne (tgt := 110) C dX6_turn_103 (by decide) (fun q => ?_) (fun q => ?_)
  · replace h := hF q h
    refine v_iload_n C dX6_turn_110 rfl ?_
    exact v_weak [true, true, true, true, true, true] (Mo_turn_b111_ok C hQ H16 H23 h)
  · replace h := hT q h
    refine v_iload_n C dX6_turn_106 rfl ?_
    refine v_goto (tgt := 111) C dX6_turn_107 (by decide) ?_
    exact v_weak [true, true, true, true, true, true] (Mo_turn_b111_ok C hQ H16 H23 h)
set_option maxHeartbeats 4000000 in
set_option maxRecDepth 100000 in
theorem Mo_turn_b68_ok {X : XX} {G : GG} (C : Cx X G cX6_turn 6 RX6 1 25 (some .int)) {r : Int32} {M' : Mem} (hQ : Rt X G (some (.int r)) M') {k16 : Int32 → Int32 → Mem → Option (Int32 × Mem)} {k23 : Int32 → Int32 → Int32 → Mem → Option (Int32 × Mem)} (H16 : ∀ (v1 : Int32) (v2 : Int32) (M : Mem), k16 v1 v2 M = some (r, M') → V X G 6 M 16 [some (.ref (G.2.1 32)), some (.int v1), some (.int v2), none, none, none] []) (H23 : ∀ (v1 : Int32) (v2 : Int32) (v3 : Int32) (M : Mem), k23 v1 v2 v3 M = some (r, M') → V X G 6 M 23 [some (.ref (G.2.1 32)), some (.int v1), some (.int v2), some (.int v3), none, none] []) {v1 : Int32} {v2 : Int32} {v3 : Int32} {v4 : Int32} {v5 : Int32} {s1 : Int32} {s2 : Int32} {s3 : Int32} {M : Mem}  (h : Mo_turn_b68 k16 k23 v1 v2 v3 v4 v5 s1 s2 s3 M = some (r, M')) : V X G 6 M 68 [some (.ref (G.2.1 32)), some (.int v1), some (.int v2), some (.int v3), some (.int v4), some (.int v5)] [.int s3, .int s2, .int s1, .ref (G.2.1 32)] := by
  unfold Mo_turn_b68 at h
  refine v_iload_n C dX6_turn_68 rfl ?_
  refine v_if_ne (tgt := 77) C dX6_turn_69 (by decide) (fun q => ?_) (fun q => ?_)
  · replace h := hF q h
    refine v_iload_n C dX6_turn_77 rfl ?_
    refine v_iconst (v := 2) C dX6_turn_78 (by decide) ?_
    refine v_icmp_ne (tgt := 94) C dX6_turn_79 (by decide) (fun q => ?_) (fun q => ?_)
    · replace h := hF q h
      refine v_iload C dX6_turn_94 rfl ?_
      exact v_weak [true, true, true, true, true, true] (Mo_turn_b96_ok C hQ H16 H23 h)
    · replace h := hT q h
      refine v_aload_n C dX6_turn_82 rfl ?_
      refine v_iload C dX6_turn_83 rfl ?_
      refine v_iload C dX6_turn_85 rfl ?_
      refine v_isub C dX6_turn_87 ?_
      obtain ⟨r3, M1, c2, h⟩ := hB h
      refine v_callVi C (Mo_modulo_ok (xl X) C.ig c2) ml_X6_169 mb_X6_modulo mv_X6_modulo rfl rfl rfl (Nat.le_of_ble_eq_true rfl) (by decide) (by decide) dX6_turn_88 ?_
      refine v_goto (tgt := 96) C dX6_turn_91 (by decide) ?_
      exact v_weak [true, true, true, true, true, true] (Mo_turn_b96_ok C hQ H16 H23 h)
  · replace h := hT q h
    refine v_iload C dX6_turn_72 rfl ?_
    refine v_goto (tgt := 96) C dX6_turn_74 (by decide) ?_
    exact v_weak [true, true, true, true, true, true] (Mo_turn_b96_ok C hQ H16 H23 h)
set_option maxHeartbeats 4000000 in
set_option maxRecDepth 100000 in
theorem Mo_turn_b58_ok {X : XX} {G : GG} (C : Cx X G cX6_turn 6 RX6 1 25 (some .int)) {r : Int32} {M' : Mem} (hQ : Rt X G (some (.int r)) M') {k16 : Int32 → Int32 → Mem → Option (Int32 × Mem)} {k23 : Int32 → Int32 → Int32 → Mem → Option (Int32 × Mem)} (H16 : ∀ (v1 : Int32) (v2 : Int32) (M : Mem), k16 v1 v2 M = some (r, M') → V X G 6 M 16 [some (.ref (G.2.1 32)), some (.int v1), some (.int v2), none, none, none] []) (H23 : ∀ (v1 : Int32) (v2 : Int32) (v3 : Int32) (M : Mem), k23 v1 v2 v3 M = some (r, M') → V X G 6 M 23 [some (.ref (G.2.1 32)), some (.int v1), some (.int v2), some (.int v3), none, none] []) {v1 : Int32} {v2 : Int32} {v3 : Int32} {v4 : Int32} {v5 : Int32} {s1 : Int32} {s2 : Int32} {M : Mem}  (h : Mo_turn_b58 k16 k23 v1 v2 v3 v4 v5 s1 s2 M = some (r, M')) : V X G 6 M 58 [some (.ref (G.2.1 32)), some (.int v1), some (.int v2), some (.int v3), some (.int v4), some (.int v5)] [.int s2, .int s1, .ref (G.2.1 32)] := by
  unfold Mo_turn_b58 at h
  refine v_iload_n C dX6_turn_58 rfl ?_
  refine v_iconst (v := 1) C dX6_turn_59 (by decide) ?_
  refine v_icmp_ne (tgt := 67) C dX6_turn_60 (by decide) (fun q => ?_) (fun q => ?_)
  · replace h := hF q h
    refine v_iload_n C dX6_turn_67 rfl ?_
    exact v_weak [true, true, true, true, true, true] (Mo_turn_b68_ok C hQ H16 H23 h)
  · replace h := hT q h
    refine v_iload_n C dX6_turn_63 rfl ?_
    refine v_goto (tgt := 68) C dX6_turn_64 (by decide) ?_
    exact v_weak [true, true, true, true, true, true] (Mo_turn_b68_ok C hQ H16 H23 h)
set_option maxHeartbeats 4000000 in
set_option maxRecDepth 100000 in
theorem Mo_turn_L23_ok {X : XX} {G : GG} (C : Cx X G cX6_turn 6 RX6 1 25 (some .int)) {r : Int32} {M' : Mem} (hQ : Rt X G (some (.int r)) M') {k16 : Int32 → Int32 → Mem → Option (Int32 × Mem)} (H16 : ∀ (v1 : Int32) (v2 : Int32) (M : Mem), k16 v1 v2 M = some (r, M') → V X G 6 M 16 [some (.ref (G.2.1 32)), some (.int v1), some (.int v2), none, none, none] []) : ∀ (n : Nat) (v1 : Int32) (v2 : Int32) (v3 : Int32) (M : Mem), Mo_turn_L23 k16 n v1 v2 v3 M = some (r, M') → V X G 6 M 23 [some (.ref (G.2.1 32)), some (.int v1), some (.int v2), some (.int v3), none, none] [] := by
  intro n
  induction n with
  | zero =>
    intro v1 v2 v3 M h
    simp [Mo_turn_L23] at h
  | succ n ih =>
    intro v1 v2 v3 M h
    rw [Mo_turn_L23] at h
    refine v_iload_n C dX6_turn_23 rfl ?_
    refine v_iconst (v := 4) C dX6_turn_24 (by decide) ?_
    refine v_icmp_ge (tgt := 141) C dX6_turn_25 (by decide) (fun q => ?_) (fun q => ?_)
    · replace h := hT q h
      refine v_iinc (v := 1) C dX6_turn_141 rfl (by decide) (by decide) rfl ?_
      refine v_goto (tgt := 16) C dX6_turn_144 (by decide) ?_
      exact v_weak [true, true, true, false, false, false] (H16 _ _ _ h)
    · replace h := hF q h
      refine v_aload_n C dX6_turn_28 rfl ?_
      refine v_iconst (v := 0) C dX6_turn_29 (by decide) ?_
      refine v_iload_n C dX6_turn_30 rfl ?_
      refine v_iload_n C dX6_turn_31 rfl ?_
      obtain ⟨r3, M1, c2, h⟩ := hB h
      refine v_callVi C (Mo_of_ok (xl X) C.ig c2) ml_X6_150 mb_X6_of mv_X6_of rfl rfl rfl (Nat.le_of_ble_eq_true rfl) (by decide) (by decide) dX6_turn_32 ?_
      refine v_istore C dX6_turn_35 (by decide) rfl ?_
      refine v_aload_n C dX6_turn_37 rfl ?_
      refine v_iconst (v := 1) C dX6_turn_38 (by decide) ?_
      refine v_iload_n C dX6_turn_39 rfl ?_
      refine v_iload_n C dX6_turn_40 rfl ?_
      obtain ⟨r6, M4, c5, h⟩ := hB h
      refine v_callVi C (Mo_of_ok (xl X) C.ig c5) ml_X6_150 mb_X6_of mv_X6_of rfl rfl rfl (Nat.le_of_ble_eq_true rfl) (by decide) (by decide) dX6_turn_41 ?_
      refine v_istore C dX6_turn_44 (by decide) rfl ?_
      refine v_aload_n C dX6_turn_46 rfl ?_
      refine v_iconst (v := 0) C dX6_turn_47 (by decide) ?_
      refine v_iload_n C dX6_turn_48 rfl ?_
      refine v_iconst (v := 1) C dX6_turn_49 (by decide) ?_
      refine v_icmp_ne (tgt := 57) C dX6_turn_50 (by decide) (fun q => ?_) (fun q => ?_)
      · replace h := hF q h
        refine v_iload_n C dX6_turn_57 rfl ?_
        exact v_weak [true, true, true, true, true, true] (Mo_turn_b58_ok C hQ H16 ih h)
      · replace h := hT q h
        refine v_iload_n C dX6_turn_53 rfl ?_
        refine v_goto (tgt := 58) C dX6_turn_54 (by decide) ?_
        exact v_weak [true, true, true, true, true, true] (Mo_turn_b58_ok C hQ H16 ih h)
set_option maxHeartbeats 4000000 in
set_option maxRecDepth 100000 in
theorem Mo_turn_L16_ok {X : XX} {G : GG} (C : Cx X G cX6_turn 6 RX6 1 25 (some .int)) {r : Int32} {M' : Mem} (hQ : Rt X G (some (.int r)) M')   : ∀ (n : Nat) (v1 : Int32) (v2 : Int32) (M : Mem), Mo_turn_L16 n v1 v2 M = some (r, M') → V X G 6 M 16 [some (.ref (G.2.1 32)), some (.int v1), some (.int v2), none, none, none] [] := by
  intro n
  induction n with
  | zero =>
    intro v1 v2 M h
    simp [Mo_turn_L16] at h
  | succ n ih =>
    intro v1 v2 M h
    rw [Mo_turn_L16] at h
    refine v_iload_n C dX6_turn_16 rfl ?_
    refine v_iconst (v := 4) C dX6_turn_17 (by decide) ?_
    refine v_icmp_ge (tgt := 147) C dX6_turn_18 (by decide) (fun q => ?_) (fun q => ?_)
    · replace h := hT q h
      refine v_iconst (v := 3) C dX6_turn_147 (by decide) ?_
      refine v_istore_n C dX6_turn_148 (by decide) rfl ?_
      exact v_weak [true, true, true, false, false, false] (Mo_turn_L149_ok C hQ _ _ _ _ h)
    · replace h := hF q h
      refine v_iconst (v := 0) C dX6_turn_21 (by decide) ?_
      refine v_istore_n C dX6_turn_22 (by decide) rfl ?_
      exact v_weak [true, true, true, true, false, false] (Mo_turn_L23_ok C hQ ih _ _ _ _ _ h)
set_option maxHeartbeats 4000000 in
set_option maxRecDepth 100000 in
theorem Mo_turn_ok (l : Launch) {G : GG} (hI : IG G) {M M' : Mem} {v1 : Int32} {r : Int32} (h : Mo_turn v1 M = some (r, M')) : Sp l G yX6_turn cX6_turn 6 (some .int) 1 25 [.ref (G.2.1 32), .int v1] M (some (.int r)) M' := by
  unfold Mo_turn at h
  refine sp_intro [some (.ref (G.2.1 32)), some (.int v1), none, none, none, none] hI (by decide) (Nat.le_of_ble_eq_true rfl) (fun _ hq => hq) (fun X _ C hQ => ?_)
  refine v_iload_n C dX6_turn_0 rfl ?_
  refine v_i2l C dX6_turn_1 ?_
  refine v_lconst (v := 0) C dX6_turn_2 (by decide) ?_
  refine v_ldc2 (v := 2) C dX6_turn_3 (tT 1124 (by decide +kernel) rfl) ?_
  obtain ⟨r3, M1, c2, h⟩ := hB h
  refine v_callSi C (Mo_in_ok (xl X) C.ig c2) ml_X6_64 mb_X6_in ms_X6_in rfl rfl (Nat.le_of_ble_eq_true rfl) (by decide) (by decide) dX6_turn_6 ?_
  refine v_if_ne (tgt := 14) C dX6_turn_9 (by decide) (fun q => ?_) (fun q => ?_)
  · replace h := hF q h
    refine v_iconst (v := 0) C dX6_turn_14 (by decide) ?_
    refine v_istore_n C dX6_turn_15 (by decide) rfl ?_
    exact v_weak [true, true, true, false, false, false] (Mo_turn_L16_ok C hQ _ _ _ _ h)
  · replace h := hT q h
    refine v_iconst (v := (-1)) C dX6_turn_12 (by decide) ?_
    obtain ⟨rfl, rfl⟩ := hR h
    exact v_iret C hQ dX6_turn_13
set_option maxHeartbeats 4000000 in
set_option maxRecDepth 100000 in
theorem Mo_keep_L31_ok {X : XX} {G : GG} (C : Cx X G cX6_keep 4 RX6 1 25 (some .int)) {r : Int32} {M' : Mem} (hQ : Rt X G (some (.int r)) M')   : ∀ (n : Nat) (v1 : Int32) (v2 : Int32) (v3 : Int32) (M : Mem), Mo_keep_L31 n v1 v2 v3 M = some (r, M') → V X G 4 M 31 [some (.ref (G.2.1 32)), some (.int v1), some (.int v2), some (.int v3)] [] := by
  intro n
  induction n with
  | zero =>
    intro v1 v2 v3 M h
    simp [Mo_keep_L31] at h
  | succ n ih =>
    intro v1 v2 v3 M h
    rw [Mo_keep_L31] at h
    refine v_iload_n C dX6_keep_31 rfl ?_
    refine v_bipush (v := 35) C dX6_keep_32 (by decide) ?_
    refine v_icmp_ge (tgt := 60) C dX6_keep_34 (by decide) (fun q => ?_) (fun q => ?_)
    · replace h := hT q h
      refine v_iload_n C dX6_keep_60 rfl ?_
      obtain ⟨rfl, rfl⟩ := hR h
      exact v_iret C hQ dX6_keep_61
    · replace h := hF q h
      refine v_aload_n C dX6_keep_37 rfl ?_
      refine v_getr (j := 34) C fk_X6_13 rfl dX6_keep_38 ?_
      refine v_bipush (v := 35) C dX6_keep_41 (by decide) ?_
      refine v_iload_n C dX6_keep_43 rfl ?_
      refine v_imul C dX6_keep_44 ?_
      refine v_iload_n C dX6_keep_45 rfl ?_
      refine v_iadd C dX6_keep_46 ?_
      refine v_aload_n C dX6_keep_47 rfl ?_
      refine v_getr (j := 33) C fk_X6_7 rfl dX6_keep_48 ?_
      refine v_iload_n C dX6_keep_51 rfl ?_
      obtain ⟨q1, h⟩ := hG h
      refine v_iald C rfl q1 dX6_keep_52 ?_
      obtain ⟨q2, h⟩ := hG h
      refine v_iast C rfl q2 dX6_keep_53 ?_
      refine v_iinc (v := 1) C dX6_keep_54 rfl (by decide) (by decide) rfl ?_
      refine v_goto (tgt := 31) C dX6_keep_57 (by decide) ?_
      exact v_weak [true, true, true, true] (ih _ _ _ _ h)
set_option maxHeartbeats 4000000 in
set_option maxRecDepth 100000 in
theorem Mo_keep_ok (l : Launch) {G : GG} (hI : IG G) {M M' : Mem} {v1 : Int32} {r : Int32} (h : Mo_keep v1 M = some (r, M')) : Sp l G yX6_keep cX6_keep 4 (some .int) 1 25 [.ref (G.2.1 32), .int v1] M (some (.int r)) M' := by
  unfold Mo_keep at h
  refine sp_intro [some (.ref (G.2.1 32)), some (.int v1), none, none] hI (by decide) (Nat.le_of_ble_eq_true rfl) (fun _ hq => hq) (fun X _ C hQ => ?_)
  refine v_iload_n C dX6_keep_0 rfl ?_
  refine v_i2l C dX6_keep_1 ?_
  refine v_lconst (v := 0) C dX6_keep_2 (by decide) ?_
  refine v_lconst (v := 1) C dX6_keep_3 (by decide) ?_
  obtain ⟨r3, M1, c2, h⟩ := hB h
  refine v_callSi C (Mo_in_ok (xl X) C.ig c2) ml_X6_64 mb_X6_in ms_X6_in rfl rfl (Nat.le_of_ble_eq_true rfl) (by decide) (by decide) dX6_keep_4 ?_
  refine v_if_ne (tgt := 12) C dX6_keep_7 (by decide) (fun q => ?_) (fun q => ?_)
  · replace h := hF q h
    refine v_aload_n C dX6_keep_12 rfl ?_
    refine v_getr (j := 35) C fk_X6_16 rfl dX6_keep_13 ?_
    refine v_iload_n C dX6_keep_16 rfl ?_
    obtain ⟨q4, h⟩ := hG h
    refine v_zald C rfl q4 dX6_keep_17 ?_
    obtain ⟨r7, M5, c6, h⟩ := hB h
    refine v_callSi C (Mo_flag_ok (xl X) C.ig c6) ml_X6_214 mb_X6_flag ms_X6_flag rfl rfl (Nat.le_of_ble_eq_true rfl) (by decide) (by decide) dX6_keep_18 ?_
    refine v_istore_n C dX6_keep_21 (by decide) rfl ?_
    refine v_aload_n C dX6_keep_22 rfl ?_
    refine v_getr (j := 35) C fk_X6_16 rfl dX6_keep_23 ?_
    refine v_iload_n C dX6_keep_26 rfl ?_
    refine v_iconst (v := 1) C dX6_keep_27 (by decide) ?_
    obtain ⟨q8, h⟩ := hG h
    refine v_zast C rfl q8 rfl dX6_keep_28 ?_
    refine v_iconst (v := 0) C dX6_keep_29 (by decide) ?_
    refine v_istore_n C dX6_keep_30 (by decide) rfl ?_
    exact v_weak [true, true, true, true] (Mo_keep_L31_ok C hQ _ _ _ _ _ h)
  · replace h := hT q h
    refine v_iconst (v := (-1)) C dX6_keep_10 (by decide) ?_
    obtain ⟨rfl, rfl⟩ := hR h
    exact v_iret C hQ dX6_keep_11
set_option maxHeartbeats 4000000 in
set_option maxRecDepth 100000 in
theorem Mo_takes_L2_ok {X : XX} {G : GG} (C : Cx X G cX6_takes 3 RX6 0 0 none) {M' : Mem} (hQ : Rt X G none M')   : ∀ (n : Nat) (v1 : Int32) (v2 : Int32) (M : Mem), Mo_takes_L2 n v1 v2 M = some M' → V X G 3 M 2 [some (.ref (G.2.1 32)), some (.int v1), some (.int v2)] [] := by
  intro n
  induction n with
  | zero =>
    intro v1 v2 M h
    simp [Mo_takes_L2] at h
  | succ n ih =>
    intro v1 v2 M h
    rw [Mo_takes_L2] at h
    refine v_iload_n C dX6_takes_2 rfl ?_
    refine v_bipush (v := 35) C dX6_takes_3 (by decide) ?_
    refine v_icmp_ge (tgt := 31) C dX6_takes_5 (by decide) (fun q => ?_) (fun q => ?_)
    · replace h := hT q h
      obtain rfl := hRv h
      exact v_vret C hQ dX6_takes_31
    · replace h := hF q h
      refine v_aload_n C dX6_takes_8 rfl ?_
      refine v_getr (j := 33) C fk_X6_7 rfl dX6_takes_9 ?_
      refine v_iload_n C dX6_takes_12 rfl ?_
      refine v_aload_n C dX6_takes_13 rfl ?_
      refine v_getr (j := 34) C fk_X6_13 rfl dX6_takes_14 ?_
      refine v_bipush (v := 35) C dX6_takes_17 (by decide) ?_
      refine v_iload_n C dX6_takes_19 rfl ?_
      refine v_imul C dX6_takes_20 ?_
      refine v_iload_n C dX6_takes_21 rfl ?_
      refine v_iadd C dX6_takes_22 ?_
      obtain ⟨q1, h⟩ := hG h
      refine v_iald C rfl q1 dX6_takes_23 ?_
      obtain ⟨q2, h⟩ := hG h
      refine v_iast C rfl q2 dX6_takes_24 ?_
      refine v_iinc (v := 1) C dX6_takes_25 rfl (by decide) (by decide) rfl ?_
      refine v_goto (tgt := 2) C dX6_takes_28 (by decide) ?_
      exact v_weak [true, true, true] (ih _ _ _ h)
set_option maxHeartbeats 4000000 in
set_option maxRecDepth 100000 in
theorem Mo_takes_ok (l : Launch) {G : GG} (hI : IG G) {M M' : Mem} {v1 : Int32} (h : Mo_takes v1 M = some M') : Sp l G yX6_takes cX6_takes 3 none 0 0 [.ref (G.2.1 32), .int v1] M none M' := by
  unfold Mo_takes at h
  refine sp_intro [some (.ref (G.2.1 32)), some (.int v1), none] hI (by decide) (Nat.le_of_ble_eq_true rfl) (fun _ hq => hq) (fun X _ C hQ => ?_)
  refine v_iconst (v := 0) C dX6_takes_0 (by decide) ?_
  refine v_istore_n C dX6_takes_1 (by decide) rfl ?_
  exact v_weak [true, true, true] (Mo_takes_L2_ok C hQ _ _ _ _ h)
set_option maxHeartbeats 4000000 in
set_option maxRecDepth 100000 in
theorem Mo_back_ok (l : Launch) {G : GG} (hI : IG G) {M M' : Mem} {v1 : Int32} {r : Int32} (h : Mo_back v1 M = some (r, M')) : Sp l G yX6_back cX6_back 2 (some .int) 1 25 [.ref (G.2.1 32), .int v1] M (some (.int r)) M' := by
  unfold Mo_back at h
  refine sp_intro [some (.ref (G.2.1 32)), some (.int v1)] hI (by decide) (Nat.le_of_ble_eq_true rfl) (fun _ hq => hq) (fun X _ C hQ => ?_)
  refine v_iload_n C dX6_back_0 rfl ?_
  refine v_i2l C dX6_back_1 ?_
  refine v_lconst (v := 0) C dX6_back_2 (by decide) ?_
  refine v_lconst (v := 1) C dX6_back_3 (by decide) ?_
  obtain ⟨r3, M1, c2, h⟩ := hB h
  refine v_callSi C (Mo_in_ok (xl X) C.ig c2) ml_X6_64 mb_X6_in ms_X6_in rfl rfl (Nat.le_of_ble_eq_true rfl) (by decide) (by decide) dX6_back_4 ?_
  refine v_if_ne (tgt := 12) C dX6_back_7 (by decide) (fun q => ?_) (fun q => ?_)
  · replace h := hF q h
    refine v_aload_n C dX6_back_12 rfl ?_
    refine v_getr (j := 35) C fk_X6_16 rfl dX6_back_13 ?_
    refine v_iload_n C dX6_back_16 rfl ?_
    obtain ⟨q4, h⟩ := hG h
    refine v_zald C rfl q4 dX6_back_17 ?_
    refine v_if_ne (tgt := 24) C dX6_back_18 (by decide) (fun q => ?_) (fun q => ?_)
    · replace h := hF q h
      refine v_aload_n C dX6_back_24 rfl ?_
      refine v_iload_n C dX6_back_25 rfl ?_
      obtain ⟨M5, c6, h⟩ := hV h
      refine v_callVv C (Mo_takes_ok (xl X) C.ig c6) ml_X6_296 mb_X6_takes mv_X6_takes rfl rfl rfl (Nat.le_of_ble_eq_true rfl) (by decide) (by decide) dX6_back_26 ?_
      refine v_aload_n C dX6_back_29 rfl ?_
      obtain ⟨r9, M7, c8, h⟩ := hB h
      refine v_callVi C (Mo_shape_ok (xl X) C.ig c8) ml_X6_268 mb_X6_shape mv_X6_shape rfl rfl rfl (Nat.le_of_ble_eq_true rfl) (by decide) (by decide) dX6_back_30 ?_
      obtain ⟨rfl, rfl⟩ := hR h
      exact v_iret C hQ dX6_back_33
    · replace h := hT q h
      refine v_bipush (v := (-2)) C dX6_back_21 (by decide) ?_
      obtain ⟨rfl, rfl⟩ := hR h
      exact v_iret C hQ dX6_back_23
  · replace h := hT q h
    refine v_iconst (v := (-1)) C dX6_back_10 (by decide) ?_
    obtain ⟨rfl, rfl⟩ := hR h
    exact v_iret C hQ dX6_back_11
set_option maxHeartbeats 4000000 in
set_option maxRecDepth 100000 in
theorem Mo_findForm_L104_ok {X : XX} {G : GG} (C : Cx X G cX6_findForm 4 RX6 7 158 none) {M' : Mem} (hQ : Rt X G none M') {k87 : Nat → Int32 → Mem → Option Mem} (H87 : ∀ (v1 : Nat) (v2 : Int32) (M : Mem), isI v1 = true → k87 v1 v2 M = some M' → V X G 4 M 87 [some (.ref (G.2.1 32)), some (.ref (G.2.1 v1)), some (.int v2), none] []) : ∀ (n : Nat) (v1 : Nat) (v2 : Int32) (v3 : Int32) (M : Mem), isI v1 = true → Mo_findForm_L104 k87 n v1 v2 v3 M = some M' → V X G 4 M 104 [some (.ref (G.2.1 32)), some (.ref (G.2.1 v1)), some (.int v2), some (.int v3)] [] := by
  intro n
  induction n with
  | zero =>
    intro v1 v2 v3 M g1 h
    simp [Mo_findForm_L104] at h
  | succ n ih =>
    intro v1 v2 v3 M g1 h
    rw [Mo_findForm_L104] at h
    refine v_iload_n C dX6_findForm_104 rfl ?_
    refine v_iconst (v := 4) C dX6_findForm_105 (by decide) ?_
    refine v_icmp_gt (tgt := 133) C dX6_findForm_106 (by decide) (fun q => ?_) (fun q => ?_)
    · replace h := hT q h
      refine v_iinc (v := 1) C dX6_findForm_133 rfl (by decide) (by decide) rfl ?_
      refine v_goto (tgt := 87) C dX6_findForm_136 (by decide) ?_
      exact v_weak [true, true, true, false] (H87 _ _ _ g1 h)
    · replace h := hF q h
      refine v_aload_n C dX6_findForm_109 rfl ?_
      refine v_bipush (v := 13) C dX6_findForm_110 (by decide) ?_
      refine v_iconst (v := 4) C dX6_findForm_112 (by decide) ?_
      refine v_iload_n C dX6_findForm_113 rfl ?_
      refine v_imul C dX6_findForm_114 ?_
      refine v_iadd C dX6_findForm_115 ?_
      refine v_iload_n C dX6_findForm_116 rfl ?_
      refine v_iadd C dX6_findForm_117 ?_
      refine v_iconst (v := 1) C dX6_findForm_118 (by decide) ?_
      refine v_isub C dX6_findForm_119 ?_
      refine v_aload_n C dX6_findForm_120 rfl ?_
      refine v_getr (j := 41) C fk_X6_35 rfl dX6_findForm_121 ?_
      refine v_iload_n C dX6_findForm_124 rfl ?_
      obtain ⟨q1, h⟩ := hG h
      refine v_iald C rfl q1 dX6_findForm_125 ?_
      obtain ⟨q2, h⟩ := hG h
      refine v_iast C (arrI g1) q2 dX6_findForm_126 ?_
      refine v_iinc (v := 1) C dX6_findForm_127 rfl (by decide) (by decide) rfl ?_
      refine v_goto (tgt := 104) C dX6_findForm_130 (by decide) ?_
      exact v_weak [true, true, true, true] (ih _ _ _ _ g1 h)
set_option maxHeartbeats 4000000 in
set_option maxRecDepth 100000 in
theorem Mo_findForm_L87_ok {X : XX} {G : GG} (C : Cx X G cX6_findForm 4 RX6 7 158 none) {M' : Mem} (hQ : Rt X G none M')   : ∀ (n : Nat) (v1 : Nat) (v2 : Int32) (M : Mem), isI v1 = true → Mo_findForm_L87 n v1 v2 M = some M' → V X G 4 M 87 [some (.ref (G.2.1 32)), some (.ref (G.2.1 v1)), some (.int v2), none] [] := by
  intro n
  induction n with
  | zero =>
    intro v1 v2 M g1 h
    simp [Mo_findForm_L87] at h
  | succ n ih =>
    intro v1 v2 M g1 h
    rw [Mo_findForm_L87] at h
    refine v_iload_n C dX6_findForm_87 rfl ?_
    refine v_aload_n C dX6_findForm_88 rfl ?_
    refine v_getr (j := 33) C fk_X6_7 rfl dX6_findForm_89 ?_
    refine v_iconst (v := 0) C dX6_findForm_92 (by decide) ?_
    refine v_iald_k (k := 0) (n := 35) C rfl rfl (by decide) dX6_findForm_93 ?_
    refine v_icmp_gt (tgt := 139) C dX6_findForm_94 (by decide) (fun q => ?_) (fun q => ?_)
    · replace h := hT q h
      obtain rfl := hRv h
      exact v_vret C hQ dX6_findForm_139
    · replace h := hF q h
      refine v_aload_n C dX6_findForm_97 rfl ?_
      refine v_iload_n C dX6_findForm_98 rfl ?_
      obtain ⟨M1, c2, h⟩ := hV h
      refine v_callVv C (Mo_findLong_ok (xl X) C.ig c2) ml_X6_218 mb_X6_findLong mv_X6_findLong rfl rfl rfl (Nat.le_of_ble_eq_true rfl) (by decide) (by decide) dX6_findForm_99 ?_
      refine v_iconst (v := 1) C dX6_findForm_102 (by decide) ?_
      refine v_istore_n C dX6_findForm_103 (by decide) rfl ?_
      exact v_weak [true, true, true, true] (Mo_findForm_L104_ok C hQ ih _ _ _ _ _ g1 h)
set_option maxHeartbeats 4000000 in
set_option maxRecDepth 100000 in
theorem Mo_findForm_L51_ok {X : XX} {G : GG} (C : Cx X G cX6_findForm 4 RX6 7 158 none) {M' : Mem} (hQ : Rt X G none M')   : ∀ (n : Nat) (v1 : Nat) (v2 : Int32) (M : Mem), isI v1 = true → Mo_findForm_L51 n v1 v2 M = some M' → V X G 4 M 51 [some (.ref (G.2.1 32)), some (.ref (G.2.1 v1)), some (.int v2), none] [] := by
  intro n
  induction n with
  | zero =>
    intro v1 v2 M g1 h
    simp [Mo_findForm_L51] at h
  | succ n ih =>
    intro v1 v2 M g1 h
    rw [Mo_findForm_L51] at h
    refine v_iload_n C dX6_findForm_51 rfl ?_
    refine v_iconst (v := 4) C dX6_findForm_52 (by decide) ?_
    refine v_icmp_gt (tgt := 85) C dX6_findForm_53 (by decide) (fun q => ?_) (fun q => ?_)
    · replace h := hT q h
      refine v_iconst (v := 0) C dX6_findForm_85 (by decide) ?_
      refine v_istore_n C dX6_findForm_86 (by decide) rfl ?_
      exact v_weak [true, true, true, false] (Mo_findForm_L87_ok C hQ _ _ _ _ g1 h)
    · replace h := hF q h
      refine v_aload_n C dX6_findForm_56 rfl ?_
      refine v_iconst (v := 3) C dX6_findForm_57 (by decide) ?_
      refine v_iload_n C dX6_findForm_58 rfl ?_
      refine v_iadd C dX6_findForm_59 ?_
      refine v_aload_n C dX6_findForm_60 rfl ?_
      refine v_getr (j := 39) C fk_X6_29 rfl dX6_findForm_61 ?_
      refine v_iload_n C dX6_findForm_64 rfl ?_
      obtain ⟨q1, h⟩ := hG h
      refine v_iald C rfl q1 dX6_findForm_65 ?_
      obtain ⟨q2, h⟩ := hG h
      refine v_iast C (arrI g1) q2 dX6_findForm_66 ?_
      refine v_aload_n C dX6_findForm_67 rfl ?_
      refine v_bipush (v := 8) C dX6_findForm_68 (by decide) ?_
      refine v_iload_n C dX6_findForm_70 rfl ?_
      refine v_iadd C dX6_findForm_71 ?_
      refine v_aload_n C dX6_findForm_72 rfl ?_
      refine v_getr (j := 40) C fk_X6_32 rfl dX6_findForm_73 ?_
      refine v_iload_n C dX6_findForm_76 rfl ?_
      obtain ⟨q3, h⟩ := hG h
      refine v_iald C rfl q3 dX6_findForm_77 ?_
      obtain ⟨q4, h⟩ := hG h
      refine v_iast C (arrI g1) q4 dX6_findForm_78 ?_
      refine v_iinc (v := 1) C dX6_findForm_79 rfl (by decide) (by decide) rfl ?_
      refine v_goto (tgt := 51) C dX6_findForm_82 (by decide) ?_
      exact v_weak [true, true, true, false] (ih _ _ _ g1 h)
set_option maxHeartbeats 4000000 in
set_option maxRecDepth 100000 in
theorem Mo_findForm_L6_ok {X : XX} {G : GG} (C : Cx X G cX6_findForm 4 RX6 7 158 none) {M' : Mem} (hQ : Rt X G none M')   : ∀ (n : Nat) (v1 : Nat) (v2 : Int32) (M : Mem), isI v1 = true → Mo_findForm_L6 n v1 v2 M = some M' → V X G 4 M 6 [some (.ref (G.2.1 32)), some (.ref (G.2.1 v1)), some (.int v2), none] [] := by
  intro n
  induction n with
  | zero =>
    intro v1 v2 M g1 h
    simp [Mo_findForm_L6] at h
  | succ n ih =>
    intro v1 v2 M g1 h
    rw [Mo_findForm_L6] at h
    refine v_iload_n C dX6_findForm_6 rfl ?_
    refine v_bipush (v := 45) C dX6_findForm_7 (by decide) ?_
    refine v_icmp_ge (tgt := 22) C dX6_findForm_9 (by decide) (fun q => ?_) (fun q => ?_)
    · replace h := hT q h
      refine v_aload_n C dX6_findForm_22 rfl ?_
      refine v_iconst (v := 0) C dX6_findForm_23 (by decide) ?_
      refine v_aload_n C dX6_findForm_24 rfl ?_
      refine v_getr (j := 33) C fk_X6_7 rfl dX6_findForm_25 ?_
      refine v_iconst (v := 0) C dX6_findForm_28 (by decide) ?_
      refine v_iald_k (k := 0) (n := 35) C rfl rfl (by decide) dX6_findForm_29 ?_
      obtain ⟨q1, h⟩ := hG h
      refine v_iast C (arrI g1) q1 dX6_findForm_30 ?_
      refine v_aload_n C dX6_findForm_31 rfl ?_
      refine v_iconst (v := 1) C dX6_findForm_32 (by decide) ?_
      refine v_aload_n C dX6_findForm_33 rfl ?_
      refine v_getr (j := 33) C fk_X6_7 rfl dX6_findForm_34 ?_
      refine v_iconst (v := 1) C dX6_findForm_37 (by decide) ?_
      refine v_iald_k (k := 1) (n := 35) C rfl rfl (by decide) dX6_findForm_38 ?_
      obtain ⟨q2, h⟩ := hG h
      refine v_iast C (arrI g1) q2 dX6_findForm_39 ?_
      refine v_aload_n C dX6_findForm_40 rfl ?_
      refine v_iconst (v := 2) C dX6_findForm_41 (by decide) ?_
      refine v_aload_n C dX6_findForm_42 rfl ?_
      refine v_getr (j := 33) C fk_X6_7 rfl dX6_findForm_43 ?_
      refine v_iconst (v := 2) C dX6_findForm_46 (by decide) ?_
      refine v_iald_k (k := 2) (n := 35) C rfl rfl (by decide) dX6_findForm_47 ?_
      obtain ⟨q3, h⟩ := hG h
      refine v_iast C (arrI g1) q3 dX6_findForm_48 ?_
      refine v_iconst (v := 0) C dX6_findForm_49 (by decide) ?_
      refine v_istore_n C dX6_findForm_50 (by decide) rfl ?_
      exact v_weak [true, true, true, false] (Mo_findForm_L51_ok C hQ _ _ _ _ g1 h)
    · replace h := hF q h
      refine v_aload_n C dX6_findForm_12 rfl ?_
      refine v_iload_n C dX6_findForm_13 rfl ?_
      refine v_iconst (v := 0) C dX6_findForm_14 (by decide) ?_
      obtain ⟨q4, h⟩ := hG h
      refine v_iast C (arrI g1) q4 dX6_findForm_15 ?_
      refine v_iinc (v := 1) C dX6_findForm_16 rfl (by decide) (by decide) rfl ?_
      refine v_goto (tgt := 6) C dX6_findForm_19 (by decide) ?_
      exact v_weak [true, true, true, false] (ih _ _ _ g1 h)
set_option maxHeartbeats 4000000 in
set_option maxRecDepth 100000 in
theorem Mo_findForm_ok (l : Launch) {G : GG} (hI : IG G) {M M' : Mem} {v1 : Nat} (h : Mo_findForm v1 M = some M') : Sp l G yX6_findForm cX6_findForm 4 none 7 158 [.ref (G.2.1 32), .ref (G.2.1 v1)] M none M' := by
  unfold Mo_findForm at h
  obtain ⟨g1, h⟩ := hG h
  refine sp_intro [some (.ref (G.2.1 32)), some (.ref (G.2.1 v1)), none, none] hI (by decide) (Nat.le_of_ble_eq_true rfl) (fun _ hq => hq) (fun X _ C hQ => ?_)
  refine v_aload_n C dX6_findForm_0 rfl ?_
  obtain ⟨M1, c2, h⟩ := hV h
  refine v_callVv C (Mo_findAllIndices_ok (xl X) C.ig c2) ml_X6_227 mb_X6_findAllIndices mv_X6_findAllIndices rfl rfl rfl (Nat.le_of_ble_eq_true rfl) (by decide) (by decide) dX6_findForm_1 ?_
  refine v_iconst (v := 0) C dX6_findForm_4 (by decide) ?_
  refine v_istore_n C dX6_findForm_5 (by decide) rfl ?_
  exact v_weak [true, true, true, false] (Mo_findForm_L6_ok C hQ _ _ _ _ g1 h)
set_option maxHeartbeats 4000000 in
set_option maxRecDepth 100000 in
theorem Mo_alike_b131_ok {X : XX} {G : GG} (C : Cx X G cX6_alike 4 RX6 8 181 (some .int)) {r : Int32} {M' : Mem} (hQ : Rt X G (some (.int r)) M') {k101 : Int32 → Int32 → Mem → Option (Int32 × Mem)} (H101 : ∀ (v2 : Int32) (v3 : Int32) (M : Mem), k101 v2 v3 M = some (r, M') → V X G 4 M 101 [some (.ref (G.2.1 32)), none, some (.int v2), some (.int v3)] []) {v3 : Int32} {s0 : Int32} {M : Mem}  (h : Mo_alike_b131 k101 v3 s0 M = some (r, M')) : V X G 4 M 131 [some (.ref (G.2.1 32)), none, none, some (.int v3)] [.int s0] := by
  unfold Mo_alike_b131 at h
  refine v_istore_n C dX6_alike_131 (by decide) rfl ?_
  refine v_iinc (v := 1) C dX6_alike_132 rfl (by decide) (by decide) rfl ?_
  refine v_goto (tgt := 101) C dX6_alike_135 (by decide) ?_
  exact v_weak [true, false, true, true] (H101 _ _ _ h)
set_option maxHeartbeats 4000000 in
set_option maxRecDepth 100000 in
theorem Mo_alike_b130_ok {X : XX} {G : GG} (C : Cx X G cX6_alike 4 RX6 8 181 (some .int)) {r : Int32} {M' : Mem} (hQ : Rt X G (some (.int r)) M') {k101 : Int32 → Int32 → Mem → Option (Int32 × Mem)} (H101 : ∀ (v2 : Int32) (v3 : Int32) (M : Mem), k101 v2 v3 M = some (r, M') → V X G 4 M 101 [some (.ref (G.2.1 32)), none, some (.int v2), some (.int v3)] []) {v3 : Int32} {M : Mem}  (h : Mo_alike_b130 k101 v3 M = some (r, M')) : V X G 4 M 130 [some (.ref (G.2.1 32)), none, none, some (.int v3)] [] := by
  unfold Mo_alike_b130 at h
  refine v_iconst (v := 0) C dX6_alike_130 (by decide) ?_
  exact v_weak [true, false, false, true] (Mo_alike_b131_ok C hQ H101 h)
set_option maxHeartbeats 4000000 in
set_option maxRecDepth 100000 in
theorem Mo_alike_L101_ok {X : XX} {G : GG} (C : Cx X G cX6_alike 4 RX6 8 181 (some .int)) {r : Int32} {M' : Mem} (hQ : Rt X G (some (.int r)) M')   : ∀ (n : Nat) (v2 : Int32) (v3 : Int32) (M : Mem), Mo_alike_L101 n v2 v3 M = some (r, M') → V X G 4 M 101 [some (.ref (G.2.1 32)), none, some (.int v2), some (.int v3)] [] := by
  intro n
  induction n with
  | zero =>
    intro v2 v3 M h
    simp [Mo_alike_L101] at h
  | succ n ih =>
    intro v2 v3 M h
    rw [Mo_alike_L101] at h
    refine v_iload_n C dX6_alike_101 rfl ?_
    refine v_bipush (v := 45) C dX6_alike_102 (by decide) ?_
    refine v_icmp_ge (tgt := 138) C dX6_alike_104 (by decide) (fun q => ?_) (fun q => ?_)
    · replace h := hT q h
      refine v_iload_n C dX6_alike_138 rfl ?_
      obtain ⟨r3, M1, c2, h⟩ := hB h
      refine v_callSi C (Mo_flag_ok (xl X) C.ig c2) ml_X6_214 mb_X6_flag ms_X6_flag rfl rfl (Nat.le_of_ble_eq_true rfl) (by decide) (by decide) dX6_alike_139 ?_
      obtain ⟨rfl, rfl⟩ := hR h
      exact v_iret C hQ dX6_alike_142
    · replace h := hF q h
      refine v_iload_n C dX6_alike_107 rfl ?_
      refine v_if_eq (tgt := 130) C dX6_alike_108 (by decide) (fun q => ?_) (fun q => ?_)
      · replace h := hT q h
        exact v_weak [true, false, false, true] (Mo_alike_b130_ok C hQ ih h)
      · replace h := hF q h
        refine v_aload_n C dX6_alike_111 rfl ?_
        refine v_getr (j := 44) C fk_X6_44 rfl dX6_alike_112 ?_
        refine v_iload_n C dX6_alike_115 rfl ?_
        obtain ⟨q4, h⟩ := hG h
        refine v_iald C rfl q4 dX6_alike_116 ?_
        refine v_aload_n C dX6_alike_117 rfl ?_
        refine v_getr (j := 45) C fk_X6_47 rfl dX6_alike_118 ?_
        refine v_iload_n C dX6_alike_121 rfl ?_
        obtain ⟨q5, h⟩ := hG h
        refine v_iald C rfl q5 dX6_alike_122 ?_
        refine v_icmp_ne (tgt := 130) C dX6_alike_123 (by decide) (fun q => ?_) (fun q => ?_)
        · replace h := hF q h
          exact v_weak [true, false, false, true] (Mo_alike_b130_ok C hQ ih h)
        · replace h := hT q h
          refine v_iconst (v := 1) C dX6_alike_126 (by decide) ?_
          refine v_goto (tgt := 131) C dX6_alike_127 (by decide) ?_
          exact v_weak [true, false, false, true] (Mo_alike_b131_ok C hQ ih h)
set_option maxHeartbeats 4000000 in
set_option maxRecDepth 100000 in
theorem Mo_alike_L73_ok {X : XX} {G : GG} (C : Cx X G cX6_alike 4 RX6 8 181 (some .int)) {r : Int32} {M' : Mem} (hQ : Rt X G (some (.int r)) M')   : ∀ (n : Nat) (v2 : Int32) (M : Mem), Mo_alike_L73 n v2 M = some (r, M') → V X G 4 M 73 [some (.ref (G.2.1 32)), none, some (.int v2), none] [] := by
  intro n
  induction n with
  | zero =>
    intro v2 M h
    simp [Mo_alike_L73] at h
  | succ n ih =>
    intro v2 M h
    rw [Mo_alike_L73] at h
    refine v_iload_n C dX6_alike_73 rfl ?_
    refine v_bipush (v := 35) C dX6_alike_74 (by decide) ?_
    refine v_icmp_ge (tgt := 97) C dX6_alike_76 (by decide) (fun q => ?_) (fun q => ?_)
    · replace h := hT q h
      refine v_iconst (v := 1) C dX6_alike_97 (by decide) ?_
      refine v_istore_n C dX6_alike_98 (by decide) rfl ?_
      refine v_iconst (v := 0) C dX6_alike_99 (by decide) ?_
      refine v_istore_n C dX6_alike_100 (by decide) rfl ?_
      exact v_weak [true, false, true, true] (Mo_alike_L101_ok C hQ _ _ _ _ h)
    · replace h := hF q h
      refine v_aload_n C dX6_alike_79 rfl ?_
      refine v_getr (j := 33) C fk_X6_7 rfl dX6_alike_80 ?_
      refine v_iload_n C dX6_alike_83 rfl ?_
      refine v_aload_n C dX6_alike_84 rfl ?_
      refine v_getr (j := 43) C fk_X6_41 rfl dX6_alike_85 ?_
      refine v_iload_n C dX6_alike_88 rfl ?_
      obtain ⟨q1, h⟩ := hG h
      refine v_iald C rfl q1 dX6_alike_89 ?_
      obtain ⟨q2, h⟩ := hG h
      refine v_iast C rfl q2 dX6_alike_90 ?_
      refine v_iinc (v := 1) C dX6_alike_91 rfl (by decide) (by decide) rfl ?_
      refine v_goto (tgt := 73) C dX6_alike_94 (by decide) ?_
      exact v_weak [true, false, true, false] (ih _ _ h)
set_option maxHeartbeats 4000000 in
set_option maxRecDepth 100000 in
theorem Mo_alike_L26_ok {X : XX} {G : GG} (C : Cx X G cX6_alike 4 RX6 8 181 (some .int)) {r : Int32} {M' : Mem} (hQ : Rt X G (some (.int r)) M')   : ∀ (n : Nat) (v1 : Int32) (v2 : Int32) (M : Mem), Mo_alike_L26 n v1 v2 M = some (r, M') → V X G 4 M 26 [some (.ref (G.2.1 32)), some (.int v1), some (.int v2), none] [] := by
  intro n
  induction n with
  | zero =>
    intro v1 v2 M h
    simp [Mo_alike_L26] at h
  | succ n ih =>
    intro v1 v2 M h
    rw [Mo_alike_L26] at h
    refine v_iload_n C dX6_alike_26 rfl ?_
    refine v_bipush (v := 35) C dX6_alike_27 (by decide) ?_
    refine v_icmp_ge (tgt := 50) C dX6_alike_29 (by decide) (fun q => ?_) (fun q => ?_)
    · replace h := hT q h
      refine v_aload_n C dX6_alike_50 rfl ?_
      refine v_aload_n C dX6_alike_51 rfl ?_
      refine v_getr (j := 44) C fk_X6_44 rfl dX6_alike_52 ?_
      obtain ⟨M1, c2, h⟩ := hV h
      refine v_callVv C (Mo_findForm_ok (xl X) C.ig c2) ml_X6_299 mb_X6_findForm mv_X6_findForm rfl rfl rfl (Nat.le_of_ble_eq_true rfl) (by decide) (by decide) dX6_alike_55 ?_
      refine v_aload_n C dX6_alike_58 rfl ?_
      refine v_iload_n C dX6_alike_59 rfl ?_
      obtain ⟨M3, c4, h⟩ := hV h
      refine v_callVv C (Mo_takes_ok (xl X) C.ig c4) ml_X6_296 mb_X6_takes mv_X6_takes rfl rfl rfl (Nat.le_of_ble_eq_true rfl) (by decide) (by decide) dX6_alike_60 ?_
      refine v_aload_n C dX6_alike_63 rfl ?_
      refine v_aload_n C dX6_alike_64 rfl ?_
      refine v_getr (j := 45) C fk_X6_47 rfl dX6_alike_65 ?_
      obtain ⟨M5, c6, h⟩ := hV h
      refine v_callVv C (Mo_findForm_ok (xl X) C.ig c6) ml_X6_299 mb_X6_findForm mv_X6_findForm rfl rfl rfl (Nat.le_of_ble_eq_true rfl) (by decide) (by decide) dX6_alike_68 ?_
      refine v_iconst (v := 0) C dX6_alike_71 (by decide) ?_
      refine v_istore_n C dX6_alike_72 (by decide) rfl ?_
      exact v_weak [true, false, true, false] (Mo_alike_L73_ok C hQ _ _ _ h)
    · replace h := hF q h
      refine v_aload_n C dX6_alike_32 rfl ?_
      refine v_getr (j := 43) C fk_X6_41 rfl dX6_alike_33 ?_
      refine v_iload_n C dX6_alike_36 rfl ?_
      refine v_aload_n C dX6_alike_37 rfl ?_
      refine v_getr (j := 33) C fk_X6_7 rfl dX6_alike_38 ?_
      refine v_iload_n C dX6_alike_41 rfl ?_
      obtain ⟨q7, h⟩ := hG h
      refine v_iald C rfl q7 dX6_alike_42 ?_
      obtain ⟨q8, h⟩ := hG h
      refine v_iast C rfl q8 dX6_alike_43 ?_
      refine v_iinc (v := 1) C dX6_alike_44 rfl (by decide) (by decide) rfl ?_
      refine v_goto (tgt := 26) C dX6_alike_47 (by decide) ?_
      exact v_weak [true, true, true, false] (ih _ _ _ h)
set_option maxHeartbeats 4000000 in
set_option maxRecDepth 100000 in
theorem Mo_alike_ok (l : Launch) {G : GG} (hI : IG G) {M M' : Mem} {v1 : Int32} {r : Int32} (h : Mo_alike v1 M = some (r, M')) : Sp l G yX6_alike cX6_alike 4 (some .int) 8 181 [.ref (G.2.1 32), .int v1] M (some (.int r)) M' := by
  unfold Mo_alike at h
  refine sp_intro [some (.ref (G.2.1 32)), some (.int v1), none, none] hI (by decide) (Nat.le_of_ble_eq_true rfl) (fun _ hq => hq) (fun X _ C hQ => ?_)
  refine v_iload_n C dX6_alike_0 rfl ?_
  refine v_i2l C dX6_alike_1 ?_
  refine v_lconst (v := 0) C dX6_alike_2 (by decide) ?_
  refine v_lconst (v := 1) C dX6_alike_3 (by decide) ?_
  obtain ⟨r3, M1, c2, h⟩ := hB h
  refine v_callSi C (Mo_in_ok (xl X) C.ig c2) ml_X6_64 mb_X6_in ms_X6_in rfl rfl (Nat.le_of_ble_eq_true rfl) (by decide) (by decide) dX6_alike_4 ?_
  refine v_if_ne (tgt := 12) C dX6_alike_7 (by decide) (fun q => ?_) (fun q => ?_)
  · replace h := hF q h
    refine v_aload_n C dX6_alike_12 rfl ?_
    refine v_getr (j := 35) C fk_X6_16 rfl dX6_alike_13 ?_
    refine v_iload_n C dX6_alike_16 rfl ?_
    obtain ⟨q4, h⟩ := hG h
    refine v_zald C rfl q4 dX6_alike_17 ?_
    refine v_if_ne (tgt := 24) C dX6_alike_18 (by decide) (fun q => ?_) (fun q => ?_)
    · replace h := hF q h
      refine v_iconst (v := 0) C dX6_alike_24 (by decide) ?_
      refine v_istore_n C dX6_alike_25 (by decide) rfl ?_
      exact v_weak [true, true, true, false] (Mo_alike_L26_ok C hQ _ _ _ _ h)
    · replace h := hT q h
      refine v_bipush (v := (-2)) C dX6_alike_21 (by decide) ?_
      obtain ⟨rfl, rfl⟩ := hR h
      exact v_iret C hQ dX6_alike_23
  · replace h := hT q h
    refine v_iconst (v := (-1)) C dX6_alike_10 (by decide) ?_
    obtain ⟨rfl, rfl⟩ := hR h
    exact v_iret C hQ dX6_alike_11
