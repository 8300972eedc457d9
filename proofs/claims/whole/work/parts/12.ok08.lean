set_option maxHeartbeats 4000000 in
set_option maxRecDepth 100000 in
theorem Mo_isPrime_ok (l : Launch) {G : GG} (hI : IG G) {M M' : Mem} {v0 : Int32} {r : Int32} (h : Mo_isPrime v0 M = some (r, M')) : Sp l G yX6_isPrime cX6_isPrime 1 (some .boolean) 0 0 [.int v0] M (some (.int r)) M' := by
  unfold Mo_isPrime at h
  refine sp_intro [some (.int v0)] hI (by decide) (Nat.le_of_ble_eq_true rfl) (fun _ hq => hq) (fun X _ C hQ => ?_)
  refine v_iload_n C dX6_isPrime_0 rfl ?_
  refine v_iconst (v := 2) C dX6_isPrime_1 (by decide) ?_
  refine v_icmp_eq (tgt := 21) C dX6_isPrime_2 (by decide) (fun q => ?_) (fun q => ?_)
  · replace h := hT q h
    refine v_iconst (v := 1) C dX6_isPrime_21 (by decide) ?_
    refine v_goto (tgt := 26) C dX6_isPrime_22 (by decide) ?_
    obtain ⟨rfl, rfl⟩ := hR h
    exact v_zret C hQ rfl dX6_isPrime_26
  · replace h := hF q h
    refine v_iload_n C dX6_isPrime_5 rfl ?_
    refine v_iconst (v := 3) C dX6_isPrime_6 (by decide) ?_
    refine v_icmp_eq (tgt := 21) C dX6_isPrime_7 (by decide) (fun q => ?_) (fun q => ?_)
    · replace h := hT q h
      refine v_iconst (v := 1) C dX6_isPrime_21 (by decide) ?_
      refine v_goto (tgt := 26) C dX6_isPrime_22 (by decide) ?_
      obtain ⟨rfl, rfl⟩ := hR h
      exact v_zret C hQ rfl dX6_isPrime_26
    · replace h := hF q h
      refine v_iload_n C dX6_isPrime_10 rfl ?_
      refine v_iconst (v := 5) C dX6_isPrime_11 (by decide) ?_
      refine v_icmp_eq (tgt := 21) C dX6_isPrime_12 (by decide) (fun q => ?_) (fun q => ?_)
      · replace h := hT q h
        refine v_iconst (v := 1) C dX6_isPrime_21 (by decide) ?_
        refine v_goto (tgt := 26) C dX6_isPrime_22 (by decide) ?_
        obtain ⟨rfl, rfl⟩ := hR h
        exact v_zret C hQ rfl dX6_isPrime_26
      · replace h := hF q h
        refine v_iload_n C dX6_isPrime_15 rfl ?_
        refine v_bipush (v := 7) C dX6_isPrime_16 (by decide) ?_
        refine v_icmp_ne (tgt := 25) C dX6_isPrime_18 (by decide) (fun q => ?_) (fun q => ?_)
        · replace h := hF q h
          refine v_iconst (v := 0) C dX6_isPrime_25 (by decide) ?_
          obtain ⟨rfl, rfl⟩ := hR h
          exact v_zret C hQ rfl dX6_isPrime_26
        · replace h := hT q h
          refine v_iconst (v := 1) C dX6_isPrime_21 (by decide) ?_
          refine v_goto (tgt := 26) C dX6_isPrime_22 (by decide) ?_
          obtain ⟨rfl, rfl⟩ := hR h
          exact v_zret C hQ rfl dX6_isPrime_26
set_option maxHeartbeats 4000000 in
set_option maxRecDepth 100000 in
theorem Mo_readNumber_b49_ok {X : XX} {G : GG} (C : Cx X G cX6_readNumber 3 RX6 1 25 (some .int)) {r : Int32} {M' : Mem} (hQ : Rt X G (some (.int r)) M')    {M : Mem}  (h : Mo_readNumber_b49 M = some (r, M')) : V X G 3 M 49 [some (.ref (G.2.1 32)), none, none] [] := by
  unfold Mo_readNumber_b49 at h
  refine v_aload_n C dX6_readNumber_49 rfl ?_
  refine v_geti C fk_X6_72 rfl dX6_readNumber_50 ?_
  refine v_if_ne (tgt := 63) C dX6_readNumber_53 (by decide) (fun q => ?_) (fun q => ?_)
  · replace h := hF q h
    refine v_iconst (v := 0) C dX6_readNumber_63 (by decide) ?_
    obtain ⟨rfl, rfl⟩ := hR h
    exact v_iret C hQ dX6_readNumber_64
  · replace h := hT q h
    refine v_aload_n C dX6_readNumber_56 rfl ?_
    refine v_geti C fk_X6_103 rfl dX6_readNumber_57 ?_
    refine v_goto (tgt := 64) C dX6_readNumber_60 (by decide) ?_
    obtain ⟨rfl, rfl⟩ := hR h
    exact v_iret C hQ dX6_readNumber_64
set_option maxHeartbeats 4000000 in
set_option maxRecDepth 100000 in
theorem Mo_readNumber_b25_ok {X : XX} {G : GG} (C : Cx X G cX6_readNumber 3 RX6 1 25 (some .int)) {r : Int32} {M' : Mem} (hQ : Rt X G (some (.int r)) M')   {v1 : Int32} {v2 : Int32} {M : Mem}  (h : Mo_readNumber_b25 v1 v2 M = some (r, M')) : V X G 3 M 25 [some (.ref (G.2.1 32)), some (.int v1), some (.int v2)] [] := by
  unfold Mo_readNumber_b25 at h
  refine v_aload_n C dX6_readNumber_25 rfl ?_
  refine v_geti C fk_X6_72 rfl dX6_readNumber_26 ?_
  refine v_if_ne (tgt := 49) C dX6_readNumber_29 (by decide) (fun q => ?_) (fun q => ?_)
  · replace h := hF q h
    exact v_weak [true, false, false] (Mo_readNumber_b49_ok C hQ h)
  · replace h := hT q h
    refine v_aload_n C dX6_readNumber_32 rfl ?_
    refine v_aload_n C dX6_readNumber_33 rfl ?_
    refine v_geti C fk_X6_103 rfl dX6_readNumber_34 ?_
    refine v_i2l C dX6_readNumber_37 ?_
    refine v_iload_n C dX6_readNumber_38 rfl ?_
    refine v_i2l C dX6_readNumber_39 ?_
    refine v_iload_n C dX6_readNumber_40 rfl ?_
    refine v_i2l C dX6_readNumber_41 ?_
    obtain ⟨r3, M1, c2, h⟩ := hB h
    refine v_callSi C (Mo_in_ok (xl X) C.ig c2) ml_X6_64 mb_X6_in ms_X6_in rfl rfl (Nat.le_of_ble_eq_true rfl) (by decide) (by decide) dX6_readNumber_42 ?_
    refine v_iconst (v := 3) C dX6_readNumber_45 (by decide) ?_
    obtain ⟨M4, c5, h⟩ := hV h
    refine v_callVv C (Mo_requires_ok (xl X) C.ig c5) ml_X6_106 mb_X6_requires mv_X6_requires rfl rfl rfl (Nat.le_of_ble_eq_true rfl) (by decide) (by decide) dX6_readNumber_46 ?_
    exact v_weak [true, false, false] (Mo_readNumber_b49_ok C hQ h)
set_option maxHeartbeats 4000000 in
set_option maxRecDepth 100000 in
theorem Mo_readNumber_b21_ok {X : XX} {G : GG} (C : Cx X G cX6_readNumber 3 RX6 1 25 (some .int)) {r : Int32} {M' : Mem} (hQ : Rt X G (some (.int r)) M')   {v1 : Int32} {v2 : Int32} {s1 : Int32} {M : Mem}  (h : Mo_readNumber_b21 v1 v2 s1 M = some (r, M')) : V X G 3 M 21 [some (.ref (G.2.1 32)), some (.int v1), some (.int v2)] [.int s1, .ref (G.2.1 32)] := by
  unfold Mo_readNumber_b21 at h
  refine v_iconst (v := 2) C dX6_readNumber_21 (by decide) ?_
  obtain ⟨M1, c2, h⟩ := hV h
  refine v_callVv C (Mo_requires_ok (xl X) C.ig c2) ml_X6_106 mb_X6_requires mv_X6_requires rfl rfl rfl (Nat.le_of_ble_eq_true rfl) (by decide) (by decide) dX6_readNumber_22 ?_
  exact v_weak [true, true, true] (Mo_readNumber_b25_ok C hQ h)
set_option maxHeartbeats 4000000 in
set_option maxRecDepth 100000 in
theorem Mo_readNumber_ok (l : Launch) {G : GG} (hI : IG G) {M M' : Mem} {v1 : Int32} {v2 : Int32} {r : Int32} (h : Mo_readNumber v1 v2 M = some (r, M')) : Sp l G yX6_readNumber cX6_readNumber 3 (some .int) 1 25 [.ref (G.2.1 32), .int v1, .int v2] M (some (.int r)) M' := by
  unfold Mo_readNumber at h
  refine sp_intro [some (.ref (G.2.1 32)), some (.int v1), some (.int v2)] hI (by decide) (Nat.le_of_ble_eq_true rfl) (fun _ hq => hq) (fun X _ C hQ => ?_)
  refine v_aload_n C dX6_readNumber_0 rfl ?_
  refine v_geti C fk_X6_72 rfl dX6_readNumber_1 ?_
  refine v_if_ne (tgt := 25) C dX6_readNumber_4 (by decide) (fun q => ?_) (fun q => ?_)
  · replace h := hF q h
    exact v_weak [true, true, true] (Mo_readNumber_b25_ok C hQ h)
  · replace h := hT q h
    refine v_aload_n C dX6_readNumber_7 rfl ?_
    refine v_aload_n C dX6_readNumber_8 rfl ?_
    refine v_geti C fk_X6_92 rfl dX6_readNumber_9 ?_
    refine v_iconst (v := 2) C dX6_readNumber_12 (by decide) ?_
    refine v_icmp_ne (tgt := 20) C dX6_readNumber_13 (by decide) (fun q => ?_) (fun q => ?_)
    · replace h := hF q h
      refine v_iconst (v := 0) C dX6_readNumber_20 (by decide) ?_
      exact v_weak [true, true, true] (Mo_readNumber_b21_ok C hQ h)
    · replace h := hT q h
      refine v_iconst (v := 1) C dX6_readNumber_16 (by decide) ?_
      refine v_goto (tgt := 21) C dX6_readNumber_17 (by decide) ?_
      exact v_weak [true, true, true] (Mo_readNumber_b21_ok C hQ h)
set_option maxHeartbeats 4000000 in
set_option maxRecDepth 100000 in
theorem Mo_draws_ok (l : Launch) {G : GG} (hI : IG G) {M M' : Mem} {v1 : Int32} {v2 : Int32} {v3 : Int32} {v4 : Int32} (h : Mo_draws v1 v2 v3 v4 M = some M') : Sp l G yX6_draws cX6_draws 5 none 0 0 [.ref (G.2.1 32), .int v1, .int v2, .int v3, .int v4] M none M' := by
  unfold Mo_draws at h
  refine sp_intro [some (.ref (G.2.1 32)), some (.int v1), some (.int v2), some (.int v3), some (.int v4)] hI (by decide) (Nat.le_of_ble_eq_true rfl) (fun _ hq => hq) (fun X _ C hQ => ?_)
  refine v_aload_n C dX6_draws_0 rfl ?_
  refine v_getr (j := 36) C fk_X6_20 rfl dX6_draws_1 ?_
  refine v_iconst (v := 3) C dX6_draws_4 (by decide) ?_
  refine v_bipush (v := 16) C dX6_draws_5 (by decide) ?_
  refine v_iload_n C dX6_draws_7 rfl ?_
  refine v_imul C dX6_draws_8 ?_
  refine v_iadd C dX6_draws_9 ?_
  refine v_iconst (v := 4) C dX6_draws_10 (by decide) ?_
  refine v_iload_n C dX6_draws_11 rfl ?_
  refine v_imul C dX6_draws_12 ?_
  refine v_iadd C dX6_draws_13 ?_
  refine v_iload_n C dX6_draws_14 rfl ?_
  refine v_iadd C dX6_draws_15 ?_
  refine v_iload C dX6_draws_16 rfl ?_
  obtain ⟨q1, h⟩ := hG h
  refine v_iast C rfl q1 dX6_draws_18 ?_
  obtain rfl := hRv h
  exact v_vret C hQ dX6_draws_19
set_option maxHeartbeats 4000000 in
set_option maxRecDepth 100000 in
theorem Mo_blockComes_b239_ok {X : XX} {G : GG} (C : Cx X G cX6_blockComes 9 RX6 1 24 none) {M' : Mem} (hQ : Rt X G none M') {k90 : Int32 → Int32 → Int32 → Int32 → Int32 → Int32 → Int32 → Int32 → Mem → Option Mem} (H90 : ∀ (v1 : Int32) (v2 : Int32) (v3 : Int32) (v4 : Int32) (v5 : Int32) (v6 : Int32) (v7 : Int32) (v8 : Int32) (M : Mem), k90 v1 v2 v3 v4 v5 v6 v7 v8 M = some M' → V X G 9 M 90 [some (.ref (G.2.1 32)), some (.int v1), some (.int v2), some (.int v3), some (.int v4), some (.int v5), some (.int v6), some (.int v7), some (.int v8)] []) {v1 : Int32} {v2 : Int32} {v3 : Int32} {v4 : Int32} {v5 : Int32} {v6 : Int32} {v7 : Int32} {v8 : Int32} {M : Mem}  (h : Mo_blockComes_b239 k90 v1 v2 v3 v4 v5 v6 v7 v8 M = some M') : V X G 9 M 239 [some (.ref (G.2.1 32)), some (.int v1), some (.int v2), some (.int v3), some (.int v4), some (.int v5), some (.int v6), some (.int v7), some (.int v8)] [] := by
  unfold Mo_blockComes_b239 at h
  refine v_iinc (v := 1) C dX6_blockComes_239 rfl (by decide) (by decide) rfl ?_
  refine v_goto (tgt := 90) C dX6_blockComes_242 (by decide) ?_
  exact v_weak [true, true, true, true, true, true, true, true, true] (H90 _ _ _ _ _ _ _ _ _ h)
set_option maxHeartbeats 4000000 in
set_option maxRecDepth 100000 in
theorem Mo_blockComes_b223_ok {X : XX} {G : GG} (C : Cx X G cX6_blockComes 9 RX6 1 24 none) {M' : Mem} (hQ : Rt X G none M') {k90 : Int32 → Int32 → Int32 → Int32 → Int32 → Int32 → Int32 → Int32 → Mem → Option Mem} (H90 : ∀ (v1 : Int32) (v2 : Int32) (v3 : Int32) (v4 : Int32) (v5 : Int32) (v6 : Int32) (v7 : Int32) (v8 : Int32) (M : Mem), k90 v1 v2 v3 v4 v5 v6 v7 v8 M = some M' → V X G 9 M 90 [some (.ref (G.2.1 32)), some (.int v1), some (.int v2), some (.int v3), some (.int v4), some (.int v5), some (.int v6), some (.int v7), some (.int v8)] []) {v1 : Int32} {v2 : Int32} {v3 : Int32} {v4 : Int32} {v5 : Int32} {v6 : Int32} {v7 : Int32} {v8 : Int32} {s1 : Int32} {M : Mem}  (h : Mo_blockComes_b223 k90 v1 v2 v3 v4 v5 v6 v7 v8 s1 M = some M') : V X G 9 M 223 [some (.ref (G.2.1 32)), some (.int v1), some (.int v2), some (.int v3), some (.int v4), some (.int v5), some (.int v6), some (.int v7), some (.int v8)] [.int s1, .ref (G.2.1 32)] := by
  unfold Mo_blockComes_b223 at h
  refine v_iload C dX6_blockComes_223 rfl ?_
  refine v_iload C dX6_blockComes_225 rfl ?_
  refine v_iadd C dX6_blockComes_227 ?_
  refine v_iload C dX6_blockComes_228 rfl ?_
  refine v_iload C dX6_blockComes_230 rfl ?_
  refine v_iadd C dX6_blockComes_232 ?_
  refine v_iconst (v := 1) C dX6_blockComes_233 (by decide) ?_
  refine v_iadd C dX6_blockComes_234 ?_
  refine v_iconst (v := 1) C dX6_blockComes_235 (by decide) ?_
  obtain ⟨M1, c2, h⟩ := hV h
  refine v_callVv C (Mo_draws_ok (xl X) C.ig c2) ml_X6_110 mb_X6_draws mv_X6_draws rfl rfl rfl (Nat.le_of_ble_eq_true rfl) (by decide) (by decide) dX6_blockComes_236 ?_
  exact v_weak [true, true, true, true, true, true, true, true, true] (Mo_blockComes_b239_ok C hQ H90 h)
set_option maxHeartbeats 4000000 in
set_option maxRecDepth 100000 in
theorem Mo_blockComes_b212_ok {X : XX} {G : GG} (C : Cx X G cX6_blockComes 9 RX6 1 24 none) {M' : Mem} (hQ : Rt X G none M') {k90 : Int32 → Int32 → Int32 → Int32 → Int32 → Int32 → Int32 → Int32 → Mem → Option Mem} (H90 : ∀ (v1 : Int32) (v2 : Int32) (v3 : Int32) (v4 : Int32) (v5 : Int32) (v6 : Int32) (v7 : Int32) (v8 : Int32) (M : Mem), k90 v1 v2 v3 v4 v5 v6 v7 v8 M = some M' → V X G 9 M 90 [some (.ref (G.2.1 32)), some (.int v1), some (.int v2), some (.int v3), some (.int v4), some (.int v5), some (.int v6), some (.int v7), some (.int v8)] []) {v1 : Int32} {v2 : Int32} {v3 : Int32} {v4 : Int32} {v5 : Int32} {v6 : Int32} {v7 : Int32} {v8 : Int32} {M : Mem}  (h : Mo_blockComes_b212 k90 v1 v2 v3 v4 v5 v6 v7 v8 M = some M') : V X G 9 M 212 [some (.ref (G.2.1 32)), some (.int v1), some (.int v2), some (.int v3), some (.int v4), some (.int v5), some (.int v6), some (.int v7), some (.int v8)] [] := by
  unfold Mo_blockComes_b212 at h
  refine v_aload_n C dX6_blockComes_212 rfl ?_
  refine v_iload_n C dX6_blockComes_213 rfl ?_
  refine v_iconst (v := 3) C dX6_blockComes_214 (by decide) ?_
  refine v_icmp_ne (tgt := 222) C dX6_blockComes_215 (by decide) (fun q => ?_) (fun q => ?_)
  · replace h := hF q h
    refine v_iconst (v := 0) C dX6_blockComes_222 (by decide) ?_
    exact v_weak [true, true, true, true, true, true, true, true, true] (Mo_blockComes_b223_ok C hQ H90 h)
  · replace h := hT q h
    refine v_iconst (v := 1) C dX6_blockComes_218 (by decide) ?_
    refine v_goto (tgt := 223) C dX6_blockComes_219 (by decide) ?_
    exact v_weak [true, true, true, true, true, true, true, true, true] (Mo_blockComes_b223_ok C hQ H90 h)
set_option maxHeartbeats 4000000 in
set_option maxRecDepth 100000 in
theorem Mo_blockComes_b194_ok {X : XX} {G : GG} (C : Cx X G cX6_blockComes 9 RX6 1 24 none) {M' : Mem} (hQ : Rt X G none M') {k90 : Int32 → Int32 → Int32 → Int32 → Int32 → Int32 → Int32 → Int32 → Mem → Option Mem} (H90 : ∀ (v1 : Int32) (v2 : Int32) (v3 : Int32) (v4 : Int32) (v5 : Int32) (v6 : Int32) (v7 : Int32) (v8 : Int32) (M : Mem), k90 v1 v2 v3 v4 v5 v6 v7 v8 M = some M' → V X G 9 M 90 [some (.ref (G.2.1 32)), some (.int v1), some (.int v2), some (.int v3), some (.int v4), some (.int v5), some (.int v6), some (.int v7), some (.int v8)] []) {v1 : Int32} {v2 : Int32} {v3 : Int32} {v4 : Int32} {v5 : Int32} {v6 : Int32} {v7 : Int32} {v8 : Int32} {M : Mem}  (h : Mo_blockComes_b194 k90 v1 v2 v3 v4 v5 v6 v7 v8 M = some M') : V X G 9 M 194 [some (.ref (G.2.1 32)), some (.int v1), some (.int v2), some (.int v3), some (.int v4), some (.int v5), some (.int v6), some (.int v7), some (.int v8)] [] := by
  unfold Mo_blockComes_b194 at h
  refine v_iload C dX6_blockComes_194 rfl ?_
  refine v_iconst (v := 1) C dX6_blockComes_196 (by decide) ?_
  refine v_iadd C dX6_blockComes_197 ?_
  refine v_iload_n C dX6_blockComes_198 rfl ?_
  refine v_icmp_ge (tgt := 239) C dX6_blockComes_199 (by decide) (fun q => ?_) (fun q => ?_)
  · replace h := hT q h
    exact v_weak [true, true, true, true, true, true, true, true, true] (Mo_blockComes_b239_ok C hQ H90 h)
  · replace h := hF q h
    refine v_iload_n C dX6_blockComes_202 rfl ?_
    refine v_iconst (v := 3) C dX6_blockComes_203 (by decide) ?_
    refine v_icmp_eq (tgt := 212) C dX6_blockComes_204 (by decide) (fun q => ?_) (fun q => ?_)
    · replace h := hT q h
      exact v_weak [true, true, true, true, true, true, true, true, true] (Mo_blockComes_b212_ok C hQ H90 h)
    · replace h := hF q h
      refine v_iload_n C dX6_blockComes_207 rfl ?_
      refine v_iconst (v := 4) C dX6_blockComes_208 (by decide) ?_
      refine v_icmp_ne (tgt := 239) C dX6_blockComes_209 (by decide) (fun q => ?_) (fun q => ?_)
      · replace h := hF q h
        exact v_weak [true, true, true, true, true, true, true, true, true] (Mo_blockComes_b239_ok C hQ H90 h)
      · replace h := hT q h
        exact v_weak [true, true, true, true, true, true, true, true, true] (Mo_blockComes_b212_ok C hQ H90 h)
set_option maxHeartbeats 4000000 in
set_option maxRecDepth 100000 in
theorem Mo_blockComes_b118_ok {X : XX} {G : GG} (C : Cx X G cX6_blockComes 9 RX6 1 24 none) {M' : Mem} (hQ : Rt X G none M') {k90 : Int32 → Int32 → Int32 → Int32 → Int32 → Int32 → Int32 → Int32 → Mem → Option Mem} (H90 : ∀ (v1 : Int32) (v2 : Int32) (v3 : Int32) (v4 : Int32) (v5 : Int32) (v6 : Int32) (v7 : Int32) (v8 : Int32) (M : Mem), k90 v1 v2 v3 v4 v5 v6 v7 v8 M = some M' → V X G 9 M 90 [some (.ref (G.2.1 32)), some (.int v1), some (.int v2), some (.int v3), some (.int v4), some (.int v5), some (.int v6), some (.int v7), some (.int v8)] []) {v1 : Int32} {v2 : Int32} {v3 : Int32} {v4 : Int32} {v5 : Int32} {v6 : Int32} {v7 : Int32} {v8 : Int32} {s1 : Int32} {s2 : Int32} {s3 : Int32} {s4 : Int32} {M : Mem}  (h : Mo_blockComes_b118 k90 v1 v2 v3 v4 v5 v6 v7 v8 s1 s2 s3 s4 M = some M') : V X G 9 M 118 [some (.ref (G.2.1 32)), some (.int v1), some (.int v2), some (.int v3), some (.int v4), some (.int v5), some (.int v6), some (.int v7), some (.int v8)] [.int s4, .int s3, .int s2, .int s1, .ref (G.2.1 32)] := by
  unfold Mo_blockComes_b118 at h
  obtain ⟨M1, c2, h⟩ := hV h
  refine v_callVv C (Mo_draws_ok (xl X) C.ig c2) ml_X6_110 mb_X6_draws mv_X6_draws rfl rfl rfl (Nat.le_of_ble_eq_true rfl) (by decide) (by decide) dX6_blockComes_118 ?_
  refine v_iload_n C dX6_blockComes_121 rfl ?_
  refine v_iconst (v := 1) C dX6_blockComes_122 (by decide) ?_
  refine v_icmp_ne (tgt := 147) C dX6_blockComes_123 (by decide) (fun q => ?_) (fun q => ?_)
  · replace h := hF q h
    refine v_iload_n C dX6_blockComes_147 rfl ?_
    refine v_iconst (v := 2) C dX6_blockComes_148 (by decide) ?_
    refine v_icmp_ne (tgt := 173) C dX6_blockComes_149 (by decide) (fun q => ?_) (fun q => ?_)
    · replace h := hF q h
      refine v_iload_n C dX6_blockComes_173 rfl ?_
      refine v_iconst (v := 4) C dX6_blockComes_174 (by decide) ?_
      refine v_icmp_ne (tgt := 194) C dX6_blockComes_175 (by decide) (fun q => ?_) (fun q => ?_)
      · replace h := hF q h
        exact v_weak [true, true, true, true, true, true, true, true, true] (Mo_blockComes_b194_ok C hQ H90 h)
      · replace h := hT q h
        refine v_aload_n C dX6_blockComes_178 rfl ?_
        refine v_iconst (v := 1) C dX6_blockComes_179 (by decide) ?_
        refine v_iload C dX6_blockComes_180 rfl ?_
        refine v_iload C dX6_blockComes_182 rfl ?_
        refine v_iadd C dX6_blockComes_184 ?_
        refine v_iload C dX6_blockComes_185 rfl ?_
        refine v_iload C dX6_blockComes_187 rfl ?_
        refine v_iadd C dX6_blockComes_189 ?_
        refine v_iconst (v := 1) C dX6_blockComes_190 (by decide) ?_
        obtain ⟨M3, c4, h⟩ := hV h
        refine v_callVv C (Mo_draws_ok (xl X) C.ig c4) ml_X6_110 mb_X6_draws mv_X6_draws rfl rfl rfl (Nat.le_of_ble_eq_true rfl) (by decide) (by decide) dX6_blockComes_191 ?_
        exact v_weak [true, true, true, true, true, true, true, true, true] (Mo_blockComes_b194_ok C hQ H90 h)
    · replace h := hT q h
      refine v_aload_n C dX6_blockComes_152 rfl ?_
      refine v_iconst (v := 1) C dX6_blockComes_153 (by decide) ?_
      refine v_iload C dX6_blockComes_154 rfl ?_
      refine v_iload C dX6_blockComes_156 rfl ?_
      refine v_iadd C dX6_blockComes_158 ?_
      refine v_iconst (v := 1) C dX6_blockComes_159 (by decide) ?_
      refine v_iadd C dX6_blockComes_160 ?_
      refine v_iload C dX6_blockComes_161 rfl ?_
      refine v_iload C dX6_blockComes_163 rfl ?_
      refine v_iadd C dX6_blockComes_165 ?_
      refine v_iconst (v := 1) C dX6_blockComes_166 (by decide) ?_
      obtain ⟨M5, c6, h⟩ := hV h
      refine v_callVv C (Mo_draws_ok (xl X) C.ig c6) ml_X6_110 mb_X6_draws mv_X6_draws rfl rfl rfl (Nat.le_of_ble_eq_true rfl) (by decide) (by decide) dX6_blockComes_167 ?_
      refine v_goto (tgt := 194) C dX6_blockComes_170 (by decide) ?_
      exact v_weak [true, true, true, true, true, true, true, true, true] (Mo_blockComes_b194_ok C hQ H90 h)
  · replace h := hT q h
    refine v_aload_n C dX6_blockComes_126 rfl ?_
    refine v_iconst (v := 1) C dX6_blockComes_127 (by decide) ?_
    refine v_iload C dX6_blockComes_128 rfl ?_
    refine v_iload C dX6_blockComes_130 rfl ?_
    refine v_iadd C dX6_blockComes_132 ?_
    refine v_iload C dX6_blockComes_133 rfl ?_
    refine v_iload C dX6_blockComes_135 rfl ?_
    refine v_iadd C dX6_blockComes_137 ?_
    refine v_iconst (v := 1) C dX6_blockComes_138 (by decide) ?_
    refine v_iadd C dX6_blockComes_139 ?_
    refine v_iconst (v := 1) C dX6_blockComes_140 (by decide) ?_
    obtain ⟨M7, c8, h⟩ := hV h
    refine v_callVv C (Mo_draws_ok (xl X) C.ig c8) ml_X6_110 mb_X6_draws mv_X6_draws rfl rfl rfl (Nat.le_of_ble_eq_true rfl) (by decide) (by decide) dX6_blockComes_141 ?_
    refine v_goto (tgt := 194) C dX6_blockComes_144 (by decide) ?_
    exact v_weak [true, true, true, true, true, true, true, true, true] (Mo_blockComes_b194_ok C hQ H90 h)
set_option maxHeartbeats 4000000 in
set_option maxRecDepth 100000 in
theorem Mo_blockComes_L90_ok {X : XX} {G : GG} (C : Cx X G cX6_blockComes 9 RX6 1 24 none) {M' : Mem} (hQ : Rt X G none M')   : ∀ (n : Nat) (v1 : Int32) (v2 : Int32) (v3 : Int32) (v4 : Int32) (v5 : Int32) (v6 : Int32) (v7 : Int32) (v8 : Int32) (M : Mem), Mo_blockComes_L90 n v1 v2 v3 v4 v5 v6 v7 v8 M = some M' → V X G 9 M 90 [some (.ref (G.2.1 32)), some (.int v1), some (.int v2), some (.int v3), some (.int v4), some (.int v5), some (.int v6), some (.int v7), some (.int v8)] [] := by
  intro n
  induction n with
  | zero =>
    intro v1 v2 v3 v4 v5 v6 v7 v8 M h
    simp [Mo_blockComes_L90] at h
  | succ n ih =>
    intro v1 v2 v3 v4 v5 v6 v7 v8 M h
    rw [Mo_blockComes_L90] at h
    refine v_iload C dX6_blockComes_90 rfl ?_
    refine v_iload_n C dX6_blockComes_92 rfl ?_
    refine v_icmp_ge (tgt := 245) C dX6_blockComes_93 (by decide) (fun q => ?_) (fun q => ?_)
    · replace h := hT q h
      refine v_aload_n C dX6_blockComes_245 rfl ?_
      refine v_getr (j := 36) C fk_X6_20 rfl dX6_blockComes_246 ?_
      refine v_iconst (v := 1) C dX6_blockComes_249 (by decide) ?_
      refine v_dup2 C dX6_blockComes_250 rfl rfl ?_
      refine v_iald_k (k := 1) (n := 35) C rfl rfl (by decide) dX6_blockComes_251 ?_
      refine v_iload C dX6_blockComes_252 rfl ?_
      refine v_iadd C dX6_blockComes_254 ?_
      refine v_iast_k (k := 1) (n := 35) C rfl rfl (by decide) dX6_blockComes_255 ?_
      refine v_aload_n C dX6_blockComes_256 rfl ?_
      refine v_getr (j := 36) C fk_X6_20 rfl dX6_blockComes_257 ?_
      refine v_iconst (v := 2) C dX6_blockComes_260 (by decide) ?_
      refine v_dup2 C dX6_blockComes_261 rfl rfl ?_
      refine v_iald_k (k := 2) (n := 35) C rfl rfl (by decide) dX6_blockComes_262 ?_
      refine v_iload C dX6_blockComes_263 rfl ?_
      refine v_iadd C dX6_blockComes_265 ?_
      refine v_iast_k (k := 2) (n := 35) C rfl rfl (by decide) dX6_blockComes_266 ?_
      obtain rfl := hRv h
      exact v_vret C hQ dX6_blockComes_267
    · replace h := hF q h
      refine v_aload_n C dX6_blockComes_96 rfl ?_
      refine v_iconst (v := 0) C dX6_blockComes_97 (by decide) ?_
      refine v_iload C dX6_blockComes_98 rfl ?_
      refine v_iload C dX6_blockComes_100 rfl ?_
      refine v_iadd C dX6_blockComes_102 ?_
      refine v_iload C dX6_blockComes_103 rfl ?_
      refine v_iload C dX6_blockComes_105 rfl ?_
      refine v_iadd C dX6_blockComes_107 ?_
      refine v_iload_n C dX6_blockComes_108 rfl ?_
      refine v_iconst (v := 4) C dX6_blockComes_109 (by decide) ?_
      refine v_icmp_ne (tgt := 117) C dX6_blockComes_110 (by decide) (fun q => ?_) (fun q => ?_)
      · replace h := hF q h
        refine v_iconst (v := 1) C dX6_blockComes_117 (by decide) ?_
        exact v_weak [true, true, true, true, true, true, true, true, true] (Mo_blockComes_b118_ok C hQ ih h)
      · replace h := hT q h
        refine v_iload_n C dX6_blockComes_113 rfl ?_
        refine v_goto (tgt := 118) C dX6_blockComes_114 (by decide) ?_
        exact v_weak [true, true, true, true, true, true, true, true, true] (Mo_blockComes_b118_ok C hQ ih h)
set_option maxHeartbeats 4000000 in
set_option maxRecDepth 100000 in
theorem Mo_blockComes_b79_ok {X : XX} {G : GG} (C : Cx X G cX6_blockComes 9 RX6 1 24 none) {M' : Mem} (hQ : Rt X G none M')   {v1 : Int32} {v2 : Int32} {v3 : Int32} {v4 : Int32} {v5 : Int32} {v6 : Int32} {v7 : Int32} {M : Mem}  (h : Mo_blockComes_b79 v1 v2 v3 v4 v5 v6 v7 M = some M') : V X G 9 M 79 [some (.ref (G.2.1 32)), some (.int v1), some (.int v2), some (.int v3), some (.int v4), some (.int v5), some (.int v6), some (.int v7), none] [] := by
  unfold Mo_blockComes_b79 at h
  refine v_aload_n C dX6_blockComes_79 rfl ?_
  refine v_geti C fk_X6_72 rfl dX6_blockComes_80 ?_
  refine v_if_le (tgt := 87) C dX6_blockComes_83 (by decide) (fun q => ?_) (fun q => ?_)
  · replace h := hT q h
    refine v_iconst (v := 0) C dX6_blockComes_87 (by decide) ?_
    refine v_istore C dX6_blockComes_88 (by decide) rfl ?_
    exact v_weak [true, true, true, true, true, true, true, true, true] (Mo_blockComes_L90_ok C hQ _ _ _ _ _ _ _ _ _ _ h)
  · replace h := hF q h
    obtain rfl := hRv h
    exact v_vret C hQ dX6_blockComes_86
set_option maxHeartbeats 4000000 in
set_option maxRecDepth 100000 in
theorem Mo_blockComes_b75_ok {X : XX} {G : GG} (C : Cx X G cX6_blockComes 9 RX6 1 24 none) {M' : Mem} (hQ : Rt X G none M')   {v1 : Int32} {v2 : Int32} {v3 : Int32} {v4 : Int32} {v5 : Int32} {v6 : Int32} {v7 : Int32} {s1 : Int32} {M : Mem}  (h : Mo_blockComes_b75 v1 v2 v3 v4 v5 v6 v7 s1 M = some M') : V X G 9 M 75 [some (.ref (G.2.1 32)), some (.int v1), some (.int v2), some (.int v3), some (.int v4), some (.int v5), some (.int v6), some (.int v7), none] [.int s1, .ref (G.2.1 32)] := by
  unfold Mo_blockComes_b75 at h
  refine v_iconst (v := 5) C dX6_blockComes_75 (by decide) ?_
  obtain ⟨M1, c2, h⟩ := hV h
  refine v_callVv C (Mo_requires_ok (xl X) C.ig c2) ml_X6_106 mb_X6_requires mv_X6_requires rfl rfl rfl (Nat.le_of_ble_eq_true rfl) (by decide) (by decide) dX6_blockComes_76 ?_
  exact v_weak [true, true, true, true, true, true, true, true, false] (Mo_blockComes_b79_ok C hQ h)
set_option maxHeartbeats 4000000 in
set_option maxRecDepth 100000 in
theorem Mo_blockComes_b74_ok {X : XX} {G : GG} (C : Cx X G cX6_blockComes 9 RX6 1 24 none) {M' : Mem} (hQ : Rt X G none M')   {v1 : Int32} {v2 : Int32} {v3 : Int32} {v4 : Int32} {v5 : Int32} {v6 : Int32} {v7 : Int32} {M : Mem}  (h : Mo_blockComes_b74 v1 v2 v3 v4 v5 v6 v7 M = some M') : V X G 9 M 74 [some (.ref (G.2.1 32)), some (.int v1), some (.int v2), some (.int v3), some (.int v4), some (.int v5), some (.int v6), some (.int v7), none] [.ref (G.2.1 32)] := by
  unfold Mo_blockComes_b74 at h
  refine v_iconst (v := 0) C dX6_blockComes_74 (by decide) ?_
  exact v_weak [true, true, true, true, true, true, true, true, false] (Mo_blockComes_b75_ok C hQ h)
set_option maxHeartbeats 4000000 in
set_option maxRecDepth 100000 in
theorem Mo_blockComes_b42_ok {X : XX} {G : GG} (C : Cx X G cX6_blockComes 9 RX6 1 24 none) {M' : Mem} (hQ : Rt X G none M')   {v1 : Int32} {v2 : Int32} {v3 : Int32} {v4 : Int32} {v5 : Int32} {v6 : Int32} {s0 : Int32} {M : Mem}  (h : Mo_blockComes_b42 v1 v2 v3 v4 v5 v6 s0 M = some M') : V X G 9 M 42 [some (.ref (G.2.1 32)), some (.int v1), some (.int v2), some (.int v3), some (.int v4), some (.int v5), some (.int v6), none, none] [.int s0] := by
  unfold Mo_blockComes_b42 at h
  refine v_istore C dX6_blockComes_42 (by decide) rfl ?_
  refine v_aload_n C dX6_blockComes_44 rfl ?_
  refine v_geti C fk_X6_72 rfl dX6_blockComes_45 ?_
  refine v_if_ne (tgt := 79) C dX6_blockComes_48 (by decide) (fun q => ?_) (fun q => ?_)
  · replace h := hF q h
    exact v_weak [true, true, true, true, true, true, true, true, false] (Mo_blockComes_b79_ok C hQ h)
  · replace h := hT q h
    refine v_aload_n C dX6_blockComes_51 rfl ?_
    refine v_iload C dX6_blockComes_52 rfl ?_
    refine v_iload C dX6_blockComes_54 rfl ?_
    refine v_iadd C dX6_blockComes_56 ?_
    refine v_iconst (v := 4) C dX6_blockComes_57 (by decide) ?_
    refine v_icmp_gt (tgt := 74) C dX6_blockComes_58 (by decide) (fun q => ?_) (fun q => ?_)
    · replace h := hT q h
      exact v_weak [true, true, true, true, true, true, true, true, false] (Mo_blockComes_b74_ok C hQ h)
    · replace h := hF q h
      refine v_iload C dX6_blockComes_61 rfl ?_
      refine v_iload C dX6_blockComes_63 rfl ?_
      refine v_iadd C dX6_blockComes_65 ?_
      refine v_iconst (v := 4) C dX6_blockComes_66 (by decide) ?_
      refine v_icmp_gt (tgt := 74) C dX6_blockComes_67 (by decide) (fun q => ?_) (fun q => ?_)
      · replace h := hT q h
        exact v_weak [true, true, true, true, true, true, true, true, false] (Mo_blockComes_b74_ok C hQ h)
      · replace h := hF q h
        refine v_iconst (v := 1) C dX6_blockComes_70 (by decide) ?_
        refine v_goto (tgt := 75) C dX6_blockComes_71 (by decide) ?_
        exact v_weak [true, true, true, true, true, true, true, true, false] (Mo_blockComes_b75_ok C hQ h)
set_option maxHeartbeats 4000000 in
set_option maxRecDepth 100000 in
theorem Mo_blockComes_b28_ok {X : XX} {G : GG} (C : Cx X G cX6_blockComes 9 RX6 1 24 none) {M' : Mem} (hQ : Rt X G none M')   {v1 : Int32} {v2 : Int32} {v3 : Int32} {v4 : Int32} {v5 : Int32} {s0 : Int32} {M : Mem}  (h : Mo_blockComes_b28 v1 v2 v3 v4 v5 s0 M = some M') : V X G 9 M 28 [some (.ref (G.2.1 32)), some (.int v1), some (.int v2), some (.int v3), some (.int v4), some (.int v5), none, none, none] [.int s0] := by
  unfold Mo_blockComes_b28 at h
  refine v_istore C dX6_blockComes_28 (by decide) rfl ?_
  refine v_iload_n C dX6_blockComes_30 rfl ?_
  refine v_iconst (v := 1) C dX6_blockComes_31 (by decide) ?_
  refine v_icmp_ne (tgt := 41) C dX6_blockComes_32 (by decide) (fun q => ?_) (fun q => ?_)
  · replace h := hF q h
    refine v_iload_n C dX6_blockComes_41 rfl ?_
    exact v_weak [true, true, true, true, true, true, true, false, false] (Mo_blockComes_b42_ok C hQ h)
  · replace h := hT q h
    refine v_iload_n C dX6_blockComes_35 rfl ?_
    refine v_iconst (v := 1) C dX6_blockComes_36 (by decide) ?_
    refine v_iadd C dX6_blockComes_37 ?_
    refine v_goto (tgt := 42) C dX6_blockComes_38 (by decide) ?_
    exact v_weak [true, true, true, true, true, true, true, false, false] (Mo_blockComes_b42_ok C hQ h)
set_option maxHeartbeats 4000000 in
set_option maxRecDepth 100000 in
theorem Mo_blockComes_ok (l : Launch) {G : GG} (hI : IG G) {M M' : Mem} {v1 : Int32} {v2 : Int32} {v3 : Int32} (h : Mo_blockComes v1 v2 v3 M = some M') : Sp l G yX6_blockComes cX6_blockComes 9 none 1 24 [.ref (G.2.1 32), .int v1, .int v2, .int v3] M none M' := by
  unfold Mo_blockComes at h
  refine sp_intro [some (.ref (G.2.1 32)), some (.int v1), some (.int v2), some (.int v3), none, none, none, none, none] hI (by decide) (Nat.le_of_ble_eq_true rfl) (fun _ hq => hq) (fun X _ C hQ => ?_)
  refine v_aload_n C dX6_blockComes_0 rfl ?_
  refine v_getr (j := 36) C fk_X6_20 rfl dX6_blockComes_1 ?_
  refine v_iconst (v := 1) C dX6_blockComes_4 (by decide) ?_
  refine v_iald_k (k := 1) (n := 35) C rfl rfl (by decide) dX6_blockComes_5 ?_
  refine v_istore C dX6_blockComes_6 (by decide) rfl ?_
  refine v_aload_n C dX6_blockComes_8 rfl ?_
  refine v_getr (j := 36) C fk_X6_20 rfl dX6_blockComes_9 ?_
  refine v_iconst (v := 2) C dX6_blockComes_12 (by decide) ?_
  refine v_iald_k (k := 2) (n := 35) C rfl rfl (by decide) dX6_blockComes_13 ?_
  refine v_istore C dX6_blockComes_14 (by decide) rfl ?_
  refine v_iload_n C dX6_blockComes_16 rfl ?_
  refine v_iconst (v := 2) C dX6_blockComes_17 (by decide) ?_
  refine v_icmp_ne (tgt := 27) C dX6_blockComes_18 (by decide) (fun q => ?_) (fun q => ?_)
  · replace h := hF q h
    refine v_iload_n C dX6_blockComes_27 rfl ?_
    exact v_weak [true, true, true, true, true, true, false, false, false] (Mo_blockComes_b28_ok C hQ h)
  · replace h := hT q h
    refine v_iload_n C dX6_blockComes_21 rfl ?_
    refine v_iconst (v := 1) C dX6_blockComes_22 (by decide) ?_
    refine v_iadd C dX6_blockComes_23 ?_
    refine v_goto (tgt := 28) C dX6_blockComes_24 (by decide) ?_
    exact v_weak [true, true, true, true, true, true, false, false, false] (Mo_blockComes_b28_ok C hQ h)
set_option maxHeartbeats 4000000 in
set_option maxRecDepth 100000 in
theorem Mo_readLineOf_b95_ok {X : XX} {G : GG} (C : Cx X G cX6_readLineOf 4 RX6 2 52 none) {M' : Mem} (hQ : Rt X G none M')   {v1 : Int32} {v2 : Int32} {s1 : Int32} {M : Mem}  (h : Mo_readLineOf_b95 v1 v2 s1 M = some M') : V X G 4 M 95 [some (.ref (G.2.1 32)), some (.int v1), some (.int v2), none] [.int s1, .ref (G.2.1 32)] := by
  unfold Mo_readLineOf_b95 at h
  refine v_iconst (v := 4) C dX6_readLineOf_95 (by decide) ?_
  obtain ⟨r3, M1, c2, h⟩ := hB h
  refine v_callVi C (Mo_readNumber_ok (xl X) C.ig c2) ml_X6_114 mb_X6_readNumber mv_X6_readNumber rfl rfl rfl (Nat.le_of_ble_eq_true rfl) (by decide) (by decide) dX6_readLineOf_96 ?_
  refine v_istore_n C dX6_readLineOf_99 (by decide) rfl ?_
  refine v_aload_n C dX6_readLineOf_100 rfl ?_
  refine v_iload_n C dX6_readLineOf_101 rfl ?_
  refine v_iload_n C dX6_readLineOf_102 rfl ?_
  refine v_iload_n C dX6_readLineOf_103 rfl ?_
  obtain ⟨M4, c5, h⟩ := hV h
  refine v_callVv C (Mo_blockComes_ok (xl X) C.ig c5) ml_X6_128 mb_X6_blockComes mv_X6_blockComes rfl rfl rfl (Nat.le_of_ble_eq_true rfl) (by decide) (by decide) dX6_readLineOf_104 ?_
  refine v_aload_n C dX6_readLineOf_107 rfl ?_
  obtain ⟨M6, c7, h⟩ := hV h
  refine v_callVv C (Mo_reads_ok (xl X) C.ig c7) ml_X6_122 mb_X6_reads mv_X6_reads rfl rfl rfl (Nat.le_of_ble_eq_true rfl) (by decide) (by decide) dX6_readLineOf_108 ?_
  obtain rfl := hRv h
  exact v_vret C hQ dX6_readLineOf_111
set_option maxHeartbeats 4000000 in
set_option maxRecDepth 100000 in
theorem Mo_readLineOf_b90_ok {X : XX} {G : GG} (C : Cx X G cX6_readLineOf 4 RX6 2 52 none) {M' : Mem} (hQ : Rt X G none M')   {v1 : Int32} {v2 : Int32} {M : Mem}  (h : Mo_readLineOf_b90 v1 v2 M = some M') : V X G 4 M 90 [some (.ref (G.2.1 32)), some (.int v1), some (.int v2), none] [.ref (G.2.1 32)] := by
  unfold Mo_readLineOf_b90 at h
  refine v_iconst (v := 0) C dX6_readLineOf_90 (by decide) ?_
  refine v_goto (tgt := 95) C dX6_readLineOf_91 (by decide) ?_
  exact v_weak [true, true, true, false] (Mo_readLineOf_b95_ok C hQ h)
set_option maxHeartbeats 4000000 in
set_option maxRecDepth 100000 in
theorem Mo_readLineOf_b79_ok {X : XX} {G : GG} (C : Cx X G cX6_readLineOf 4 RX6 2 52 none) {M' : Mem} (hQ : Rt X G none M')   {v1 : Int32} {v2 : Int32} {M : Mem}  (h : Mo_readLineOf_b79 v1 v2 M = some M') : V X G 4 M 79 [some (.ref (G.2.1 32)), some (.int v1), some (.int v2), none] [] := by
  unfold Mo_readLineOf_b79 at h
  refine v_aload_n C dX6_readLineOf_79 rfl ?_
  refine v_iload_n C dX6_readLineOf_80 rfl ?_
  refine v_iconst (v := 1) C dX6_readLineOf_81 (by decide) ?_
  refine v_icmp_eq (tgt := 90) C dX6_readLineOf_82 (by decide) (fun q => ?_) (fun q => ?_)
  · replace h := hT q h
    exact v_weak [true, true, true, false] (Mo_readLineOf_b90_ok C hQ h)
  · replace h := hF q h
    refine v_iload_n C dX6_readLineOf_85 rfl ?_
    refine v_iconst (v := 2) C dX6_readLineOf_86 (by decide) ?_
    refine v_icmp_ne (tgt := 94) C dX6_readLineOf_87 (by decide) (fun q => ?_) (fun q => ?_)
    · replace h := hF q h
      refine v_iconst (v := 1) C dX6_readLineOf_94 (by decide) ?_
      exact v_weak [true, true, true, false] (Mo_readLineOf_b95_ok C hQ h)
    · replace h := hT q h
      exact v_weak [true, true, true, false] (Mo_readLineOf_b90_ok C hQ h)
set_option maxHeartbeats 4000000 in
set_option maxRecDepth 100000 in
theorem Mo_readLineOf_b72_ok {X : XX} {G : GG} (C : Cx X G cX6_readLineOf 4 RX6 2 52 none) {M' : Mem} (hQ : Rt X G none M')   {v1 : Int32} {v2 : Int32} {s1 : Int32} {M : Mem}  (h : Mo_readLineOf_b72 v1 v2 s1 M = some M') : V X G 4 M 72 [some (.ref (G.2.1 32)), some (.int v1), some (.int v2), none] [.int s1, .ref (G.2.1 32)] := by
  unfold Mo_readLineOf_b72 at h
  refine v_puti C fk_X6_125 rfl dX6_readLineOf_72 ?_
  refine v_aload_n C dX6_readLineOf_75 rfl ?_
  obtain ⟨M1, c2, h⟩ := hV h
  refine v_callVv C (Mo_reads_ok (xl X) C.ig c2) ml_X6_122 mb_X6_reads mv_X6_reads rfl rfl rfl (Nat.le_of_ble_eq_true rfl) (by decide) (by decide) dX6_readLineOf_76 ?_
  exact v_weak [true, true, true, false] (Mo_readLineOf_b79_ok C hQ h)
set_option maxHeartbeats 4000000 in
set_option maxRecDepth 100000 in
theorem Mo_readLineOf_b28_ok {X : XX} {G : GG} (C : Cx X G cX6_readLineOf 4 RX6 2 52 none) {M' : Mem} (hQ : Rt X G none M')   {v2 : Int32} {M : Mem}  (h : Mo_readLineOf_b28 v2 M = some M') : V X G 4 M 28 [some (.ref (G.2.1 32)), none, some (.int v2), none] [] := by
  unfold Mo_readLineOf_b28 at h
  refine v_aload_n C dX6_readLineOf_28 rfl ?_
  refine v_getr (j := 36) C fk_X6_20 rfl dX6_readLineOf_29 ?_
  refine v_iconst (v := 0) C dX6_readLineOf_32 (by decide) ?_
  refine v_iload_n C dX6_readLineOf_33 rfl ?_
  refine v_iast_k (k := 0) (n := 35) C rfl rfl (by decide) dX6_readLineOf_34 ?_
  refine v_aload_n C dX6_readLineOf_35 rfl ?_
  obtain ⟨M1, c2, h⟩ := hV h
  refine v_callVv C (Mo_reads_ok (xl X) C.ig c2) ml_X6_122 mb_X6_reads mv_X6_reads rfl rfl rfl (Nat.le_of_ble_eq_true rfl) (by decide) (by decide) dX6_readLineOf_36 ?_
  obtain rfl := hRv h
  exact v_vret C hQ dX6_readLineOf_39
set_option maxHeartbeats 4000000 in
set_option maxRecDepth 100000 in
theorem Mo_readLineOf_ok (l : Launch) {G : GG} (hI : IG G) {M M' : Mem} {v1 : Int32} (h : Mo_readLineOf v1 M = some M') : Sp l G yX6_readLineOf cX6_readLineOf 4 none 2 52 [.ref (G.2.1 32), .int v1] M none M' := by
  unfold Mo_readLineOf at h
  refine sp_intro [some (.ref (G.2.1 32)), some (.int v1), none, none] hI (by decide) (Nat.le_of_ble_eq_true rfl) (fun _ hq => hq) (fun X _ C hQ => ?_)
  refine v_iload_n C dX6_readLineOf_0 rfl ?_
  refine v_if_ne (tgt := 40) C dX6_readLineOf_1 (by decide) (fun q => ?_) (fun q => ?_)
  · replace h := hF q h
    refine v_iconst (v := 0) C dX6_readLineOf_40 (by decide) ?_
    refine v_istore_n C dX6_readLineOf_41 (by decide) rfl ?_
    refine v_iload_n C dX6_readLineOf_42 rfl ?_
    refine v_iconst (v := 4) C dX6_readLineOf_43 (by decide) ?_
    refine v_icmp_ne (tgt := 79) C dX6_readLineOf_44 (by decide) (fun q => ?_) (fun q => ?_)
    · replace h := hF q h
      exact v_weak [true, true, true, false] (Mo_readLineOf_b79_ok C hQ h)
    · replace h := hT q h
      refine v_aload_n C dX6_readLineOf_47 rfl ?_
      refine v_iconst (v := 0) C dX6_readLineOf_48 (by decide) ?_
      refine v_bipush (v := 6) C dX6_readLineOf_49 (by decide) ?_
      obtain ⟨r3, M1, c2, h⟩ := hB h
      refine v_callVi C (Mo_readNumber_ok (xl X) C.ig c2) ml_X6_114 mb_X6_readNumber mv_X6_readNumber rfl rfl rfl (Nat.le_of_ble_eq_true rfl) (by decide) (by decide) dX6_readLineOf_51 ?_
      refine v_istore_n C dX6_readLineOf_54 (by decide) rfl ?_
      refine v_aload_n C dX6_readLineOf_55 rfl ?_
      refine v_iload_n C dX6_readLineOf_56 rfl ?_
      refine v_aload_n C dX6_readLineOf_57 rfl ?_
      refine v_geti C fk_X6_125 rfl dX6_readLineOf_58 ?_
      refine v_icmp_le (tgt := 68) C dX6_readLineOf_61 (by decide) (fun q => ?_) (fun q => ?_)
      · replace h := hT q h
        refine v_aload_n C dX6_readLineOf_68 rfl ?_
        refine v_geti C fk_X6_125 rfl dX6_readLineOf_69 ?_
        exact v_weak [true, true, true, false] (Mo_readLineOf_b72_ok C hQ h)
      · replace h := hF q h
        refine v_iload_n C dX6_readLineOf_64 rfl ?_
        refine v_goto (tgt := 72) C dX6_readLineOf_65 (by decide) ?_
        exact v_weak [true, true, true, false] (Mo_readLineOf_b72_ok C hQ h)
  · replace h := hT q h
    refine v_aload_n C dX6_readLineOf_4 rfl ?_
    refine v_iconst (v := 2) C dX6_readLineOf_5 (by decide) ?_
    refine v_bipush (v := 7) C dX6_readLineOf_6 (by decide) ?_
    obtain ⟨r6, M4, c5, h⟩ := hB h
    refine v_callVi C (Mo_readNumber_ok (xl X) C.ig c5) ml_X6_114 mb_X6_readNumber mv_X6_readNumber rfl rfl rfl (Nat.le_of_ble_eq_true rfl) (by decide) (by decide) dX6_readLineOf_8 ?_
    refine v_istore_n C dX6_readLineOf_11 (by decide) rfl ?_
    refine v_aload_n C dX6_readLineOf_12 rfl ?_
    refine v_geti C fk_X6_72 rfl dX6_readLineOf_13 ?_
    refine v_if_ne (tgt := 28) C dX6_readLineOf_16 (by decide) (fun q => ?_) (fun q => ?_)
    · replace h := hF q h
      exact v_weak [true, false, true, false] (Mo_readLineOf_b28_ok C hQ h)
    · replace h := hT q h
      refine v_aload_n C dX6_readLineOf_19 rfl ?_
      refine v_iload_n C dX6_readLineOf_20 rfl ?_
      obtain ⟨r9, M7, c8, h⟩ := hB h
      refine v_callSi C (Mo_isPrime_ok (xl X) C.ig c8) ml_X6_118 mb_X6_isPrime ms_X6_isPrime rfl rfl (Nat.le_of_ble_eq_true rfl) (by decide) (by decide) dX6_readLineOf_21 ?_
      refine v_iconst (v := 3) C dX6_readLineOf_24 (by decide) ?_
      obtain ⟨M10, c11, h⟩ := hV h
      refine v_callVv C (Mo_requires_ok (xl X) C.ig c11) ml_X6_106 mb_X6_requires mv_X6_requires rfl rfl rfl (Nat.le_of_ble_eq_true rfl) (by decide) (by decide) dX6_readLineOf_25 ?_
      exact v_weak [true, false, true, false] (Mo_readLineOf_b28_ok C hQ h)
set_option maxHeartbeats 4000000 in
set_option maxRecDepth 100000 in
theorem Mo_readLine_b117_ok {X : XX} {G : GG} (C : Cx X G cX6_readLine 2 RX6 3 75 none) {M' : Mem} (hQ : Rt X G none M')    {M : Mem}  (h : Mo_readLine_b117 M = some M') : V X G 2 M 117 [some (.ref (G.2.1 32)), none] [] := by
  unfold Mo_readLine_b117 at h
  refine v_aload_n C dX6_readLine_117 rfl ?_
  obtain ⟨M1, c2, h⟩ := hV h
  refine v_callVv C (Mo_reads_ok (xl X) C.ig c2) ml_X6_122 mb_X6_reads mv_X6_reads rfl rfl rfl (Nat.le_of_ble_eq_true rfl) (by decide) (by decide) dX6_readLine_118 ?_
  obtain rfl := hRv h
  exact v_vret C hQ dX6_readLine_121
set_option maxHeartbeats 4000000 in
set_option maxRecDepth 100000 in
theorem Mo_readLine_b113_ok {X : XX} {G : GG} (C : Cx X G cX6_readLine 2 RX6 3 75 none) {M' : Mem} (hQ : Rt X G none M')   {s1 : Int32} {M : Mem}  (h : Mo_readLine_b113 s1 M = some M') : V X G 2 M 113 [some (.ref (G.2.1 32)), none] [.int s1, .ref (G.2.1 32)] := by
  unfold Mo_readLine_b113 at h
  refine v_iconst (v := 2) C dX6_readLine_113 (by decide) ?_
  obtain ⟨M1, c2, h⟩ := hV h
  refine v_callVv C (Mo_requires_ok (xl X) C.ig c2) ml_X6_106 mb_X6_requires mv_X6_requires rfl rfl rfl (Nat.le_of_ble_eq_true rfl) (by decide) (by decide) dX6_readLine_114 ?_
  exact v_weak [true, false] (Mo_readLine_b117_ok C hQ h)
set_option maxHeartbeats 4000000 in
set_option maxRecDepth 100000 in
theorem Mo_readLine_b72_ok {X : XX} {G : GG} (C : Cx X G cX6_readLine 2 RX6 3 75 none) {M' : Mem} (hQ : Rt X G none M')   {v1 : Int32} {s1 : Int32} {M : Mem}  (h : Mo_readLine_b72 v1 s1 M = some M') : V X G 2 M 72 [some (.ref (G.2.1 32)), some (.int v1)] [.int s1, .ref (G.2.1 32)] := by
  unfold Mo_readLine_b72 at h
  obtain ⟨q1, h⟩ := hG h
  refine v_putz C fk_X6_136 rfl q1 dX6_readLine_72 ?_
  refine v_aload_n C dX6_readLine_75 rfl ?_
  obtain ⟨M2, c3, h⟩ := hV h
  refine v_callVv C (Mo_reads_ok (xl X) C.ig c3) ml_X6_122 mb_X6_reads mv_X6_reads rfl rfl rfl (Nat.le_of_ble_eq_true rfl) (by decide) (by decide) dX6_readLine_76 ?_
  refine v_aload_n C dX6_readLine_79 rfl ?_
  refine v_geti C fk_X6_72 rfl dX6_readLine_80 ?_
  refine v_if_le (tgt := 87) C dX6_readLine_83 (by decide) (fun q => ?_) (fun q => ?_)
  · replace h := hT q h
    refine v_aload_n C dX6_readLine_87 rfl ?_
    refine v_iload_n C dX6_readLine_88 rfl ?_
    obtain ⟨M4, c5, h⟩ := hV h
    refine v_callVv C (Mo_readLineOf_ok (xl X) C.ig c5) ml_X6_140 mb_X6_readLineOf mv_X6_readLineOf rfl rfl rfl (Nat.le_of_ble_eq_true rfl) (by decide) (by decide) dX6_readLine_89 ?_
    refine v_aload_n C dX6_readLine_92 rfl ?_
    refine v_geti C fk_X6_72 rfl dX6_readLine_93 ?_
    refine v_if_ne (tgt := 117) C dX6_readLine_96 (by decide) (fun q => ?_) (fun q => ?_)
    · replace h := hF q h
      exact v_weak [true, false] (Mo_readLine_b117_ok C hQ h)
    · replace h := hT q h
      refine v_aload_n C dX6_readLine_99 rfl ?_
      refine v_aload_n C dX6_readLine_100 rfl ?_
      refine v_geti C fk_X6_92 rfl dX6_readLine_101 ?_
      refine v_iconst (v := 3) C dX6_readLine_104 (by decide) ?_
      refine v_icmp_ne (tgt := 112) C dX6_readLine_105 (by decide) (fun q => ?_) (fun q => ?_)
      · replace h := hF q h
        refine v_iconst (v := 0) C dX6_readLine_112 (by decide) ?_
        exact v_weak [true, false] (Mo_readLine_b113_ok C hQ h)
      · replace h := hT q h
        refine v_iconst (v := 1) C dX6_readLine_108 (by decide) ?_
        refine v_goto (tgt := 113) C dX6_readLine_109 (by decide) ?_
        exact v_weak [true, false] (Mo_readLine_b113_ok C hQ h)
  · replace h := hF q h
    obtain rfl := hRv h
    exact v_vret C hQ dX6_readLine_86
set_option maxHeartbeats 4000000 in
set_option maxRecDepth 100000 in
theorem Mo_readLine_b67_ok {X : XX} {G : GG} (C : Cx X G cX6_readLine 2 RX6 3 75 none) {M' : Mem} (hQ : Rt X G none M')   {v1 : Int32} {M : Mem}  (h : Mo_readLine_b67 v1 M = some M') : V X G 2 M 67 [some (.ref (G.2.1 32)), some (.int v1)] [.ref (G.2.1 32)] := by
  unfold Mo_readLine_b67 at h
  refine v_iconst (v := 1) C dX6_readLine_67 (by decide) ?_
  refine v_goto (tgt := 72) C dX6_readLine_68 (by decide) ?_
  exact v_weak [true, true] (Mo_readLine_b72_ok C hQ h)
set_option maxHeartbeats 4000000 in
set_option maxRecDepth 100000 in
theorem Mo_readLine_b51_ok {X : XX} {G : GG} (C : Cx X G cX6_readLine 2 RX6 3 75 none) {M' : Mem} (hQ : Rt X G none M')   {v1 : Int32} {s1 : Int32} {M : Mem}  (h : Mo_readLine_b51 v1 s1 M = some M') : V X G 2 M 51 [some (.ref (G.2.1 32)), some (.int v1)] [.int s1, .ref (G.2.1 32)] := by
  unfold Mo_readLine_b51 at h
  refine v_iconst (v := 4) C dX6_readLine_51 (by decide) ?_
  obtain ⟨M1, c2, h⟩ := hV h
  refine v_callVv C (Mo_requires_ok (xl X) C.ig c2) ml_X6_106 mb_X6_requires mv_X6_requires rfl rfl rfl (Nat.le_of_ble_eq_true rfl) (by decide) (by decide) dX6_readLine_52 ?_
  refine v_aload_n C dX6_readLine_55 rfl ?_
  refine v_aload_n C dX6_readLine_56 rfl ?_
  refine v_geti C fk_X6_136 rfl dX6_readLine_57 ?_
  refine v_if_ne (tgt := 67) C dX6_readLine_60 (by decide) (fun q => ?_) (fun q => ?_)
  · replace h := hF q h
    exact v_weak [true, true] (Mo_readLine_b67_ok C hQ h)
  · replace h := hT q h
    refine v_iload_n C dX6_readLine_63 rfl ?_
    refine v_if_ne (tgt := 71) C dX6_readLine_64 (by decide) (fun q => ?_) (fun q => ?_)
    · replace h := hF q h
      refine v_iconst (v := 0) C dX6_readLine_71 (by decide) ?_
      exact v_weak [true, true] (Mo_readLine_b72_ok C hQ h)
    · replace h := hT q h
      exact v_weak [true, true] (Mo_readLine_b67_ok C hQ h)
set_option maxHeartbeats 4000000 in
set_option maxRecDepth 100000 in
theorem Mo_readLine_b46_ok {X : XX} {G : GG} (C : Cx X G cX6_readLine 2 RX6 3 75 none) {M' : Mem} (hQ : Rt X G none M')   {v1 : Int32} {M : Mem}  (h : Mo_readLine_b46 v1 M = some M') : V X G 2 M 46 [some (.ref (G.2.1 32)), some (.int v1)] [.ref (G.2.1 32)] := by
  unfold Mo_readLine_b46 at h
  refine v_iconst (v := 1) C dX6_readLine_46 (by decide) ?_
  refine v_goto (tgt := 51) C dX6_readLine_47 (by decide) ?_
  exact v_weak [true, true] (Mo_readLine_b51_ok C hQ h)
set_option maxHeartbeats 4000000 in
set_option maxRecDepth 100000 in
theorem Mo_readLine_b30_ok {X : XX} {G : GG} (C : Cx X G cX6_readLine 2 RX6 3 75 none) {M' : Mem} (hQ : Rt X G none M')   {v1 : Int32} {s1 : Int32} {M : Mem}  (h : Mo_readLine_b30 v1 s1 M = some M') : V X G 2 M 30 [some (.ref (G.2.1 32)), some (.int v1)] [.int s1, .ref (G.2.1 32)] := by
  unfold Mo_readLine_b30 at h
  refine v_iconst (v := 2) C dX6_readLine_30 (by decide) ?_
  obtain ⟨M1, c2, h⟩ := hV h
  refine v_callVv C (Mo_requires_ok (xl X) C.ig c2) ml_X6_106 mb_X6_requires mv_X6_requires rfl rfl rfl (Nat.le_of_ble_eq_true rfl) (by decide) (by decide) dX6_readLine_31 ?_
  refine v_aload_n C dX6_readLine_34 rfl ?_
  refine v_iload_n C dX6_readLine_35 rfl ?_
  refine v_if_ne (tgt := 46) C dX6_readLine_36 (by decide) (fun q => ?_) (fun q => ?_)
  · replace h := hF q h
    exact v_weak [true, true] (Mo_readLine_b46_ok C hQ h)
  · replace h := hT q h
    refine v_aload_n C dX6_readLine_39 rfl ?_
    refine v_geti C fk_X6_136 rfl dX6_readLine_40 ?_
    refine v_if_ne (tgt := 50) C dX6_readLine_43 (by decide) (fun q => ?_) (fun q => ?_)
    · replace h := hF q h
      refine v_iconst (v := 0) C dX6_readLine_50 (by decide) ?_
      exact v_weak [true, true] (Mo_readLine_b51_ok C hQ h)
    · replace h := hT q h
      exact v_weak [true, true] (Mo_readLine_b46_ok C hQ h)
set_option maxHeartbeats 4000000 in
set_option maxRecDepth 100000 in
theorem Mo_readLine_b17_ok {X : XX} {G : GG} (C : Cx X G cX6_readLine 2 RX6 3 75 none) {M' : Mem} (hQ : Rt X G none M')   {s0 : Int32} {M : Mem}  (h : Mo_readLine_b17 s0 M = some M') : V X G 2 M 17 [some (.ref (G.2.1 32)), none] [.int s0] := by
  unfold Mo_readLine_b17 at h
  refine v_istore_n C dX6_readLine_17 (by decide) rfl ?_
  refine v_aload_n C dX6_readLine_18 rfl ?_
  refine v_iload_n C dX6_readLine_19 rfl ?_
  refine v_bipush (v := (-4)) C dX6_readLine_20 (by decide) ?_
  refine v_icmp_eq (tgt := 29) C dX6_readLine_22 (by decide) (fun q => ?_) (fun q => ?_)
  · replace h := hT q h
    refine v_iconst (v := 0) C dX6_readLine_29 (by decide) ?_
    exact v_weak [true, true] (Mo_readLine_b30_ok C hQ h)
  · replace h := hF q h
    refine v_iconst (v := 1) C dX6_readLine_25 (by decide) ?_
    refine v_goto (tgt := 30) C dX6_readLine_26 (by decide) ?_
    exact v_weak [true, true] (Mo_readLine_b30_ok C hQ h)
set_option maxHeartbeats 4000000 in
set_option maxRecDepth 100000 in
theorem Mo_readLine_ok (l : Launch) {G : GG} (hI : IG G) {M M' : Mem}  (h : Mo_readLine M = some M') : Sp l G yX6_readLine cX6_readLine 2 none 3 75 [.ref (G.2.1 32)] M none M' := by
  unfold Mo_readLine at h
  refine sp_intro [some (.ref (G.2.1 32)), none] hI (by decide) (Nat.le_of_ble_eq_true rfl) (fun _ hq => hq) (fun X _ C hQ => ?_)
  refine v_aload_n C dX6_readLine_0 rfl ?_
  refine v_geti C fk_X6_92 rfl dX6_readLine_1 ?_
  refine v_iconst (v := 1) C dX6_readLine_4 (by decide) ?_
  refine v_icmp_ne (tgt := 15) C dX6_readLine_5 (by decide) (fun q => ?_) (fun q => ?_)
  · replace h := hF q h
    refine v_bipush (v := (-4)) C dX6_readLine_15 (by decide) ?_
    exact v_weak [true, false] (Mo_readLine_b17_ok C hQ h)
  · replace h := hT q h
    refine v_aload_n C dX6_readLine_8 rfl ?_
    obtain ⟨r3, M1, c2, h⟩ := hB h
    refine v_callVi C (Mo_lineNow_ok (xl X) C.ig c2) ml_X6_132 mb_X6_lineNow mv_X6_lineNow rfl rfl rfl (Nat.le_of_ble_eq_true rfl) (by decide) (by decide) dX6_readLine_9 ?_
    refine v_goto (tgt := 17) C dX6_readLine_12 (by decide) ?_
    exact v_weak [true, false] (Mo_readLine_b17_ok C hQ h)
