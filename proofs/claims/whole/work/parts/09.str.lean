/-! STRINGS: the five names of lines, cells 100 to 104; the JDK's own readers of them -/
theorem mb_J0_length_8abf5 : MB yJ0_length_8abf5 cJ0_length_8abf5 1 (some .int) 0 := ⟨(tT 260 (by decide +kernel) rfl), (tT 9 (by decide +kernel) rfl), by decide, by decide, by decide +kernel⟩
theorem mt_J0_length_8abf5 : Cond.instanceMethod yJ0_length_8abf5 ∈ tb ∧ Cond.selects yJ0_length_8abf5.cls yJ0_length_8abf5 yJ0_length_8abf5 ∈ tb := ⟨(tT 258 (by decide +kernel) rfl), (tT 259 (by decide +kernel) rfl)⟩
theorem mb_J0_charAt_5068e : MB yJ0_charAt_5068e cJ0_charAt_5068e 2 (some .char) 1 := ⟨(tT 270 (by decide +kernel) rfl), (tT 9 (by decide +kernel) rfl), by decide, by decide, by decide +kernel⟩
theorem mt_J0_charAt_5068e : Cond.instanceMethod yJ0_charAt_5068e ∈ tb ∧ Cond.selects yJ0_charAt_5068e.cls yJ0_charAt_5068e yJ0_charAt_5068e ∈ tb := ⟨(tT 268 (by decide +kernel) rfl), (tT 269 (by decide +kernel) rfl)⟩
theorem mb_J0_coder_7d493 : MB yJ0_coder_7d493 cJ0_coder_7d493 1 (some .byte) 0 := ⟨(tT 264 (by decide +kernel) rfl), (tT 9 (by decide +kernel) rfl), by decide, by decide, by decide +kernel⟩
theorem mt_J0_coder_7d493 : Cond.instanceMethod yJ0_coder_7d493 ∈ tb ∧ Cond.selects yJ0_coder_7d493.cls yJ0_coder_7d493 yJ0_coder_7d493 ∈ tb := ⟨(tT 262 (by decide +kernel) rfl), (tT 263 (by decide +kernel) rfl)⟩
theorem mb_J0_isLatin1_aae02 : MB yJ0_isLatin1_aae02 cJ0_isLatin1_aae02 1 (some .boolean) 0 := ⟨(tT 274 (by decide +kernel) rfl), (tT 9 (by decide +kernel) rfl), by decide, by decide, by decide +kernel⟩
theorem mt_J0_isLatin1_aae02 : Cond.instanceMethod yJ0_isLatin1_aae02 ∈ tb ∧ Cond.selects yJ0_isLatin1_aae02.cls yJ0_isLatin1_aae02 yJ0_isLatin1_aae02 ∈ tb := ⟨(tT 272 (by decide +kernel) rfl), (tT 273 (by decide +kernel) rfl)⟩
theorem mb_J0_checkIndex_df160 : MB yJ0_checkIndex_df160 cJ0_checkIndex_df160 2 none 2 := ⟨(tT 280 (by decide +kernel) rfl), (tT 9 (by decide +kernel) rfl), by decide, by decide, by decide +kernel⟩
theorem ms_J0_checkIndex_df160 : MS yJ0_checkIndex_df160 := (tT 279 (by decide +kernel) rfl)
theorem mb_J1_charAt_3b067 : MB yJ1_charAt_3b067 cJ1_charAt_3b067 2 (some .char) 2 := ⟨(tT 277 (by decide +kernel) rfl), (tT 10 (by decide +kernel) rfl), by decide, by decide, by decide +kernel⟩
theorem ms_J1_charAt_3b067 : MS yJ1_charAt_3b067 := (tT 276 (by decide +kernel) rfl)
theorem mb_J3_checkIndex_8e157 : MB yJ3_checkIndex_8e157 cJ3_checkIndex_8e157 3 (some .int) 3 := ⟨(tT 285 (by decide +kernel) rfl), (tT 11 (by decide +kernel) rfl), by decide, by decide, by decide +kernel⟩
theorem ms_J3_checkIndex_8e157 : MS yJ3_checkIndex_8e157 := (tT 284 (by decide +kernel) rfl)
theorem ml_J0_335 : ML RJ0 335 yJ0_coder_7d493 := Or.inl (tT 261 (by decide +kernel) rfl)
theorem ml_J0_492 : ML RJ0 492 yJ0_isLatin1_aae02 := Or.inl (tT 271 (by decide +kernel) rfl)
theorem ml_J0_495 : ML RJ0 495 yJ1_charAt_3b067 := Or.inl (tT 275 (by decide +kernel) rfl)
theorem ml_J1_9 : ML RJ1 9 yJ0_checkIndex_df160 := Or.inl (tT 278 (by decide +kernel) rfl)
theorem ml_J0_1059 : ML RJ0 1059 yJ3_checkIndex_8e157 := Or.inl (tT 283 (by decide +kernel) rfl)
theorem fs_38 : Cond.fieldLink "java/lang/String" 38 "java/lang/String" "COMPACT_STRINGS" "Z" ∈ tb := (tT 265 (by decide +kernel) rfl)
theorem fs_1053 : Cond.fieldLink "java/lang/String" 1053 "jdk/internal/util/Preconditions" "SIOOBE_FORMATTER" "Ljava/util/function/BiFunction;" ∈ tb := (tT 281 (by decide +kernel) rfl)
theorem fs_9 : Cond.fieldLink "java/lang/String" 9 "java/lang/String" "value" "[B" ∈ tb := (tT 1179 (by decide +kernel) rfl)
theorem fs_15 : Cond.fieldLink "java/lang/String" 15 "java/lang/String" "coder" "B" ∈ tb := (tT 1180 (by decide +kernel) rfl)
theorem isT_of {t : Nat} (h : isT t = true) : ∃ i, i < 5 ∧ t = 100 + i := by
  have h1 : 100 ≤ t ∧ t < 105 := by simpa [isT] using h
  exact ⟨t - 100, by omega, by omega⟩
theorem st_all : ∀ i, i < 5 → stl.getD i 0 < 2 ^ 31 ∧ ∀ k, k < stl.getD i 0 → ((stx.getD i []).getD k 0 &&& 255 = (stx.getD i []).getD k 0) ∧ ((((stx.getD i []).getD k 0).toUInt32 % 65536).toInt32 = (stx.getD i []).getD k 0) ∧ narrow .char (.int ((stx.getD i []).getD k 0)) = .int ((stx.getD i []).getD k 0) := by decide +kernel
theorem st_shr : ∀ i, i < 5 → (nI (stl.getD i 0)) >>> ((0 : Int32) &&& 31) = nI (stl.getD i 0) := by decide +kernel
section VS
variable {X : XX} {G : GG} {M M' : Mem} {cc : ByteArray} {nL pc fr lo : Nat} {own : String} {ret : Option FieldType} {lv : List (Option Value)} {st rest : List Value}
theorem v_ldcs {i k : Nat} (C : Cx X G cc nL RX3 fr lo ret) (hi : i < 5) (hk : sidx i = k) (hd : decode cc pc = .ok (.ldc k, 2)) (K : V X G nL M (pc + 2) lv (.ref (G.2.1 (100 + i)) :: st)) : V X G nL M pc lv st := fun H locs ls hP hS h => by
  subst hk
  exact va_ldcS C.1 C.2.1 C.2.2.2.1 (C.2.2.2.2.2.1.2.2.2.2.1 i hi) hd (K H locs ls hP hS h)
theorem v_scoder {i : Nat} (C : Cx X G cc nL "java/lang/String" fr lo ret) (hi : i < 5) (hd : decode cc pc = .ok (.getfield 15, 3)) (K : V X G nL M (pc + 3) lv (.int 0 :: st)) : V X G nL M pc lv (.ref (G.2.1 (100 + i)) :: st) := fun H locs ls hP hS h =>
  vk_getf C.1 C.2.1 ((C.2.2.2.2.2.1.2.2.2.1.1 i hi).2.1) hS C.2.2.2.1 (C.2.2.2.2.1 _ fs_15) (fun _ z => z) hd (K H locs ls hP hS h)
theorem v_svalue {i : Nat} (C : Cx X G cc nL "java/lang/String" fr lo ret) (hi : i < 5) (hd : decode cc pc = .ok (.getfield 9, 3)) (K : V X G nL M (pc + 3) lv (.ref (G.2.1 (110 + i)) :: st)) : V X G nL M pc lv (.ref (G.2.1 (100 + i)) :: st) := fun H locs ls hP hS h =>
  vk_getf C.1 C.2.1 ((C.2.2.2.2.2.1.2.2.2.1.1 i hi).2.2.1) hS C.2.2.2.1 (C.2.2.2.2.1 _ fs_9) (fun _ z => z) hd (K H locs ls hP hS h)
theorem v_slenA {i : Nat} (C : Cx X G cc nL own fr lo ret) (hi : i < 5) (hd : decode cc pc = .ok (.arraylength, 1)) (K : V X G nL M (pc + 1) lv (.int (nI (stl.getD i 0)) :: st)) : V X G nL M pc lv (.ref (G.2.1 (110 + i)) :: st) := fun H locs ls hP hS h =>
  va_tlen C.1 C.2.1 ((C.2.2.2.2.2.1.2.2.2.1.1 i hi).2.2.2) hS rfl hd (K H locs ls hP hS h)
theorem v_sbald {i : Nat} {j : Int32} (C : Cx X G cc nL own fr lo ret) (hi : i < 5) (hj : ib j (stl.getD i 0) = true) (hd : decode cc pc = .ok (.baload, 1)) (K : V X G nL M (pc + 1) lv (.int ((stx.getD i []).getD (ix j) 0) :: st)) : V X G nL M pc lv (.int j :: .ref (G.2.1 (110 + i)) :: st) := fun H locs ls hP hS h =>
  va_tb C.1 C.2.1 ((C.2.2.2.2.2.1.2.2.2.1.1 i hi).2.2.2) hS (ib_in hj) rfl hd (K H locs ls hP hS h)
theorem v_scomp (C : Cx X G cc nL "java/lang/String" fr lo ret) (hd : decode cc pc = .ok (.getstatic 38, 3)) (K : V X G nL M (pc + 3) lv (.int 1 :: st)) : V X G nL M pc lv st := fun H locs ls hP hS h =>
  va_gets C.1 C.2.1 C.2.2.2.2.2.1.2.2.2.2.2.1 hS C.2.2.2.1 (C.2.2.2.2.1 _ fs_38) (fun _ z => z) hd (K H locs ls hP hS h)
theorem v_sform (C : Cx X G cc nL "java/lang/String" fr lo ret) (hd : decode cc pc = .ok (.getstatic 1053, 3)) (K : ∀ v : Value, v.category = 1 → V X G nL M (pc + 3) lv (v :: st)) : V X G nL M pc lv st := fun H locs ls hP hS h => by
  rcases C.2.2.2.2.2.1.2.2.2.2.2.2 with z | ⟨t, z⟩
  · exact va_gets C.1 C.2.1 z hS C.2.2.2.1 (C.2.2.2.2.1 _ fs_1053) (fun _ z => z) hd (K .null rfl H locs ls hP hS h)
  · exact va_gets C.1 C.2.1 z hS C.2.2.2.1 (C.2.2.2.2.1 _ fs_1053) (fun _ z => z) hd (K (.ref t) rfl H locs ls hP hS h)
theorem v_i2c (C : Cx X G cc nL own fr lo ret) {x v : Int32} (hd : decode cc pc = .ok (.i2c, 1)) (hv : (x.toUInt32 % 65536).toInt32 = v) (K : V X G nL M (pc + 1) lv (.int v :: st)) : V X G nL M pc lv (.int x :: st) := fun H locs ls hP hS h => lv_i2c C.1 C.2.1 hd hv (K H locs ls hP hS h)
theorem v_nret {ty : FieldType} (C : Cx X G cc nL own fr lo (some ty)) {x : Int32} (hQ : Rt X G (some (.int x)) M) (hn : narrow ty (.int x) = .int x) (hd : decode cc pc = .ok (.ireturn, 1)) : V X G nL M pc lv [.int x] := fun H locs ls hP hS h => by
  obtain ⟨e1, e2, -, -, -, -, -, -, -, e10, e11, -⟩ := C
  show W _ _ _ _ _ _ _ _ _ _ _ _ _ _ (xQ X) _
  rw [show xQ X = _ from hQ]
  exact W.zret e1 e2 e10 hn (ps_of hP hS) hS.2.2 hd e11
end VS
set_option maxRecDepth 100000 in
theorem Js_coder_ok (l : Launch) {G : GG} (hI : IG G) {M : Mem} {i : Nat} (hi : i < 5) : Sp l G yJ0_coder_7d493 cJ0_coder_7d493 1 (some .byte) 0 0 [.ref (G.2.1 (100 + i))] M (some (.int 0)) M := by
  refine sp_intro [some (.ref (G.2.1 (100 + i)))] hI (by decide) (Nat.le_of_ble_eq_true rfl) (fun _ hq => hq) (fun X _ C hQ => ?_)
  refine v_scomp C dJ0_coder_7d493_0 ?_
  refine v_if_eq (tgt := 13) C dJ0_coder_7d493_3 (by decide) (fun q => absurd q (by decide)) (fun q => ?_)
  refine v_aload_n C dJ0_coder_7d493_6 rfl ?_
  refine v_scoder C hi dJ0_coder_7d493_7 ?_
  refine v_goto (tgt := 14) C dJ0_coder_7d493_10 (by decide) ?_
  exact v_nret C hQ rfl dJ0_coder_7d493_14
set_option maxRecDepth 100000 in
theorem Js_isLatin1_ok (l : Launch) {G : GG} (hI : IG G) {M : Mem} {i : Nat} (hi : i < 5) : Sp l G yJ0_isLatin1_aae02 cJ0_isLatin1_aae02 1 (some .boolean) 0 0 [.ref (G.2.1 (100 + i))] M (some (.int 1)) M := by
  refine sp_intro [some (.ref (G.2.1 (100 + i)))] hI (by decide) (Nat.le_of_ble_eq_true rfl) (fun _ hq => hq) (fun X _ C hQ => ?_)
  refine v_scomp C dJ0_isLatin1_aae02_0 ?_
  refine v_if_eq (tgt := 17) C dJ0_isLatin1_aae02_3 (by decide) (fun q => absurd q (by decide)) (fun q => ?_)
  refine v_aload_n C dJ0_isLatin1_aae02_6 rfl ?_
  refine v_scoder C hi dJ0_isLatin1_aae02_7 ?_
  refine v_if_ne (tgt := 17) C dJ0_isLatin1_aae02_10 (by decide) (fun q => absurd rfl q) (fun q => ?_)
  refine v_iconst (v := 1) C dJ0_isLatin1_aae02_13 (by decide) ?_
  refine v_goto (tgt := 18) C dJ0_isLatin1_aae02_14 (by decide) ?_
  exact v_zret C hQ rfl dJ0_isLatin1_aae02_18
set_option maxRecDepth 100000 in
theorem Js_length_ok (l : Launch) {G : GG} (hI : IG G) {M : Mem} {i : Nat} (hi : i < 5) : Sp l G yJ0_length_8abf5 cJ0_length_8abf5 1 (some .int) 1 20 [.ref (G.2.1 (100 + i))] M (some (.int (nI (stl.getD i 0)))) M := by
  refine sp_intro [some (.ref (G.2.1 (100 + i)))] hI (by decide) (Nat.le_of_ble_eq_true rfl) (fun _ hq => hq) (fun X _ C hQ => ?_)
  refine v_aload_n C dJ0_length_8abf5_0 rfl ?_
  refine v_svalue C hi dJ0_length_8abf5_1 ?_
  refine v_slenA C hi dJ0_length_8abf5_4 ?_
  refine v_aload_n C dJ0_length_8abf5_5 rfl ?_
  refine v_callT (ov := some (.int 0)) C (Js_coder_ok (xl X) C.ig hi) ml_J0_335 mb_J0_coder_7d493 mt_J0_coder_7d493 rfl hi rfl rfl (Nat.le_of_ble_eq_true rfl) (by decide) (by decide) dJ0_length_8abf5_6 ?_
  refine v_ishr C dJ0_length_8abf5_9 ?_
  rw [st_shr i hi]
  exact v_iret C hQ dJ0_length_8abf5_10
set_option maxRecDepth 100000 in
theorem Jp_checkIndex_ok (l : Launch) {G : GG} (hI : IG G) {M : Mem} {j n : Int32} {v : Value} (hv : v.category = 1) (h0 : ¬ j < 0) (h1 : j < n) : Sp l G yJ3_checkIndex_8e157 cJ3_checkIndex_8e157 3 (some .int) 0 0 [.int j, .int n, v] M (some (.int j)) M := by
  refine sp_intro [some (.int j), some (.int n), none] hI (by decide) (by rcases v with _ | _ | _ | _ | _ | _ <;> first | (simp [Value.category] at hv; done) | exact Nat.le_of_ble_eq_true rfl) (fun q hq => ?_) (fun X _ C hQ => ?_)
  · have hq' : q ∈ [(0, Value.int j), (1, Value.int n)] := hq
    simp only [List.mem_cons, List.not_mem_nil, or_false] at hq'
    rcases hq' with rfl | rfl <;> simp [lv_args, Value.category]
  refine v_iload_n C dJ3_checkIndex_8e157_0 rfl ?_
  refine v_if_lt (tgt := 9) C dJ3_checkIndex_8e157_1 (by decide) (fun q => absurd q h0) (fun q => ?_)
  refine v_iload_n C dJ3_checkIndex_8e157_4 rfl ?_
  refine v_iload_n C dJ3_checkIndex_8e157_5 rfl ?_
  refine v_icmp_lt (tgt := 16) C dJ3_checkIndex_8e157_6 (by decide) (fun q => ?_) (fun q => absurd h1 q)
  refine v_iload_n C dJ3_checkIndex_8e157_16 rfl ?_
  exact v_iret C hQ dJ3_checkIndex_8e157_17
set_option maxRecDepth 100000 in
theorem Js_checkIndex_ok (l : Launch) {G : GG} (hI : IG G) {M : Mem} {j n : Int32} (h0 : ¬ j < 0) (h1 : j < n) : Sp l G yJ0_checkIndex_df160 cJ0_checkIndex_df160 2 none 1 22 [.int j, .int n] M none M := by
  refine sp_intro [some (.int j), some (.int n)] hI (by decide) (Nat.le_of_ble_eq_true rfl) (fun _ hq => hq) (fun X _ C hQ => ?_)
  refine v_iload_n C dJ0_checkIndex_df160_0 rfl ?_
  refine v_iload_n C dJ0_checkIndex_df160_1 rfl ?_
  refine v_sform C dJ0_checkIndex_df160_2 (fun v hv => ?_)
  refine v_callSi C (Jp_checkIndex_ok (xl X) C.ig hv h0 h1) ml_J0_1059 mb_J3_checkIndex_8e157 ms_J3_checkIndex_8e157 rfl rfl (Nat.le_of_ble_eq_true rfl) (by decide) (by decide) dJ0_checkIndex_df160_5 ?_
  refine v_pop C dJ0_checkIndex_df160_8 rfl ?_
  exact v_vret C hQ dJ0_checkIndex_df160_9
theorem ib_nl {j : Int32} {n : Nat} (hn : n < 2 ^ 31) (h : ib j n = true) : ¬ j < 0 ∧ j < nI n := by
  obtain ⟨k, hk, rfl⟩ := vp_in_of (ib_in h) hn
  exact ⟨nI_pos (by omega), nI_lt hk hn⟩
set_option maxRecDepth 100000 in
theorem Jl_charAt_ok (l : Launch) {G : GG} (hI : IG G) {M : Mem} {i : Nat} {j : Int32} (hi : i < 5) (hj : ib j (stl.getD i 0) = true) : Sp l G yJ1_charAt_3b067 cJ1_charAt_3b067 2 (some .char) 2 43 [.ref (G.2.1 (110 + i)), .int j] M (some (.int ((stx.getD i []).getD (ix j) 0))) M := by
  obtain ⟨hL, hA⟩ := st_all i hi
  obtain ⟨a1, a2, a3⟩ := hA _ (ib_lt hj)
  refine sp_intro [some (.ref (G.2.1 (110 + i))), some (.int j)] hI (by decide) (Nat.le_of_ble_eq_true rfl) (fun _ hq => hq) (fun X _ C hQ => ?_)
  refine v_iload_n C dJ1_charAt_3b067_0 rfl ?_
  refine v_aload_n C dJ1_charAt_3b067_1 rfl ?_
  refine v_slenA C hi dJ1_charAt_3b067_2 ?_
  refine v_callSv C (Js_checkIndex_ok (xl X) C.ig (ib_nl hL hj).1 (ib_nl hL hj).2) ml_J1_9 mb_J0_checkIndex_df160 ms_J0_checkIndex_df160 rfl rfl (Nat.le_of_ble_eq_true rfl) (by decide) (by decide) dJ1_charAt_3b067_3 ?_
  refine v_aload_n C dJ1_charAt_3b067_6 rfl ?_
  refine v_iload_n C dJ1_charAt_3b067_7 rfl ?_
  refine v_sbald C hi hj dJ1_charAt_3b067_8 ?_
  refine v_sipush (v := 255) C dJ1_charAt_3b067_9 (by decide) ?_
  refine v_iand C dJ1_charAt_3b067_12 ?_
  rw [a1]
  refine v_i2c C dJ1_charAt_3b067_13 a2 ?_
  exact v_nret C hQ a3 dJ1_charAt_3b067_14
set_option maxRecDepth 100000 in
theorem Js_charAt_ok (l : Launch) {G : GG} (hI : IG G) {M : Mem} {i : Nat} {j : Int32} (hi : i < 5) (hj : ib j (stl.getD i 0) = true) : Sp l G yJ0_charAt_5068e cJ0_charAt_5068e 2 (some .char) 3 64 [.ref (G.2.1 (100 + i)), .int j] M (some (.int ((stx.getD i []).getD (ix j) 0))) M := by
  obtain ⟨hL, hA⟩ := st_all i hi
  obtain ⟨a1, a2, a3⟩ := hA _ (ib_lt hj)
  refine sp_intro [some (.ref (G.2.1 (100 + i))), some (.int j)] hI (by decide) (Nat.le_of_ble_eq_true rfl) (fun _ hq => hq) (fun X _ C hQ => ?_)
  refine v_aload_n C dJ0_charAt_5068e_0 rfl ?_
  refine v_callT (ov := some (.int 1)) C (Js_isLatin1_ok (xl X) C.ig hi) ml_J0_492 mb_J0_isLatin1_aae02 mt_J0_isLatin1_aae02 rfl hi rfl rfl (Nat.le_of_ble_eq_true rfl) (by decide) (by decide) dJ0_charAt_5068e_1 ?_
  refine v_if_eq (tgt := 16) C dJ0_charAt_5068e_4 (by decide) (fun q => absurd q (by decide)) (fun q => ?_)
  refine v_aload_n C dJ0_charAt_5068e_7 rfl ?_
  refine v_svalue C hi dJ0_charAt_5068e_8 ?_
  refine v_iload_n C dJ0_charAt_5068e_11 rfl ?_
  refine v_callSi C (Jl_charAt_ok (xl X) C.ig hi hj) ml_J0_495 mb_J1_charAt_3b067 ms_J1_charAt_3b067 rfl rfl (Nat.le_of_ble_eq_true rfl) (by decide) (by decide) dJ0_charAt_5068e_12 ?_
  exact v_nret C hQ a3 dJ0_charAt_5068e_15
section VS2
variable {X : XX} {G : GG} {M M' : Mem} {cc : ByteArray} {nL pc fr lo : Nat} {own : String} {ret : Option FieldType} {lv : List (Option Value)} {st rest : List Value}
theorem v_slen {t idx : Nat} (C : Cx X G cc nL own fr lo ret) (ht : isT t = true) (hL : ML own idx yJ0_length_8abf5) (hf : 4 ≤ fr) (hlo : 85 ≤ lo) (hw : (st.map fun v => v.category).sum ≤ 8) (hd : decode cc pc = .ok (.invokevirtual idx, 3)) (K : V X G nL M (pc + 3) lv (.int (nI (slen t)) :: st)) : V X G nL M pc lv (.ref (G.2.1 t) :: st) := by
  obtain ⟨i, hi, rfl⟩ := isT_of ht
  have e : slen (100 + i) = stl.getD i 0 := by simp [slen]
  rw [e] at K
  exact v_callT (ov := some (.int (nI (stl.getD i 0)))) C (Js_length_ok (xl X) C.ig hi) hL mb_J0_length_8abf5 mt_J0_length_8abf5 rfl hi rfl rfl hw (by omega) (by omega) hd K
theorem v_scha {t idx : Nat} {j : Int32} (C : Cx X G cc nL own fr lo ret) (ht : isT t = true) (hj : ib j (slen t) = true) (hL : ML own idx yJ0_charAt_5068e) (hf : 4 ≤ fr) (hlo : 85 ≤ lo) (hw : (st.map fun v => v.category).sum ≤ 8) (hd : decode cc pc = .ok (.invokevirtual idx, 3)) (K : V X G nL M (pc + 3) lv (.int (sch t (ix j)) :: st)) : V X G nL M pc lv (.int j :: .ref (G.2.1 t) :: st) := by
  obtain ⟨i, hi, rfl⟩ := isT_of ht
  have e : slen (100 + i) = stl.getD i 0 := by simp [slen]
  have e2 : sch (100 + i) (ix j) = (stx.getD i []).getD (ix j) 0 := by simp [sch]
  rw [e] at hj
  rw [e2] at K
  exact v_callT (ov := some (.int ((stx.getD i []).getD (ix j) 0))) C (Js_charAt_ok (xl X) C.ig hi hj) hL mb_J0_charAt_5068e mt_J0_charAt_5068e rfl hi rfl rfl hw (by omega) (by omega) hd K
end VS2
