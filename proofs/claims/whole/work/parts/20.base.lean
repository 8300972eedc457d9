/-! PURE: the relation of the memories, and what the small functions answer -/
theorem bd_s {α : Type} {r : Int32} {m : Mem} {k : Int32 → Mem → Option α} : bd (some (r, m)) k = k r m := rfl
theorem bv_s {α : Type} {m : Mem} {k : Mem → Option α} : bv (some m) k = k m := rfl
theorem wr_g {M : Mem} {c k a b : Nat} {v : Int32} : wr M c k v a b = if a = c ∧ b = k then v else M a b := by
  by_cases h1 : a = c <;> by_cases h2 : b = k <;> simp [wr, h1, h2]
theorem wr_s {M : Mem} {c k : Nat} {v : Int32} : wr M c k v c k = v := by simp [wr]
theorem wr_o {M : Mem} {c k b : Nat} {v : Int32} (h : b ≠ k) : wr M c k v c b = M c b := by simp [wr, h]
theorem wra_g {M : Mem} {c a b : Nat} {f : Nat → Int32} : wra M c f a b = if a = c then f b else M a b := rfl
/-- a loop that counts up -/
theorem lp {R : Type} (L : Nat → Nat → Mem → R) (K : Mem → R) (e : Nat) (Inv : Nat → Mem → Prop) (hx : ∀ n M, Inv e M → L (n + 1) e M = K M) (hs : ∀ n i M, i < e → Inv i M → ∃ M1, Inv (i + 1) M1 ∧ L (n + 1) i M = L n (i + 1) M1) : ∀ d n i M, i + d = e → d < n → Inv i M → ∃ M', Inv e M' ∧ L n i M = K M' := by
  intro d
  induction d with
  | zero =>
    intro n i M h1 h2 h3
    obtain ⟨n, rfl⟩ : ∃ q, n = q + 1 := ⟨n - 1, by omega⟩
    have : i = e := by omega
    subst this
    exact ⟨M, h3, hx n M h3⟩
  | succ d ih =>
    intro n i M h1 h2 h3
    obtain ⟨n, rfl⟩ : ∃ q, n = q + 1 := ⟨n - 1, by omega⟩
    obtain ⟨M1, g1, g2⟩ := hs n i M (by omega) h3
    obtain ⟨M', g3, g4⟩ := ih n (i + 1) M1 (by omega) (by omega) g1
    exact ⟨M', g3, g2.trans g4⟩
/-- .. with a state beside the memory -/
theorem lps {σ R : Type} (L : Nat → Nat → σ → R) (K : σ → R) (e : Nat) (Inv : Nat → σ → Prop) (hx : ∀ n M, Inv e M → L (n + 1) e M = K M) (hs : ∀ n i M, i < e → Inv i M → ∃ M1, Inv (i + 1) M1 ∧ L (n + 1) i M = L n (i + 1) M1) : ∀ d n i M, i + d = e → d < n → Inv i M → ∃ M', Inv e M' ∧ L n i M = K M' := by
  intro d
  induction d with
  | zero =>
    intro n i M h1 h2 h3
    obtain ⟨n, rfl⟩ : ∃ q, n = q + 1 := ⟨n - 1, by omega⟩
    have : i = e := by omega
    subst this
    exact ⟨M, h3, hx n M h3⟩
  | succ d ih =>
    intro n i M h1 h2 h3
    obtain ⟨n, rfl⟩ : ∃ q, n = q + 1 := ⟨n - 1, by omega⟩
    obtain ⟨M1, g1, g2⟩ := hs n i M (by omega) h3
    obtain ⟨M', g3, g4⟩ := ih n (i + 1) M1 (by omega) (by omega) g1
    exact ⟨M', g3, g2.trans g4⟩
theorem FU_lt {d : Nat} (h : d < 1000) : d < FU := h
/-! numbers -/
theorem cmp_lt {a b : Int32} : lg_cmp a.toInt64 b.toInt64 < 0 ↔ a < b := by
  rw [lg_cmp_lt, Int64.lt_iff_toInt_lt, Int32.lt_iff_toInt_lt, Int32.toInt_toInt64, Int32.toInt_toInt64]
theorem cmp_gt {a b : Int32} : 0 < lg_cmp a.toInt64 b.toInt64 ↔ b < a := by
  rw [lg_cmp_gt, Int64.lt_iff_toInt_lt, Int32.lt_iff_toInt_lt, Int32.toInt_toInt64, Int32.toInt_toInt64]
def b2i (p : Prop) (d : Decidable p) : Int32 := if p then 1 else 0
theorem in_ok (a b c : Int32) (M : Mem) : Mo_in a.toInt64 b.toInt64 c.toInt64 M = some (if b ≤ a ∧ a ≤ c then 1 else 0, M) := by
  unfold Mo_in
  by_cases h1 : a < b
  · rw [if_pos (cmp_lt.mpr h1), if_neg (fun h => absurd h.1 (Int32.not_le.mpr h1))]
  · rw [if_neg (mt cmp_lt.mp h1)]
    by_cases h2 : c < a
    · rw [if_pos (cmp_gt.mpr h2), if_neg (fun h => absurd h.2 (Int32.not_le.mpr h2))]
    · rw [if_neg (mt cmp_gt.mp h2), if_pos ⟨Int32.not_lt.mp h1, Int32.not_lt.mp h2⟩]
theorem in_0_1 (a : Int32) (M : Mem) : Mo_in a.toInt64 0 1 M = some (if 0 ≤ a ∧ a ≤ 1 then 1 else 0, M) := in_ok a 0 1 M
theorem in_0_2 (a : Int32) (M : Mem) : Mo_in a.toInt64 0 2 M = some (if 0 ≤ a ∧ a ≤ 2 then 1 else 0, M) := in_ok a 0 2 M
theorem in_0_3 (a : Int32) (M : Mem) : Mo_in a.toInt64 0 3 M = some (if 0 ≤ a ∧ a ≤ 3 then 1 else 0, M) := in_ok a 0 3 M
theorem in_0_4 (a : Int32) (M : Mem) : Mo_in a.toInt64 0 4 M = some (if 0 ≤ a ∧ a ≤ 4 then 1 else 0, M) := in_ok a 0 4 M
theorem in_0_10 (a : Int32) (M : Mem) : Mo_in a.toInt64 0 10 M = some (if 0 ≤ a ∧ a ≤ 10 then 1 else 0, M) := in_ok a 0 10 M
theorem in_0_100 (a : Int32) (M : Mem) : Mo_in a.toInt64 0 100 M = some (if 0 ≤ a ∧ a ≤ 100 then 1 else 0, M) := in_ok a 0 100 M
theorem in_0_127 (a : Int32) (M : Mem) : Mo_in a.toInt64 0 127 M = some (if 0 ≤ a ∧ a ≤ 127 then 1 else 0, M) := in_ok a 0 127 M
theorem in_97_122 (a : Int32) (M : Mem) : Mo_in a.toInt64 97 122 M = some (if 97 ≤ a ∧ a ≤ 122 then 1 else 0, M) := in_ok a 97 122 M
theorem in_48_57 (a : Int32) (M : Mem) : Mo_in a.toInt64 48 57 M = some (if 48 ≤ a ∧ a ≤ 57 then 1 else 0, M) := in_ok a 48 57 M
theorem in_0c (a c : Int32) (M : Mem) : Mo_in a.toInt64 0 c.toInt64 M = some (if 0 ≤ a ∧ a ≤ c then 1 else 0, M) := in_ok a 0 c M
theorem in_1c (a c : Int32) (M : Mem) : Mo_in a.toInt64 1 c.toInt64 M = some (if 1 ≤ a ∧ a ≤ c then 1 else 0, M) := in_ok a 1 c M
theorem nI_sub1 {r : Nat} (h : r ≤ 100000) : (nI r - 1).toInt = (r : Int) - 1 := pk_sub_toInt (a := r) (b := 1) (by omega) (by omega)
theorem le_p1 {a : Int32} {r : Nat} (h : r ≤ 100000) : a ≤ nI r - 1 ↔ a < nI r := by
  rw [Int32.le_iff_toInt_le, Int32.lt_iff_toInt_lt, nI_sub1 h, nI_toInt (by omega)]
  omega
/-- an int from 0 to below n -/
theorem ran {a : Int32} {n : Nat} (hn : n < 2 ^ 31) (h0 : 0 ≤ a) (h1 : a < nI n) : ∃ k, k < n ∧ a = nI k := by
  obtain ⟨j, hj, rfl⟩ := nI_of (Int32.not_lt.mpr h0)
  exact ⟨j, (nI_ltI hj hn).mp h1, rfl⟩
theorem ranl {a : Int32} {n : Nat} (hn : n < 2 ^ 31) (h0 : 0 ≤ a) (h1 : a ≤ nI n) : ∃ k, k ≤ n ∧ a = nI k := by
  obtain ⟨j, hj, rfl⟩ := nI_of (Int32.not_lt.mpr h0)
  exact ⟨j, (nI_leI hj hn).mp h1, rfl⟩
theorem ixn {k : Nat} (h : k < 2 ^ 31) : ix (nI k) = k := nI_clamp h
theorem ibn {k n : Nat} (h : k < n) (hn : n < 2 ^ 31) : ib (nI k) n = true := by
  simp only [ib, Bool.and_eq_true, Bool.not_eq_true', decide_eq_false_iff_not, decide_eq_true_eq]
  exact ⟨nI_pos (by omega), by rw [nI_clamp (by omega)]; exact h⟩
theorem nIm (a b : Nat) : nI a * nI b = nI (a * b) := pk_mul a b
theorem nIa (a b : Nat) : nI a + nI b = nI (a + b) := nI_add a b
/-! the relation -/
def pr (p : Nat) : Prop := p = 2 ∨ p = 3 ∨ p = 5 ∨ p = 7
def PRel (A B S : Nat → Int32) : Prop := ∃ p r w : Nat, pr p ∧ r ≤ 4 ∧ w ≤ 4 ∧ A 1 = nI p ∧ A 2 = nI r ∧ A 3 = nI w ∧ S 0 = nI p ∧ S 1 = nI r ∧ S 2 = nI w ∧
  (∀ t i j, t < 2 → i < r → j < w → ∃ v, v < p ∧ B (16 * t + 4 * i + j) = nI v ∧ S (3 + (16 * t + 4 * i + j)) = nI v) ∧
  ∀ t i j, t < 2 → i < 4 → j < 4 → r ≤ i ∨ w ≤ j → B (16 * t + 4 * i + j) = 0
def RT (M : Mem) : Prop := ∃ k : Nat, k ≤ 160 ∧ M 1 2 = nI k ∧ M 32 7 = nI k ∧ ∀ j, j < k → ∃ b : Nat, b < 128 ∧ M 2 j = nI b ∧ M 37 j = nI b
def RI (M : Mem) : Prop := ∀ k, k < 2 → (M 12 k = 0 ∧ M 35 k = 0) ∨ (M 12 k = 1 ∧ M 35 k = 1 ∧ PRel (M (8 + 2 * k)) (M (9 + 2 * k)) (fun j => M 34 (35 * k + j)))
def RS (M : Mem) : Prop := ∀ k, k < 4 → (M (14 + 2 * k) 2 = -1 ∧ M 46 k = -4) ∨ (∃ a n : Nat, a < 3 ∧ n ≤ 40 ∧ M (14 + 2 * k) 1 = nI a ∧ M (14 + 2 * k) 2 = nI n ∧ M 46 k = nI a ∧ M 47 k = nI n ∧ ∀ i, i < 40 → M (15 + 2 * k) i = M 48 (40 * k + i))
def RF (M : Mem) : Prop := M 0 8 = M 32 12 ∧ M 0 9 = M 32 28 ∧ M 32 17 = 0
def Rel (M : Mem) : Prop := RT M ∧ PRel (M 5) (M 6) (M 33) ∧ RI M ∧ RS M ∧ RF M
theorem RT.mv {M M' : Mem} (h : RT M) (h1 : M' 1 2 = M 1 2) (h2 : M' 2 = M 2) (h3 : M' 32 7 = M 32 7) (h4 : M' 37 = M 37) : RT M' := by
  obtain ⟨k, g1, g2, g3, g4⟩ := h
  exact ⟨k, g1, by rw [h1]; exact g2, by rw [h3]; exact g3, by rw [h2, h4]; exact g4⟩
theorem PRel.mv {A B S A' B' S' : Nat → Int32} (h : PRel A B S) (h1 : A' = A) (h2 : B' = B) (h3 : S' = S) : PRel A' B' S' := by subst h1; subst h2; subst h3; exact h
theorem RI.mv {M M' : Mem} (h : RI M) (h1 : M' 12 = M 12) (h2 : M' 35 = M 35) (h3 : M' 8 = M 8) (h4 : M' 9 = M 9) (h5 : M' 10 = M 10) (h6 : M' 11 = M 11) (h7 : M' 34 = M 34) : RI M' := by
  intro k hk
  have q := h k hk
  have e : k = 0 ∨ k = 1 := by omega
  rcases e with rfl | rfl
  · simp only [h1, h2, h7, show 8 + 2 * 0 = 8 from rfl, show 9 + 2 * 0 = 9 from rfl, h3, h4] at q ⊢
    exact q
  · simp only [h1, h2, h7, show 8 + 2 * 1 = 10 from rfl, show 9 + 2 * 1 = 11 from rfl, h5, h6] at q ⊢
    exact q
theorem RS.mv {M M' : Mem} (h : RS M) (hc : ∀ c, 14 ≤ c → c < 22 → M' c = M c) (h1 : M' 46 = M 46) (h2 : M' 47 = M 47) (h3 : M' 48 = M 48) : RS M' := by
  intro k hk
  have q := h k hk
  rw [hc (14 + 2 * k) (by omega) (by omega), hc (15 + 2 * k) (by omega) (by omega), h1, h2, h3]
  exact q
theorem RF.mv {M M' : Mem} (h : RF M) (h1 : M' 0 = M 0) (h2 : M' 32 12 = M 32 12) (h3 : M' 32 28 = M 32 28) (h4 : M' 32 17 = M 32 17) : RF M' := by
  unfold RF
  rw [h1, h2, h3, h4]
  exact h
theorem Rel.op0 {M : Mem} (h : Rel M) : ∃ (r : Int32) (M1 M2 : Mem), (some (r, M) : Option (Int32 × Mem)) = some (r, M1) ∧ (some (r, M) : Option (Int32 × Mem)) = some (r, M2) ∧ Rel M2 := ⟨0, M, M, rfl, rfl, h⟩
theorem Rel_M0 : Rel M0 := by
  refine ⟨⟨0, by omega, rfl, rfl, fun j hj => by omega⟩, ⟨7, 0, 0, Or.inr (Or.inr (Or.inr rfl)), by omega, by omega, rfl, rfl, rfl, rfl, rfl, rfl, fun t i j _ h => by omega, fun t i j _ _ _ _ => rfl⟩, fun k _ => Or.inl ⟨rfl, rfl⟩, fun k hk => Or.inl ?_, rfl, rfl, rfl⟩
  have e : k = 0 ∨ k = 1 ∨ k = 2 ∨ k = 3 := by omega
  rcases e with rfl | rfl | rfl | rfl <;> exact ⟨rfl, by decide⟩
