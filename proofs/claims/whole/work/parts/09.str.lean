/-! STRINGS: the five names of lines, cells 100 to 104 -/
def stx : List (List Int32) := [[112, 114, 105, 109, 101], [99, 111, 108], [114, 111, 119], [105, 110, 102], [97, 116]]
def slen (t : Nat) : Nat := (stx.getD (t - 100) []).length
def sch (t k : Nat) : Int32 := (stx.getD (t - 100) []).getD k 0
section VS
variable {X : XX} {G : GG} {M M' : Mem} {cc : ByteArray} {nL pc fr lo : Nat} {own : String} {ret : Option FieldType} {lv : List (Option Value)} {st rest : List Value}
def sidx (i : Nat) : Nat := [115, 120, 122, 124, 126].getD i 0
theorem v_ldcs {i k : Nat} (C : Cx X G cc nL RX3 fr lo ret) (hi : i < 5) (hk : sidx i = k) (hd : decode cc pc = .ok (.ldc k, 2)) (K : V X G nL M (pc + 2) lv (.ref (G.2.1 (100 + i)) :: st)) : V X G nL M pc lv st := sorry
theorem v_slen {t idx : Nat} (C : Cx X G cc nL own fr lo ret) (ht : isT t = true) (hL : ML own idx yJ0_length_8abf5) (hf : 6 ≤ fr) (hlo : 200 ≤ lo) (hw : (st.map fun v => v.category).sum ≤ 8) (hd : decode cc pc = .ok (.invokevirtual idx, 3)) (K : V X G nL M (pc + 3) lv (.int (nI (slen t)) :: st)) : V X G nL M pc lv (.ref (G.2.1 t) :: st) := sorry
theorem v_scha {t idx : Nat} {j : Int32} (C : Cx X G cc nL own fr lo ret) (ht : isT t = true) (hj : ib j (slen t) = true) (hL : ML own idx yJ0_charAt_5068e) (hf : 6 ≤ fr) (hlo : 200 ≤ lo) (hw : (st.map fun v => v.category).sum ≤ 8) (hd : decode cc pc = .ok (.invokevirtual idx, 3)) (K : V X G nL M (pc + 3) lv (.int (sch t (ix j)) :: st)) : V X G nL M pc lv (.int j :: .ref (G.2.1 t) :: st) := sorry
end VS
