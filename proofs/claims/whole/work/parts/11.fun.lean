/-! THE PROGRAM as functions over the memory, by program out of the bytecode -/
def Ja_fill_L5  : Nat → Nat → Int32 → Int32 → Int32 → Mem → Option Mem
  | 0, _, _, _, _, _ => none
  | n + 1, v0, v1, v2, v3, M => if v3 ≤ v2 then (some M) else
  if ib v2 (ln v0) = true then (Ja_fill_L5 n v0 v1 (v2 + 1) v3 (wr M v0 (ix v2) v1)) else none
def Ja_fill (v0 : Nat) (v1 : Int32) (M : Mem) : Option Mem :=
  if isI v0 = true then (Ja_fill_L5 FU v0 v1 0 (nI (ln v0)) M) else none
def Eq_begin (v1 : Nat) (v2 : Int32) (v3 : Int32) (M : Mem) : Option Mem :=
  if isP v1 = true then (bv (Ja_fill 24 0 (wr (wr (wr M 23 1 (M v1 1)) 23 2 (if (v2 * ((wr M 23 1 (M v1 1)) v1 2)) > 24 then 24 else (v2 * ((wr M 23 1 (M v1 1)) v1 2)))) 23 3 (if (v3 * ((wr (wr M 23 1 (M v1 1)) 23 2 (if (v2 * ((wr M 23 1 (M v1 1)) v1 2)) > 24 then 24 else (v2 * ((wr M 23 1 (M v1 1)) v1 2)))) v1 3)) > 20 then 20 else (v3 * ((wr (wr M 23 1 (M v1 1)) 23 2 (if (v2 * ((wr M 23 1 (M v1 1)) v1 2)) > 24 then 24 else (v2 * ((wr M 23 1 (M v1 1)) v1 2)))) v1 3))))) fun M1 =>
  some M1) else none
def Pa_hasPlace (v0 : Nat) (v1 : Int32) (v2 : Int32) (v3 : Int32) (M : Mem) : Option (Int32 × Mem) :=
  if isP v0 = true then (if v1 < 0 then (some (0, M)) else
  if 2 ≤ v1 then (some (0, M)) else
  if v2 < 0 then (some (0, M)) else
  if (M v0 2) ≤ v2 then (some (0, M)) else
  if v3 < 0 then (some (0, M)) else
  if (M v0 3) ≤ v3 then (some (0, M)) else
  some (1, M)) else none
def Pa_spot (v0 : Int32) (v1 : Int32) (v2 : Int32) (M : Mem) : Option (Int32 × Mem) :=
  some ((((v0 * 16) + (v1 * 4)) + v2), M)
def Pa_valueAt (v0 : Nat) (v1 : Int32) (v2 : Int32) (v3 : Int32) (M : Mem) : Option (Int32 × Mem) :=
  if isP v0 = true then (bd (Pa_hasPlace v0 v1 v2 v3 M) fun r3 M1 =>
  if r3 = 0 then (some (0, M1)) else
  bd (Pa_spot v1 v2 v3 M1) fun r6 M4 =>
  if ib r6 32 = true then (some ((M4 (v0 + 1) (ix r6)), M4)) else none) else none
def Pf_reduce (v0 : Int32) (v1 : Int32) (M : Mem) : Option (Int32 × Mem) :=
  if 1 ≤ v1 then (if v1 = 0 then none else
  if 0 ≤ (jrem v0 v1) then (some ((jrem v0 v1), M)) else
  some (((jrem v0 v1) + v1), M)) else
  some (0, M)
def Eq_putNumber (v1 : Int32) (v2 : Int32) (v3 : Int32) (M : Mem) : Option Mem :=
  if v1 < 0 then (some M) else
  if (M 23 2) ≤ v1 then (some M) else
  if v2 < 0 then (some M) else
  if (M 23 3) ≤ v2 then (some M) else
  if ib ((v1 * 20) + v2) 480 = true then (some (wr M 24 (ix ((v1 * 20) + v2)) v3)) else none
def Eq_putBlock_L15 (k3 : Nat → Int32 → Int32 → Int32 → Int32 → Int32 → Mem → Option Mem) : Nat → Nat → Int32 → Int32 → Int32 → Int32 → Int32 → Int32 → Mem → Option Mem
  | 0, _, _, _, _, _, _, _, _ => none
  | n + 1, v1, v2, v3, v4, v5, v6, v7, M => if (M v1 3) ≤ v7 then (k3 v1 v2 v3 v4 v5 (v6 + 1) M) else
  bd (Pa_valueAt v1 0 v6 v7 M) fun r3 M1 =>
  bd (Pa_valueAt v1 1 v6 v7 M1) fun r6 M4 =>
  bd (Pf_reduce ((v4 * r3) + (v5 * r6)) (M4 23 1) M4) fun r9 M7 =>
  bv (Eq_putNumber ((v2 * (M4 v1 2)) + v6) ((v3 * (M4 v1 3)) + v7) r9 M7) fun M10 =>
  Eq_putBlock_L15 k3 n v1 v2 v3 v4 v5 v6 (v7 + 1) M10
def Eq_putBlock_L3  : Nat → Nat → Int32 → Int32 → Int32 → Int32 → Int32 → Mem → Option Mem
  | 0, _, _, _, _, _, _, _ => none
  | n + 1, v1, v2, v3, v4, v5, v6, M => if (M v1 2) ≤ v6 then (some M) else
  Eq_putBlock_L15 (Eq_putBlock_L3 n) FU v1 v2 v3 v4 v5 v6 0 M
def Eq_putBlock (v1 : Nat) (v2 : Int32) (v3 : Int32) (v4 : Int32) (v5 : Int32) (M : Mem) : Option Mem :=
  if isP v1 = true then (Eq_putBlock_L3 FU v1 v2 v3 v4 v5 0 M) else none
def Eq_addImageUnderA_b76 (k22 : Nat → Nat → Int32 → Mem → Option Mem) (v1 : Nat) (v2 : Nat) (v3 : Int32) (v4 : Int32) (M : Mem) : Option Mem :=
  bd (Pf_reduce v4 (M 23 1) M) fun r3 M1 =>
  bv (Eq_putNumber v3 ((M 23 3) - 1) r3 M1) fun M4 =>
  k22 v1 v2 (v3 + 1) M4
def Eq_addImageUnderA_L36 (k22 : Nat → Nat → Int32 → Mem → Option Mem) : Nat → Nat → Nat → Int32 → Int32 → Int32 → Mem → Option Mem
  | 0, _, _, _, _, _, _ => none
  | n + 1, v1, v2, v3, v4, v5, M => if (M v1 3) ≤ v5 then (Eq_addImageUnderA_b76 k22 v1 v2 v3 v4 M) else
  if (nI (ln v2)) ≤ v5 then (Eq_addImageUnderA_b76 k22 v1 v2 v3 v4 M) else
  bd (Pa_valueAt v1 0 v3 v5 M) fun r3 M1 =>
  if ib v5 (ln v2) = true then (Eq_addImageUnderA_L36 k22 n v1 v2 v3 (v4 + (r3 * (M1 v2 (ix v5)))) (v5 + 1) M1) else none
def Eq_addImageUnderA_L22  : Nat → Nat → Nat → Int32 → Mem → Option Mem
  | 0, _, _, _, _ => none
  | n + 1, v1, v2, v3, M => if (M v1 2) ≤ v3 then (some M) else
  Eq_addImageUnderA_L36 (Eq_addImageUnderA_L22 n) FU v1 v2 v3 0 0 M
def Eq_addImageUnderA (v1 : Nat) (v2 : Nat) (M : Mem) : Option Mem :=
  if isP v1 = true then (if isI v2 = true then (if (M 23 3) < 20 then (Eq_addImageUnderA_L22 FU v1 v2 0 (wr M 23 3 ((M 23 3) + 1))) else
  some M) else none) else none
def Eq_findPivot_L2  : Nat → Int32 → Int32 → Mem → Option (Int32 × Mem)
  | 0, _, _, _ => none
  | n + 1, v2, v3, M => if (M 23 2) ≤ v3 then (some ((-1), M)) else
  if ib ((v3 * 20) + v2) 480 = true then (if (M 24 (ix ((v3 * 20) + v2))) = 0 then (Eq_findPivot_L2 n v2 (v3 + 1) M) else
  some (v3, M)) else none
def Eq_findPivot (v1 : Int32) (v2 : Int32) (M : Mem) : Option (Int32 × Mem) :=
  Eq_findPivot_L2 FU v2 v1 M
def Eq_exchangeRows_L3  : Nat → Int32 → Int32 → Int32 → Mem → Option Mem
  | 0, _, _, _, _ => none
  | n + 1, v1, v2, v4, M => if (M 23 3) ≤ v4 then (some M) else
  if ib ((v1 * 20) + v4) 480 = true then (if ib ((v2 * 20) + v4) 480 = true then (if ib ((v1 * 20) + v4) 480 = true then (if ib ((v2 * 20) + v4) 480 = true then (Eq_exchangeRows_L3 n v1 v2 (v4 + 1) (wr (wr M 24 (ix ((v1 * 20) + v4)) (M 24 (ix ((v2 * 20) + v4)))) 24 (ix ((v2 * 20) + v4)) (M 24 (ix ((v1 * 20) + v4))))) else none) else none) else none) else none
def Eq_exchangeRows (v1 : Int32) (v2 : Int32) (v3 : Int32) (M : Mem) : Option Mem :=
  Eq_exchangeRows_L3 FU v1 v2 v3 M
def Eq_clearBelow_b118 (k17 : Int32 → Int32 → Int32 → Int32 → Mem → Option Mem) (v1 : Int32) (v2 : Int32) (v3 : Int32) (v4 : Int32) (M : Mem) : Option Mem :=
  k17 v1 v2 v3 (v4 + 1) M
def Eq_clearBelow_L48 (k17 : Int32 → Int32 → Int32 → Int32 → Mem → Option Mem) : Nat → Int32 → Int32 → Int32 → Int32 → Int32 → Int32 → Mem → Option Mem
  | 0, _, _, _, _, _, _, _ => none
  | n + 1, v1, v2, v3, v4, v5, v6, M => if (M 23 3) ≤ v6 then (Eq_clearBelow_b118 k17 v1 v2 v3 v4 M) else
  if ib ((v4 * 20) + v6) 480 = true then (if ib ((v1 * 20) + v6) 480 = true then (bd (Pf_reduce ((v3 * (M 24 (ix ((v4 * 20) + v6)))) - (v5 * (M 24 (ix ((v1 * 20) + v6))))) (M 23 1) M) fun r5 M3 =>
  if ib ((v4 * 20) + v6) 480 = true then (Eq_clearBelow_L48 k17 n v1 v2 v3 v4 v5 (v6 + 1) (wr M3 24 (ix ((v4 * 20) + v6)) r5)) else none) else none) else none
def Eq_clearBelow_L17  : Nat → Int32 → Int32 → Int32 → Int32 → Mem → Option Mem
  | 0, _, _, _, _, _ => none
  | n + 1, v1, v2, v3, v4, M => if (M 23 2) ≤ v4 then (some M) else
  if ib ((v4 * 20) + v2) 480 = true then (if (M 24 (ix ((v4 * 20) + v2))) = 0 then (Eq_clearBelow_b118 (Eq_clearBelow_L17 n) v1 v2 v3 v4 M) else
  Eq_clearBelow_L48 (Eq_clearBelow_L17 n) FU v1 v2 v3 v4 (M 24 (ix ((v4 * 20) + v2))) v2 M) else none
def Eq_clearBelow (v1 : Int32) (v2 : Int32) (M : Mem) : Option Mem :=
  if ib ((v1 * 20) + v2) 480 = true then (Eq_clearBelow_L17 FU v1 v2 (M 24 (ix ((v1 * 20) + v2))) (v1 + 1) M) else none
def Eq_useUpForRank_b47 (k4 : Int32 → Int32 → Mem → Option (Int32 × Mem)) (v1 : Int32) (v2 : Int32) (M : Mem) : Option (Int32 × Mem) :=
  k4 v1 (v2 + 1) M
def Eq_useUpForRank_L4  : Nat → Int32 → Int32 → Mem → Option (Int32 × Mem)
  | 0, _, _, _ => none
  | n + 1, v1, v2, M => if (M 23 3) ≤ v2 then (some (v1, M)) else
  if (M 23 2) ≤ v1 then (some (v1, M)) else
  bd (Eq_findPivot v1 v2 M) fun r3 M1 =>
  if r3 < 0 then (Eq_useUpForRank_b47 (Eq_useUpForRank_L4 n) v1 v2 M1) else
  bv (Eq_exchangeRows v1 r3 v2 M1) fun M4 =>
  bv (Eq_clearBelow v1 v2 M4) fun M6 =>
  Eq_useUpForRank_b47 (Eq_useUpForRank_L4 n) (v1 + 1) v2 M6
def Eq_useUpForRank  (M : Mem) : Option (Int32 × Mem) :=
  Eq_useUpForRank_L4 FU 0 0 M
def Pa_makeEmpty (v0 : Nat) (M : Mem) : Option Mem :=
  if isP v0 = true then (bv (Ja_fill (v0 + 1) 0 M) fun M1 =>
  some (wr (wr (wr M1 v0 1 7) v0 2 0) v0 3 0)) else none
def Pa_takeFrom (v0 : Nat) (v1 : Nat) (M : Mem) : Option Mem :=
  if isP v0 = true then (if isP v1 = true then (some (wr (wr (wr (wra M (v0 + 1) (va_cpy (M (v1 + 1)) (M (v0 + 1)) 0 0 32)) v0 1 ((wra M (v0 + 1) (va_cpy (M (v1 + 1)) (M (v0 + 1)) 0 0 32)) v1 1)) v0 2 ((wr (wra M (v0 + 1) (va_cpy (M (v1 + 1)) (M (v0 + 1)) 0 0 32)) v0 1 ((wra M (v0 + 1) (va_cpy (M (v1 + 1)) (M (v0 + 1)) 0 0 32)) v1 1)) v1 2)) v0 3 ((wr (wr (wra M (v0 + 1) (va_cpy (M (v1 + 1)) (M (v0 + 1)) 0 0 32)) v0 1 ((wra M (v0 + 1) (va_cpy (M (v1 + 1)) (M (v0 + 1)) 0 0 32)) v1 1)) v0 2 ((wr (wra M (v0 + 1) (va_cpy (M (v1 + 1)) (M (v0 + 1)) 0 0 32)) v0 1 ((wra M (v0 + 1) (va_cpy (M (v1 + 1)) (M (v0 + 1)) 0 0 32)) v1 1)) v1 2)) v1 3))) else none) else none
def Pa_shape (v0 : Nat) (M : Mem) : Option (Int32 × Mem) :=
  if isP v0 = true then (some (((10 * (M v0 2)) + (M v0 3)), M)) else none
def Pa_linesOf (v0 : Nat) (v1 : Int32) (M : Mem) : Option (Int32 × Mem) :=
  if isP v0 = true then (if v1 = 0 then (some ((M v0 2), M)) else
  some ((M v0 3), M)) else none
def Pf_isSide (v0 : Int32) (M : Mem) : Option (Int32 × Mem) :=
  if v0 = 0 then (some (1, M)) else
  if v0 = 1 then (some (1, M)) else
  some (0, M)
def Pa_hasLine (v0 : Nat) (v1 : Int32) (v2 : Int32) (M : Mem) : Option (Int32 × Mem) :=
  if isP v0 = true then (bd (Pf_isSide v1 M) fun r3 M1 =>
  if r3 = 0 then (some (0, M1)) else
  if v2 < 0 then (some (0, M1)) else
  bd (Pa_linesOf v0 v1 M1) fun r6 M4 =>
  if r6 ≤ v2 then (some (0, M4)) else
  some (1, M4)) else none
def Pa_putValue (v0 : Nat) (v1 : Int32) (v2 : Int32) (v3 : Int32) (v4 : Int32) (M : Mem) : Option Mem :=
  if isP v0 = true then (bd (Pa_hasPlace v0 v1 v2 v3 M) fun r3 M1 =>
  if r3 = 0 then (some M1) else
  bd (Pa_spot v1 v2 v3 M1) fun r6 M4 =>
  if ib r6 32 = true then (some (wr M4 (v0 + 1) (ix r6) v4)) else none) else none
def Pa_growTo (v0 : Nat) (v1 : Int32) (v2 : Int32) (M : Mem) : Option Mem :=
  if isP v0 = true then (some (wr (wr M v0 2 (if v1 > 4 then 4 else v1)) v0 3 (if v2 > 4 then 4 else v2))) else none
def Pa_addLine (v0 : Nat) (v1 : Int32) (M : Mem) : Option Mem :=
  if isP v0 = true then (if v1 = 0 then (bv (Pa_growTo v0 ((M v0 2) + 1) (M v0 3) M) fun M3 =>
  some M3) else
  bv (Pa_growTo v0 (M v0 2) ((M v0 3) + 1) M) fun M1 =>
  some M1) else none
def Pa_shrinkTo_b53 (k2 : Nat → Int32 → Int32 → Int32 → Mem → Option Mem) (k10 : Nat → Int32 → Int32 → Int32 → Int32 → Mem → Option Mem) (k22 : Nat → Int32 → Int32 → Int32 → Int32 → Int32 → Mem → Option Mem) (v0 : Nat) (v1 : Int32) (v2 : Int32) (v3 : Int32) (v4 : Int32) (v5 : Int32) (M : Mem) : Option Mem :=
  k22 v0 v1 v2 v3 v4 (v5 + 1) M
def Pa_shrinkTo_b43 (k2 : Nat → Int32 → Int32 → Int32 → Mem → Option Mem) (k10 : Nat → Int32 → Int32 → Int32 → Int32 → Mem → Option Mem) (k22 : Nat → Int32 → Int32 → Int32 → Int32 → Int32 → Mem → Option Mem) (v0 : Nat) (v1 : Int32) (v2 : Int32) (v3 : Int32) (v4 : Int32) (v5 : Int32) (M : Mem) : Option Mem :=
  bv (Pa_putValue v0 v3 v4 v5 0 M) fun M1 =>
  Pa_shrinkTo_b53 k2 k10 k22 v0 v1 v2 v3 v4 v5 M1
def Pa_shrinkTo_L22 (k2 : Nat → Int32 → Int32 → Int32 → Mem → Option Mem) (k10 : Nat → Int32 → Int32 → Int32 → Int32 → Mem → Option Mem) : Nat → Nat → Int32 → Int32 → Int32 → Int32 → Int32 → Mem → Option Mem
  | 0, _, _, _, _, _, _, _ => none
  | n + 1, v0, v1, v2, v3, v4, v5, M => if (M v0 3) ≤ v5 then (k10 v0 v1 v2 v3 (v4 + 1) M) else
  if v1 ≤ v4 then (Pa_shrinkTo_b43 k2 k10 (Pa_shrinkTo_L22 k2 k10 n) v0 v1 v2 v3 v4 v5 M) else
  if v5 < v2 then (Pa_shrinkTo_b53 k2 k10 (Pa_shrinkTo_L22 k2 k10 n) v0 v1 v2 v3 v4 v5 M) else
  Pa_shrinkTo_b43 k2 k10 (Pa_shrinkTo_L22 k2 k10 n) v0 v1 v2 v3 v4 v5 M
def Pa_shrinkTo_L10 (k2 : Nat → Int32 → Int32 → Int32 → Mem → Option Mem) : Nat → Nat → Int32 → Int32 → Int32 → Int32 → Mem → Option Mem
  | 0, _, _, _, _, _, _ => none
  | n + 1, v0, v1, v2, v3, v4, M => if (M v0 2) ≤ v4 then (k2 v0 v1 v2 (v3 + 1) M) else
  Pa_shrinkTo_L22 k2 (Pa_shrinkTo_L10 k2 n) FU v0 v1 v2 v3 v4 0 M
def Pa_shrinkTo_L2  : Nat → Nat → Int32 → Int32 → Int32 → Mem → Option Mem
  | 0, _, _, _, _, _ => none
  | n + 1, v0, v1, v2, v3, M => if 2 ≤ v3 then (some (wr (wr M v0 2 v1) v0 3 v2)) else
  Pa_shrinkTo_L10 (Pa_shrinkTo_L2 n) FU v0 v1 v2 v3 0 M
def Pa_shrinkTo (v0 : Nat) (v1 : Int32) (v2 : Int32) (M : Mem) : Option Mem :=
  if isP v0 = true then (Pa_shrinkTo_L2 FU v0 v1 v2 0 M) else none
def Pa_onLine (v0 : Nat) (v1 : Int32) (v2 : Int32) (v3 : Int32) (v4 : Int32) (M : Mem) : Option (Int32 × Mem) :=
  if isP v0 = true then (if v2 = 0 then (bd (Pa_valueAt v0 v1 v3 v4 M) fun r6 M4 =>
  some (r6, M4)) else
  bd (Pa_valueAt v0 v1 v4 v3 M) fun r3 M1 =>
  some (r3, M1)) else none
def Pa_putOnLine (v0 : Nat) (v1 : Int32) (v2 : Int32) (v3 : Int32) (v4 : Int32) (v5 : Int32) (M : Mem) : Option Mem :=
  if isP v0 = true then (if v2 = 0 then (bv (Pa_putValue v0 v1 v3 v4 v5 M) fun M3 =>
  some M3) else
  bv (Pa_putValue v0 v1 v4 v3 v5 M) fun M1 =>
  some M1) else none
def Pa_mixLines_L12 (k3 : Nat → Int32 → Int32 → Int32 → Int32 → Int32 → Mem → Option Mem) : Nat → Nat → Int32 → Int32 → Int32 → Int32 → Int32 → Int32 → Mem → Option Mem
  | 0, _, _, _, _, _, _, _, _ => none
  | n + 1, v0, v1, v2, v3, v4, v5, v6, M => bd (Pa_linesOf v0 (1 - v1) M) fun r3 M1 =>
  if r3 ≤ v6 then (k3 v0 v1 v2 v3 v4 (v5 + 1) M1) else
  bd (Pa_onLine v0 v5 v1 v2 v6 M1) fun r6 M4 =>
  bd (Pa_onLine v0 v5 v1 v3 v6 M4) fun r9 M7 =>
  bd (Pf_reduce (r6 + (v4 * r9)) (M7 v0 1) M7) fun r12 M10 =>
  bv (Pa_putOnLine v0 v5 v1 v2 v6 r12 M10) fun M13 =>
  Pa_mixLines_L12 k3 n v0 v1 v2 v3 v4 v5 (v6 + 1) M13
def Pa_mixLines_L3  : Nat → Nat → Int32 → Int32 → Int32 → Int32 → Int32 → Mem → Option Mem
  | 0, _, _, _, _, _, _, _ => none
  | n + 1, v0, v1, v2, v3, v4, v5, M => if 2 ≤ v5 then (some M) else
  Pa_mixLines_L12 (Pa_mixLines_L3 n) FU v0 v1 v2 v3 v4 v5 0 M
def Pa_mixLines (v0 : Nat) (v1 : Int32) (v2 : Int32) (v3 : Int32) (v4 : Int32) (M : Mem) : Option Mem :=
  if isP v0 = true then (Pa_mixLines_L3 FU v0 v1 v2 v3 v4 0 M) else none
def Pa_multiplyLine_L12 (k3 : Nat → Int32 → Int32 → Int32 → Int32 → Mem → Option Mem) : Nat → Nat → Int32 → Int32 → Int32 → Int32 → Int32 → Mem → Option Mem
  | 0, _, _, _, _, _, _, _ => none
  | n + 1, v0, v1, v2, v3, v4, v5, M => bd (Pa_linesOf v0 (1 - v1) M) fun r3 M1 =>
  if r3 ≤ v5 then (k3 v0 v1 v2 v3 (v4 + 1) M1) else
  bd (Pa_onLine v0 v4 v1 v2 v5 M1) fun r6 M4 =>
  bd (Pf_reduce (v3 * r6) (M4 v0 1) M4) fun r9 M7 =>
  bv (Pa_putOnLine v0 v4 v1 v2 v5 r9 M7) fun M10 =>
  Pa_multiplyLine_L12 k3 n v0 v1 v2 v3 v4 (v5 + 1) M10
def Pa_multiplyLine_L3  : Nat → Nat → Int32 → Int32 → Int32 → Int32 → Mem → Option Mem
  | 0, _, _, _, _, _, _ => none
  | n + 1, v0, v1, v2, v3, v4, M => if 2 ≤ v4 then (some M) else
  Pa_multiplyLine_L12 (Pa_multiplyLine_L3 n) FU v0 v1 v2 v3 v4 0 M
def Pa_multiplyLine (v0 : Nat) (v1 : Int32) (v2 : Int32) (v3 : Int32) (M : Mem) : Option Mem :=
  if isP v0 = true then (Pa_multiplyLine_L3 FU v0 v1 v2 v3 0 M) else none
def Pa_exchangeLines_L12 (k3 : Nat → Int32 → Int32 → Int32 → Int32 → Mem → Option Mem) : Nat → Nat → Int32 → Int32 → Int32 → Int32 → Int32 → Mem → Option Mem
  | 0, _, _, _, _, _, _, _ => none
  | n + 1, v0, v1, v2, v3, v4, v5, M => bd (Pa_linesOf v0 (1 - v1) M) fun r3 M1 =>
  if r3 ≤ v5 then (k3 v0 v1 v2 v3 (v4 + 1) M1) else
  bd (Pa_onLine v0 v4 v1 v2 v5 M1) fun r6 M4 =>
  bd (Pa_onLine v0 v4 v1 v3 v5 M4) fun r9 M7 =>
  bv (Pa_putOnLine v0 v4 v1 v2 v5 r9 M7) fun M10 =>
  bv (Pa_putOnLine v0 v4 v1 v3 v5 r6 M10) fun M12 =>
  Pa_exchangeLines_L12 k3 n v0 v1 v2 v3 v4 (v5 + 1) M12
def Pa_exchangeLines_L3  : Nat → Nat → Int32 → Int32 → Int32 → Int32 → Mem → Option Mem
  | 0, _, _, _, _, _, _ => none
  | n + 1, v0, v1, v2, v3, v4, M => if 2 ≤ v4 then (some M) else
  Pa_exchangeLines_L12 (Pa_exchangeLines_L3 n) FU v0 v1 v2 v3 v4 0 M
def Pa_exchangeLines (v0 : Nat) (v1 : Int32) (v2 : Int32) (v3 : Int32) (M : Mem) : Option Mem :=
  if isP v0 = true then (Pa_exchangeLines_L3 FU v0 v1 v2 v3 0 M) else none
def Pa_exchangeSpots (v0 : Nat) (v1 : Int32) (v2 : Int32) (M : Mem) : Option Mem :=
  if isP v0 = true then (if ib v1 32 = true then (if ib v2 32 = true then (if ib v1 32 = true then (if ib v2 32 = true then (some (wr (wr M (v0 + 1) (ix v1) (M (v0 + 1) (ix v2))) (v0 + 1) (ix v2) (M (v0 + 1) (ix v1)))) else none) else none) else none) else none) else none
def Pa_exchangeTables_L2  : Nat → Nat → Int32 → Mem → Option Mem
  | 0, _, _, _ => none
  | n + 1, v0, v1, M => if 16 ≤ v1 then (some M) else
  bv (Pa_exchangeSpots v0 v1 (16 + v1) M) fun M1 =>
  Pa_exchangeTables_L2 n v0 (v1 + 1) M1
def Pa_exchangeTables (v0 : Nat) (M : Mem) : Option Mem :=
  if isP v0 = true then (Pa_exchangeTables_L2 FU v0 0 M) else none
def Pa_flip_L16 (k2 : Nat → Int32 → Mem → Option Mem) (k9 : Nat → Int32 → Int32 → Mem → Option Mem) : Nat → Nat → Int32 → Int32 → Int32 → Mem → Option Mem
  | 0, _, _, _, _, _ => none
  | n + 1, v0, v1, v2, v3, M => if v2 ≤ v3 then (k9 v0 v1 (v2 + 1) M) else
  bd (Pa_spot v1 v2 v3 M) fun r3 M1 =>
  bd (Pa_spot v1 v3 v2 M1) fun r6 M4 =>
  bv (Pa_exchangeSpots v0 r3 r6 M4) fun M7 =>
  Pa_flip_L16 k2 k9 n v0 v1 v2 (v3 + 1) M7
def Pa_flip_L9 (k2 : Nat → Int32 → Mem → Option Mem) : Nat → Nat → Int32 → Int32 → Mem → Option Mem
  | 0, _, _, _, _ => none
  | n + 1, v0, v1, v2, M => if 4 ≤ v2 then (k2 v0 (v1 + 1) M) else
  Pa_flip_L16 k2 (Pa_flip_L9 k2 n) FU v0 v1 v2 0 M
def Pa_flip_L2  : Nat → Nat → Int32 → Mem → Option Mem
  | 0, _, _, _ => none
  | n + 1, v0, v1, M => if 2 ≤ v1 then (some (wr (wr M v0 2 (M v0 3)) v0 3 (M v0 2))) else
  Pa_flip_L9 (Pa_flip_L2 n) FU v0 v1 0 M
def Pa_flip (v0 : Nat) (M : Mem) : Option Mem :=
  if isP v0 = true then (Pa_flip_L2 FU v0 0 M) else none
def Pa_shift_L2  : Nat → Nat → Int32 → Mem → Option Mem
  | 0, _, _, _ => none
  | n + 1, v0, v1, M => if 16 ≤ v1 then (some M) else
  if ib v1 32 = true then (if ib (16 + v1) 32 = true then (bd (Pf_reduce ((M (v0 + 1) (ix v1)) - (M (v0 + 1) (ix (16 + v1)))) (M v0 1) M) fun r5 M3 =>
  if ib v1 32 = true then (Pa_shift_L2 n v0 (v1 + 1) (wr M3 (v0 + 1) (ix v1) r5)) else none) else none) else none
def Pa_shift (v0 : Nat) (M : Mem) : Option Mem :=
  if isP v0 = true then (Pa_shift_L2 FU v0 0 M) else none
def Pa_placesNotZero_b22 (k4 : Nat → Int32 → Int32 → Mem → Option (Int32 × Mem)) (v0 : Nat) (v1 : Int32) (v2 : Int32) (M : Mem) : Option (Int32 × Mem) :=
  k4 v0 v1 (v2 + 1) M
def Pa_placesNotZero_L4  : Nat → Nat → Int32 → Int32 → Mem → Option (Int32 × Mem)
  | 0, _, _, _, _ => none
  | n + 1, v0, v1, v2, M => if 32 ≤ v2 then (some (v1, M)) else
  if ib v2 32 = true then (if (M (v0 + 1) (ix v2)) = 0 then (Pa_placesNotZero_b22 (Pa_placesNotZero_L4 n) v0 v1 v2 M) else
  Pa_placesNotZero_b22 (Pa_placesNotZero_L4 n) v0 (v1 + 1) v2 M) else none
def Pa_placesNotZero (v0 : Nat) (M : Mem) : Option (Int32 × Mem) :=
  if isP v0 = true then (Pa_placesNotZero_L4 FU v0 0 0 M) else none
def Pa_sumOf_L4  : Nat → Nat → Int32 → Int32 → Int32 → Mem → Option (Int32 × Mem)
  | 0, _, _, _, _, _ => none
  | n + 1, v0, v1, v2, v3, M => if 16 ≤ v3 then (some (v2, M)) else
  if ib ((v1 * 16) + v3) 32 = true then (Pa_sumOf_L4 n v0 v1 (v2 + (M (v0 + 1) (ix ((v1 * 16) + v3)))) (v3 + 1) M) else none
def Pa_sumOf (v0 : Nat) (v1 : Int32) (M : Mem) : Option (Int32 × Mem) :=
  if isP v0 = true then (Pa_sumOf_L4 FU v0 v1 0 0 M) else none
def Se_isNothing (v0 : Nat) (M : Mem) : Option (Int32 × Mem) :=
  if isS v0 = true then (if (M v0 2) = (-1) then (some (1, M)) else
  some (0, M)) else none
def Se_makeNew (v0 : Nat) (v1 : Int32) (v2 : Int32) (M : Mem) : Option Mem :=
  if isS v0 = true then (bv (Ja_fill (v0 + 1) 0 M) fun M1 =>
  some (wr (wr M1 v0 1 v1) v0 2 (if v2 > 40 then 40 else v2))) else none
def Se_findAt (v0 : Nat) (v1 : Int32) (M : Mem) : Option (Int32 × Mem) :=
  if isS v0 = true then (bd (Se_isNothing v0 M) fun r3 M1 =>
  if r3 = 0 then (if v1 < 0 then (some (2, M1)) else
  if v1 < (M1 v0 2) then (some (0, M1)) else
  some (2, M1)) else
  some (1, M1)) else none
def Se_findFour (v0 : Nat) (v1 : Int32) (v2 : Int32) (M : Mem) : Option (Int32 × Mem) :=
  if isS v0 = true then (bd (Se_isNothing v0 M) fun r3 M1 =>
  if r3 = 0 then (if v1 = (M1 v0 1) then (if v2 < 0 then (some (2, M1)) else
  if v2 ≤ ((M1 v0 2) - 4) then (some (0, M1)) else
  some (2, M1)) else
  some (3, M1)) else
  some (1, M1)) else none
def Se_cellAt (v0 : Nat) (v1 : Int32) (M : Mem) : Option (Int32 × Mem) :=
  if isS v0 = true then (bd (Se_findAt v0 v1 M) fun r3 M1 =>
  if r3 = 0 then (if ib v1 40 = true then (some ((M1 (v0 + 1) (ix v1)), M1)) else none) else
  some (0, M1)) else none
def Se_putCell_b39  (s0 : Nat) (s1 : Int32) (s2 : Int32) (M : Mem) : Option Mem :=
  if ib s1 40 = true then (some (wr M s0 (ix s1) s2)) else none
def Se_putCell (v0 : Nat) (v1 : Int32) (v2 : Int32) (M : Mem) : Option Mem :=
  if isS v0 = true then (bd (Se_findAt v0 v1 M) fun r3 M1 =>
  if r3 = 0 then (if (M1 v0 1) = 0 then (Se_putCell_b39 (v0 + 1) v1 ((v2).toInt8.toInt32) M1) else
  if (M1 v0 1) = 1 then (Se_putCell_b39 (v0 + 1) v1 ((v2).toInt16.toInt32) M1) else
  Se_putCell_b39 (v0 + 1) v1 v2 M1) else
  some M1) else none
def Tr_addByte (v1 : Int32) (M : Mem) : Option (Int32 × Mem) :=
  if (M 1 2) < 160 then (if ib (M 1 2) 160 = true then (some (1, wr (wr M 2 (ix (M 1 2)) (((v1).toInt8.toInt32).toInt8.toInt32)) 1 2 (((wr M 2 (ix (M 1 2)) (((v1).toInt8.toInt32).toInt8.toInt32)) 1 2) + 1))) else none) else
  some (0, M)
def Tr_endOfRun_L5  : Nat → Int32 → Int32 → Int32 → Mem → Option (Int32 × Mem)
  | 0, _, _, _, _ => none
  | n + 1, v1, v2, v3, M => if (M 1 2) ≤ v3 then (some (v3, M)) else
  if ib v3 160 = true then (if (M 2 (ix v3)) < v1 then (some (v3, M)) else
  if ib v3 160 = true then (if v2 < (M 2 (ix v3)) then (some (v3, M)) else
  Tr_endOfRun_L5 n v1 v2 (v3 + 1) M) else none) else none
def Tr_endOfRun (v1 : Int32) (v2 : Int32) (M : Mem) : Option (Int32 × Mem) :=
  Tr_endOfRun_L5 FU v1 v2 (M 1 3) M
def Tr_takeNumber_L10  : Nat → Int32 → Mem → Option (Int32 × Mem)
  | 0, _, _ => none
  | n + 1, v1, M => if (M 1 3) ≤ v1 then (some (1, M)) else
  if ib v1 160 = true then (Tr_takeNumber_L10 n (v1 + 1) (wr M 1 6 (((10 * (M 1 6)) + (M 2 (ix v1))) - 48))) else none
def Tr_takeNumber  (M : Mem) : Option (Int32 × Mem) :=
  Tr_takeNumber_L10 FU ((wr M 1 6 0) 1 5) (wr M 1 6 0)
def Tr_stopAt (v1 : Int32) (v2 : Int32) (M : Mem) : Option (Int32 × Mem) :=
  some (0, wr (wr M 1 10 v1) 1 11 v2)
def Tr_readToken_b138  (v1 : Int32) (M : Mem) : Option (Int32 × Mem) :=
  if v1 = 59 then (some (1, wr (wr M 1 4 3) 1 3 (((wr M 1 4 3) 1 3) + 1))) else
  bd (Tr_stopAt 1 (M 1 5) M) fun r3 M1 =>
  if z01 r3 = true then some (r3, M1) else none
def Tr_readToken_b79  (v1 : Int32) (M : Mem) : Option (Int32 × Mem) :=
  if v1 < 48 then (Tr_readToken_b138 v1 M) else
  if 57 < v1 then (Tr_readToken_b138 v1 M) else
  bd (Tr_endOfRun 48 57 (wr M 1 4 2)) fun r3 M1 =>
  if 2 < (((wr M1 1 3 r3) 1 3) - ((wr M1 1 3 r3) 1 5)) then (bd (Tr_stopAt 1 ((wr M1 1 3 r3) 1 5) (wr M1 1 3 r3)) fun r6 M4 =>
  if z01 r6 = true then some (r6, M4) else none) else
  bd (Tr_takeNumber (wr M1 1 3 r3)) fun r10 M8 =>
  if z01 r10 = true then some (r10, M8) else none
def Tr_readToken  (M : Mem) : Option (Int32 × Mem) :=
  bd (Tr_endOfRun 32 32 M) fun r3 M1 =>
  if ((wr (wr M1 1 3 r3) 1 5 ((wr M1 1 3 r3) 1 3)) 1 3) < ((wr (wr M1 1 3 r3) 1 5 ((wr M1 1 3 r3) 1 3)) 1 2) then (if ib ((wr (wr M1 1 3 r3) 1 5 ((wr M1 1 3 r3) 1 3)) 1 3) 160 = true then (if ((wr (wr M1 1 3 r3) 1 5 ((wr M1 1 3 r3) 1 3)) 2 (ix ((wr (wr M1 1 3 r3) 1 5 ((wr M1 1 3 r3) 1 3)) 1 3))) < 97 then (Tr_readToken_b79 ((wr (wr M1 1 3 r3) 1 5 ((wr M1 1 3 r3) 1 3)) 2 (ix ((wr (wr M1 1 3 r3) 1 5 ((wr M1 1 3 r3) 1 3)) 1 3))) (wr (wr M1 1 3 r3) 1 5 ((wr M1 1 3 r3) 1 3))) else
  if 122 < ((wr (wr M1 1 3 r3) 1 5 ((wr M1 1 3 r3) 1 3)) 2 (ix ((wr (wr M1 1 3 r3) 1 5 ((wr M1 1 3 r3) 1 3)) 1 3))) then (Tr_readToken_b79 ((wr (wr M1 1 3 r3) 1 5 ((wr M1 1 3 r3) 1 3)) 2 (ix ((wr (wr M1 1 3 r3) 1 5 ((wr M1 1 3 r3) 1 3)) 1 3))) (wr (wr M1 1 3 r3) 1 5 ((wr M1 1 3 r3) 1 3))) else
  bd (Tr_endOfRun 97 122 (wr (wr (wr M1 1 3 r3) 1 5 ((wr M1 1 3 r3) 1 3)) 1 4 1)) fun r7 M5 =>
  some (1, wr M5 1 3 r7)) else none) else
  some (1, wr (wr (wr M1 1 3 r3) 1 5 ((wr M1 1 3 r3) 1 3)) 1 4 0)
def Tr_nameIs_L20  : Nat → Nat → Int32 → Mem → Option (Int32 × Mem)
  | 0, _, _, _ => none
  | n + 1, v1, v2, M => if (nI (slen v1)) ≤ v2 then (some (1, M)) else
  if ib ((M 1 5) + v2) 160 = true then (if ib v2 (slen v1) = true then (if (M 2 (ix ((M 1 5) + v2))) = (sch v1 (ix v2)) then (Tr_nameIs_L20 n v1 (v2 + 1) M) else
  some (0, M)) else none) else none
def Tr_nameIs (v1 : Nat) (M : Mem) : Option (Int32 × Mem) :=
  if isT v1 = true then (if ((M 1 3) - (M 1 5)) = (nI (slen v1)) then (Tr_nameIs_L20 FU v1 0 M) else
  some (0, M)) else none
def Tr_lineOfName  (M : Mem) : Option (Int32 × Mem) :=
  bd (Tr_nameIs 100 M) fun r3 M1 =>
  if r3 = 0 then (bd (Tr_nameIs 101 M1) fun r6 M4 =>
  if r6 = 0 then (bd (Tr_nameIs 102 M4) fun r9 M7 =>
  if r9 = 0 then (bd (Tr_nameIs 103 M7) fun r12 M10 =>
  if r12 = 0 then (bd (Tr_nameIs 104 M10) fun r15 M13 =>
  if r15 = 0 then (some (0, M13)) else
  some (5, M13)) else
  some (4, M10)) else
  some (3, M7)) else
  some (2, M4)) else
  some (1, M1)
def Tr_readNumber_b43   (M : Mem) : Option (Int32 × Mem) :=
  bd (Tr_stopAt 3 (M 1 5) M) fun r3 M1 =>
  if r3 = 0 then (some (0, M1)) else
  some (1, M1)
def Tr_readNumber (v1 : Int32) (v2 : Int32) (M : Mem) : Option (Int32 × Mem) :=
  bd (Tr_readToken M) fun r3 M1 =>
  if r3 = 0 then (some (0, M1)) else
  if (M1 1 4) = 2 then (if (M1 1 6) < v1 then (Tr_readNumber_b43 M1) else
  if (M1 1 6) ≤ v2 then (some (1, M1)) else
  Tr_readNumber_b43 M1) else
  bd (Tr_stopAt 2 (M1 1 5) M1) fun r6 M4 =>
  if z01 r6 = true then some (r6, M4) else none
def Tr_readPrime_b51   (M : Mem) : Option (Int32 × Mem) :=
  bd (Tr_stopAt 3 (M 1 5) M) fun r3 M1 =>
  if z01 r3 = true then some (r3, M1) else none
def Tr_readPrime  (M : Mem) : Option (Int32 × Mem) :=
  if (M 1 9) = 0 then (bd (Tr_readNumber 2 7 (wr M 1 9 1)) fun r3 M1 =>
  if r3 = 0 then (some (0, M1)) else
  if (M1 1 6) = 4 then (Tr_readPrime_b51 M1) else
  if (M1 1 6) = 6 then (Tr_readPrime_b51 M1) else
  some (1, wr M1 3 1 (M1 1 6))) else
  bd (Tr_stopAt 4 (M 1 5) M) fun r6 M4 =>
  if z01 r6 = true then some (r6, M4) else none
def Tr_putBlock_b167 (k31 : Int32 → Int32 → Int32 → Int32 → Int32 → Mem → Option Mem) (v1 : Int32) (v2 : Int32) (v5 : Int32) (v6 : Int32) (v7 : Int32) (M : Mem) : Option Mem :=
  k31 v1 v2 v5 v6 (v7 + 1) M
def Tr_putBlock_L31  : Nat → Int32 → Int32 → Int32 → Int32 → Int32 → Mem → Option Mem
  | 0, _, _, _, _, _, _ => none
  | n + 1, v1, v2, v5, v6, v7, M => if (M 1 6) ≤ v7 then (some M) else
  if v1 = 5 then (bv (Pa_putValue 3 0 (v5 + v7) (v6 + v7) v2 M) fun M9 =>
  bv (Pa_putValue 3 0 (v5 + v7) ((v6 + v7) + 1) 1 M9) fun M11 =>
  bv (Pa_putValue 3 1 (v5 + v7) (v6 + v7) 1 M11) fun M13 =>
  Tr_putBlock_b167 (Tr_putBlock_L31 n) v1 v2 v5 v6 v7 M13) else
  if v1 = 3 then (bv (Pa_putValue 3 0 (v5 + v7) (v6 + v7) 1 M) fun M5 =>
  bv (Pa_putValue 3 1 ((v5 + v7) + 1) (v6 + v7) 1 M5) fun M7 =>
  Tr_putBlock_b167 (Tr_putBlock_L31 n) v1 v2 v5 v6 v7 M7) else
  bv (Pa_putValue 3 0 (v5 + v7) (v6 + v7) 1 M) fun M1 =>
  bv (Pa_putValue 3 1 (v5 + v7) ((v6 + v7) + 1) 1 M1) fun M3 =>
  Tr_putBlock_b167 (Tr_putBlock_L31 n) v1 v2 v5 v6 v7 M3
def Tr_putBlock (v1 : Int32) (v2 : Int32) (v3 : Int32) (v4 : Int32) (M : Mem) : Option Mem :=
  bv (Pa_growTo 3 v3 v4 M) fun M1 =>
  Tr_putBlock_L31 FU v1 v2 (M 3 2) (M 3 3) 0 M1
def Tr_readBlock_b125   (M : Mem) : Option (Int32 × Mem) :=
  bd (Tr_stopAt 5 (M 1 5) M) fun r3 M1 =>
  if z01 r3 = true then some (r3, M1) else none
def Tr_readBlock_b110  (v1 : Int32) (v2 : Int32) (v4 : Int32) (s0 : Int32) (s1 : Int32) (M : Mem) : Option (Int32 × Mem) :=
  if 4 < v4 then (Tr_readBlock_b125 M) else
  if (s0 + s1) ≤ 4 then (bv (Tr_putBlock v1 v2 v4 (s0 + s1) M) fun M1 =>
  some (1, M1)) else
  Tr_readBlock_b125 M
def Tr_readBlock_b85  (v1 : Int32) (v2 : Int32) (s0 : Int32) (s1 : Int32) (M : Mem) : Option (Int32 × Mem) :=
  if v1 = 2 then (Tr_readBlock_b110 v1 v2 (s0 + s1) ((M 3 3) + (M 1 6)) 1 M) else
  Tr_readBlock_b110 v1 v2 (s0 + s1) ((M 3 3) + (M 1 6)) 0 M
def Tr_readBlock_b51  (v1 : Int32) (v2 : Int32) (s0 : Int32) (M : Mem) : Option (Int32 × Mem) :=
  bd (Tr_readNumber s0 4 M) fun r3 M1 =>
  if r3 = 0 then (some (0, M1)) else
  if v1 = 3 then (Tr_readBlock_b85 v1 v2 ((M1 3 2) + (M1 1 6)) 1 M1) else
  Tr_readBlock_b85 v1 v2 ((M1 3 2) + (M1 1 6)) 0 M1
def Tr_readBlock_b46  (v1 : Int32) (v2 : Int32) (M : Mem) : Option (Int32 × Mem) :=
  Tr_readBlock_b51 v1 v2 0 M
def Tr_readBlock_b36  (v1 : Int32) (v2 : Int32) (M : Mem) : Option (Int32 × Mem) :=
  if v1 = 2 then (Tr_readBlock_b46 v1 v2 M) else
  if v1 = 3 then (Tr_readBlock_b46 v1 v2 M) else
  Tr_readBlock_b51 v1 v2 1 M
def Tr_readBlock (v1 : Int32) (M : Mem) : Option (Int32 × Mem) :=
  if v1 = 5 then (bd (Tr_readNumber 0 6 M) fun r3 M1 =>
  if r3 = 0 then (some (0, M1)) else
  Tr_readBlock_b36 v1 (M1 1 6) (wr M1 1 8 (if (M1 1 8) < (M1 1 6) then (M1 1 6) else (M1 1 8)))) else
  Tr_readBlock_b36 v1 0 M
def Tr_readLine_b48  (s0 : Int32) (M : Mem) : Option (Int32 × Mem) :=
  if s0 = 0 then (some (0, M)) else
  bd (Tr_readToken M) fun r3 M1 =>
  if r3 = 0 then (some (0, M1)) else
  if (M1 1 4) = 3 then (some (1, M1)) else
  bd (Tr_stopAt 2 (M1 1 5) M1) fun r6 M4 =>
  if r6 = 0 then (some (0, M4)) else
  some (1, M4)
def Tr_readLine_b16  (s0 : Int32) (M : Mem) : Option (Int32 × Mem) :=
  if s0 = 0 then (bd (Tr_stopAt 2 (M 1 5) M) fun r9 M7 =>
  if z01 r9 = true then some (r9, M7) else none) else
  if s0 = 1 then (bd (Tr_readPrime M) fun r6 M4 =>
  Tr_readLine_b48 r6 M4) else
  bd (Tr_readBlock s0 M) fun r3 M1 =>
  Tr_readLine_b48 r3 M1
def Tr_readLine  (M : Mem) : Option (Int32 × Mem) :=
  if (M 1 4) = 1 then (bd (Tr_lineOfName M) fun r3 M1 =>
  Tr_readLine_b16 r3 M1) else
  Tr_readLine_b16 0 M
def Tr_readText_b104   (M : Mem) : Option Mem :=
  if (M 1 10) = 0 then (if (M 1 8) < (M 3 1) then (some M) else
  bd (Tr_stopAt 6 (M 1 2) M) fun r3 M1 =>
  some M1) else
  some M
def Tr_readText_b94 (k41 : Int32 → Int32 → Mem → Option Mem) (v1 : Int32) (v2 : Int32) (s1 : Int32) (s2 : Int32) (M : Mem) : Option Mem :=
  k41 v1 (v2 + 1) (wr M 1 7 (s1 + s2))
def Tr_readText_b79 (k41 : Int32 → Int32 → Mem → Option Mem) (v2 : Int32) (s0 : Int32) (M : Mem) : Option Mem :=
  if s0 = 0 then (Tr_readText_b94 k41 s0 v2 (M 1 7) 0 M) else
  Tr_readText_b94 k41 s0 v2 (M 1 7) 1 M
def Tr_readText_b78 (k41 : Int32 → Int32 → Mem → Option Mem) (v2 : Int32) (M : Mem) : Option Mem :=
  Tr_readText_b79 k41 v2 0 M
def Tr_readText_L41  : Nat → Int32 → Int32 → Mem → Option Mem
  | 0, _, _, _ => none
  | n + 1, v1, v2, M => if (M 1 2) < v2 then (Tr_readText_b104 M) else
  if v1 = 0 then (Tr_readText_b104 M) else
  bd (Tr_readToken M) fun r3 M1 =>
  if r3 = 0 then (Tr_readText_b78 (Tr_readText_L41 n) v2 M1) else
  if (M1 1 4) = 0 then (Tr_readText_b78 (Tr_readText_L41 n) v2 M1) else
  bd (Tr_readLine M1) fun r6 M4 =>
  if r6 = 0 then (Tr_readText_b78 (Tr_readText_L41 n) v2 M4) else
  Tr_readText_b79 (Tr_readText_L41 n) v2 1 M4
def Tr_readText  (M : Mem) : Option Mem :=
  bv (Pa_makeEmpty 3 (wr (wr (wr (wr (wr M 1 3 0) 1 8 (-1)) 1 9 0) 1 10 0) 1 11 0)) fun M1 =>
  Tr_readText_L41 FU 1 0 (wr M1 1 7 0)
def Un_putChains_b106 (k28 : Nat → Int32 → Int32 → Int32 → Int32 → Mem → Option Mem) (v1 : Nat) (v2 : Int32) (v3 : Int32) (v4 : Int32) (v5 : Int32) (M : Mem) : Option Mem :=
  k28 v1 v2 v3 v4 (v5 + 1) M
def Un_putChains_b103 (k28 : Nat → Int32 → Int32 → Int32 → Int32 → Mem → Option Mem) (v1 : Nat) (v2 : Int32) (v3 : Int32) (v4 : Int32) (v5 : Int32) (s1 : Nat) (s2 : Int32) (s3 : Int32) (s4 : Int32) (s5 : Int32) (M : Mem) : Option Mem :=
  bv (Eq_putBlock s1 s2 s3 s4 s5 M) fun M1 =>
  Un_putChains_b106 k28 v1 v2 v3 v4 v5 M1
def Un_putChains_b93 (k28 : Nat → Int32 → Int32 → Int32 → Int32 → Mem → Option Mem) (v1 : Nat) (v2 : Int32) (v3 : Int32) (v4 : Int32) (v5 : Int32) (s1 : Nat) (s2 : Int32) (s3 : Int32) (s4 : Int32) (M : Mem) : Option Mem :=
  if v4 = 0 then (Un_putChains_b103 k28 v1 v2 v3 v4 v5 s1 s2 s3 s4 (-1) M) else
  Un_putChains_b103 k28 v1 v2 v3 v4 v5 s1 s2 s3 s4 0 M
def Un_putChains_b64 (k28 : Nat → Int32 → Int32 → Int32 → Int32 → Mem → Option Mem) (v1 : Nat) (v2 : Int32) (v3 : Int32) (v4 : Int32) (v5 : Int32) (s1 : Nat) (s2 : Int32) (s3 : Int32) (s4 : Int32) (s5 : Int32) (M : Mem) : Option Mem :=
  bv (Eq_putBlock s1 s2 s3 s4 s5 M) fun M1 =>
  if v5 ≤ 0 then (Un_putChains_b106 k28 v1 v2 v3 v4 v5 M1) else
  if v4 = 0 then (Un_putChains_b93 k28 v1 v2 v3 v4 v5 v1 v5 (v5 - 1) 0 M1) else
  Un_putChains_b93 k28 v1 v2 v3 v4 v5 v1 v5 (v5 - 1) (-1) M1
def Un_putChains_b53 (k28 : Nat → Int32 → Int32 → Int32 → Int32 → Mem → Option Mem) (v1 : Nat) (v2 : Int32) (v3 : Int32) (v4 : Int32) (v5 : Int32) (s1 : Nat) (s2 : Int32) (s3 : Int32) (s4 : Int32) (M : Mem) : Option Mem :=
  if v4 = 0 then (Un_putChains_b64 k28 v1 v2 v3 v4 v5 s1 s2 s3 s4 (-v2) M) else
  Un_putChains_b64 k28 v1 v2 v3 v4 v5 s1 s2 s3 s4 1 M
def Un_putChains_L28  : Nat → Nat → Int32 → Int32 → Int32 → Int32 → Mem → Option Mem
  | 0, _, _, _, _, _, _ => none
  | n + 1, v1, v2, v3, v4, v5, M => if v3 ≤ v5 then (some M) else
  if v4 = 0 then (Un_putChains_b53 (Un_putChains_L28 n) v1 v2 v3 v4 v5 v1 v5 v5 1 M) else
  Un_putChains_b53 (Un_putChains_L28 n) v1 v2 v3 v4 v5 v1 v5 v5 0 M
def Un_putChains_b13  (v1 : Nat) (v2 : Int32) (v3 : Int32) (s0 : Int32) (M : Mem) : Option Mem :=
  bv (Eq_begin v1 v3 v3 M) fun M1 =>
  Un_putChains_L28 FU v1 v2 v3 s0 0 M1
def Un_putChains (v1 : Nat) (v2 : Int32) (v3 : Int32) (M : Mem) : Option Mem :=
  if isP v1 = true then (if v2 = (M v1 1) then (Un_putChains_b13 v1 v2 v3 1 M) else
  Un_putChains_b13 v1 v2 v3 0 M) else none
def Un_rankAt (v1 : Nat) (v2 : Int32) (M : Mem) : Option (Int32 × Mem) :=
  if isP v1 = true then (bv (Un_putChains v1 v2 1 M) fun M1 =>
  bd (Eq_useUpForRank M1) fun r5 M3 =>
  some (r5, M3)) else none
def Un_nullsOf_L16  : Nat → Nat → Int32 → Int32 → Mem → Option (Int32 × Mem)
  | 0, _, _, _, _ => none
  | n + 1, v1, v2, v3, M => if v2 < v3 then (bd (Eq_useUpForRank M) fun r3 M1 =>
  some (((M 23 3) - r3), M1)) else
  bv (Eq_putBlock v1 v3 v3 1 0 M) fun M4 =>
  bv (Eq_putBlock v1 (v3 + 1) v3 0 (-1) M4) fun M6 =>
  Un_nullsOf_L16 n v1 v2 (v3 + 1) M6
def Un_nullsOf (v1 : Nat) (v2 : Int32) (M : Mem) : Option (Int32 × Mem) :=
  if isP v1 = true then (bv (Eq_begin v1 (v2 + 2) (v2 + 1) M) fun M1 =>
  Un_nullsOf_L16 FU v1 v2 0 M1) else none
def Un_chainsAt (v1 : Nat) (v2 : Int32) (v3 : Int32) (M : Mem) : Option (Int32 × Mem) :=
  if isP v1 = true then (bv (Un_putChains v1 v2 v3 M) fun M1 =>
  bd (Eq_useUpForRank M1) fun r5 M3 =>
  some (((M1 23 3) - r5), M3)) else none
def Un_stepsOf_L14  : Nat → Nat → Int32 → Int32 → Mem → Option (Int32 × Mem)
  | 0, _, _, _, _ => none
  | n + 1, v1, v2, v3, M => if v2 ≤ v3 then (bd (Eq_useUpForRank M) fun r3 M1 =>
  some (((M 23 3) - r3), M1)) else
  bv (Eq_putBlock v1 v3 v3 (-1) 0 M) fun M4 =>
  bv (Eq_putBlock v1 v3 (v3 + 1) 0 1 M4) fun M6 =>
  Un_stepsOf_L14 n v1 v2 (v3 + 1) M6
def Un_stepsOf (v1 : Nat) (v2 : Int32) (M : Mem) : Option (Int32 × Mem) :=
  if isP v1 = true then (bv (Eq_begin v1 v2 (v2 + 1) M) fun M1 =>
  Un_stepsOf_L14 FU v1 v2 0 M1) else none
def Un_goersOf (v1 : Nat) (v2 : Int32) (M : Mem) : Option (Int32 × Mem) :=
  if isP v1 = true then (bd (Un_stepsOf v1 v2 M) fun r3 M1 =>
  bd (Un_chainsAt v1 (M1 v1 1) v2 M1) fun r6 M4 =>
  some ((r3 - r6), M4)) else none
def Un_takeColumn_b64  (v3 : Int32) (M : Mem) : Option (Int32 × Mem) :=
  if v3 = 0 then (some (1, M)) else
  some (0, M)
def Un_takeColumn_L11  : Nat → Nat → Int32 → Int32 → Mem → Option (Int32 × Mem)
  | 0, _, _, _, _ => none
  | n + 1, v1, v3, v4, M => if (M v1 3) ≤ v4 then (Un_takeColumn_b64 v3 M) else
  if 4 ≤ v4 then (Un_takeColumn_b64 v3 M) else
  if ib v4 4 = true then (if ib v4 4 = true then (if ((wr M 29 (ix v4) (jrem v3 10)) 29 (ix v4)) < ((wr M 29 (ix v4) (jrem v3 10)) v1 1) then (Un_takeColumn_L11 n v1 (v3 / 10) (v4 + 1) (wr M 29 (ix v4) (jrem v3 10))) else
  some (0, wr M 29 (ix v4) (jrem v3 10))) else none) else none
def Un_takeColumn (v1 : Nat) (v2 : Int32) (M : Mem) : Option (Int32 × Mem) :=
  if isP v1 = true then (if 0 ≤ v2 then (Un_takeColumn_L11 FU v1 v2 0 M) else
  some (0, M)) else none
def Un_columnCanGo_b44  (v3 : Int32) (M : Mem) : Option (Int32 × Mem) :=
  bd (Eq_useUpForRank M) fun r3 M1 =>
  if r3 = v3 then (some (1, M1)) else
  some (0, M1)
def Un_columnCanGo (v1 : Nat) (v2 : Int32) (M : Mem) : Option (Int32 × Mem) :=
  if isP v1 = true then (bv (Un_putChains v1 (M v1 1) v2 M) fun M1 =>
  bd (Eq_useUpForRank M1) fun r5 M3 =>
  bv (Un_putChains v1 (M3 v1 1) v2 M3) fun M6 =>
  if v2 ≤ 0 then (Un_columnCanGo_b44 r5 M6) else
  bv (Eq_addImageUnderA v1 29 M6) fun M8 =>
  Un_columnCanGo_b44 r5 M8) else none
def Un_countIndices_L11  : Nat → Nat → Nat → Int32 → Int32 → Int32 → Int32 → Mem → Option (Int32 × Mem)
  | 0, _, _, _, _, _, _, _ => none
  | n + 1, v1, v2, v3, v4, v5, v6, M => if 5 ≤ v6 then (some (v3, M)) else
  if (nI (ln v2)) ≤ v6 then (some (v3, M)) else
  bd (Un_nullsOf v1 v6 M) fun r3 M1 =>
  if ib v6 (ln v2) = true then (if ib v6 (ln v2) = true then (Un_countIndices_L11 n v1 v2 (v3 + ((wr M1 v2 (ix v6) ((r3 - (2 * v4)) + v5)) v2 (ix v6))) r3 v4 (v6 + 1) (wr M1 v2 (ix v6) ((r3 - (2 * v4)) + v5))) else none) else none
def Un_countIndices (v1 : Nat) (v2 : Nat) (M : Mem) : Option (Int32 × Mem) :=
  if isP v1 = true then (if isI v2 = true then (Un_countIndices_L11 FU v1 v2 0 0 0 0 M) else none) else none
def Un_indexIn_L4  : Nat → Nat → Int32 → Int32 → Int32 → Mem → Option (Int32 × Mem)
  | 0, _, _, _, _, _ => none
  | n + 1, v0, v1, v2, v3, M => if (nI (ln v0)) ≤ v3 then (some ((-4), M)) else
  if ib v3 (ln v0) = true then (if (v2 + (M v0 (ix v3))) ≤ v1 then (Un_indexIn_L4 n v0 v1 (v2 + (M v0 (ix v3))) (v3 + 1) M) else
  some (v3, M)) else none
def Un_indexIn (v0 : Nat) (v1 : Int32) (M : Mem) : Option (Int32 × Mem) :=
  if isI v0 = true then (Un_indexIn_L4 FU v0 v1 0 0 M) else none
def Un_colIndex (v1 : Nat) (v2 : Int32) (M : Mem) : Option (Int32 × Mem) :=
  if isP v1 = true then (bd (Un_countIndices v1 27 M) fun r3 M1 =>
  bd (Un_indexIn 27 v2 M1) fun r6 M4 =>
  some (r6, M4)) else none
def Un_flippedOf (v1 : Nat) (M : Mem) : Option Mem :=
  if isP v1 = true then (bv (Pa_takeFrom 25 v1 M) fun M1 =>
  bv (Pa_flip 25 M1) fun M3 =>
  some M3) else none
def Un_rowIndex (v1 : Nat) (v2 : Int32) (M : Mem) : Option (Int32 × Mem) :=
  if isP v1 = true then (bv (Un_flippedOf v1 M) fun M1 =>
  bd (Un_countIndices 25 28 M1) fun r5 M3 =>
  bd (Un_indexIn 28 v2 M3) fun r8 M6 =>
  some (r8, M6)) else none
def Un_howManyCols (v1 : Nat) (M : Mem) : Option (Int32 × Mem) :=
  if isP v1 = true then (bd (Un_countIndices v1 27 M) fun r3 M1 =>
  some (r3, M1)) else none
def Un_howManyRows (v1 : Nat) (M : Mem) : Option (Int32 × Mem) :=
  if isP v1 = true then (bv (Un_flippedOf v1 M) fun M1 =>
  bd (Un_countIndices 25 28 M1) fun r5 M3 =>
  some (r5, M3)) else none
def Un_lengthAt_b52 (k20 : Nat → Int32 → Int32 → Int32 → Int32 → Int32 → Int32 → Mem → Option (Int32 × Mem)) (v1 : Nat) (v2 : Int32) (v3 : Int32) (v4 : Int32) (v5 : Int32) (v7 : Int32) (v8 : Int32) (M : Mem) : Option (Int32 × Mem) :=
  k20 v1 v2 v3 v4 v5 v8 (v7 + 1) M
def Un_lengthAt_L20  : Nat → Nat → Int32 → Int32 → Int32 → Int32 → Int32 → Int32 → Mem → Option (Int32 × Mem)
  | 0, _, _, _, _, _, _, _, _ => none
  | n + 1, v1, v2, v3, v4, v5, v6, v7, M => if 4 < v7 then (if v5 = 0 then (some ((-4), M)) else
  some (v5, M)) else
  bd (Un_chainsAt v1 v2 v7 M) fun r3 M1 =>
  if ((r3 - v6) - v4) ≤ v3 then (Un_lengthAt_b52 (Un_lengthAt_L20 n) v1 v2 v3 v4 v5 v7 r3 M1) else
  Un_lengthAt_b52 (Un_lengthAt_L20 n) v1 v2 v3 v4 v7 v7 r3 M1
def Un_lengthAt (v1 : Nat) (v2 : Int32) (v3 : Int32) (M : Mem) : Option (Int32 × Mem) :=
  if isP v1 = true then (bd (Un_countIndices v1 27 M) fun r3 M1 =>
  Un_lengthAt_L20 FU v1 v2 v3 r3 0 0 1 M1) else none
def Un_lengthsFrom_L17  : Nat → Nat → Int32 → Int32 → Int32 → Int32 → Mem → Option (Int32 × Mem)
  | 0, _, _, _, _, _, _ => none
  | n + 1, v1, v3, v4, v5, v6, M => if v3 < v6 then (some (v5, M)) else
  if 7 < v6 then (some (v5, M)) else
  bd (Un_chainsAt v1 v6 4 M) fun r3 M1 =>
  Un_lengthsFrom_L17 n v1 v3 v4 (v5 + (r3 - (4 * v4))) (v6 + 1) M1
def Un_lengthsFrom (v1 : Nat) (v2 : Int32) (v3 : Int32) (M : Mem) : Option (Int32 × Mem) :=
  if isP v1 = true then (bd (Un_countIndices v1 27 M) fun r3 M1 =>
  Un_lengthsFrom_L17 FU v1 v3 r3 0 v2 M1) else none
def Un_columnsOfIndices_L28  : Nat → Int32 → Int32 → Mem → Option (Int32 × Mem)
  | 0, _, _, _ => none
  | n + 1, v2, v3, M => if 5 ≤ v3 then (some (v2, M)) else
  if ib v3 5 = true then (if ib v3 5 = true then (Un_columnsOfIndices_L28 n (v2 + (((v3 + 1) * (M 27 (ix v3))) + (v3 * (M 28 (ix v3))))) (v3 + 1) M) else none) else none
def Un_columnsOfIndices (v1 : Nat) (M : Mem) : Option (Int32 × Mem) :=
  if isP v1 = true then (bd (Un_countIndices v1 27 M) fun r3 M1 =>
  bv (Un_flippedOf v1 M1) fun M4 =>
  bd (Un_countIndices 25 28 M4) fun r8 M6 =>
  Un_columnsOfIndices_L28 FU 0 0 M6) else none
def Un_putIn (v0 : Nat) (v1 : Int32) (v2 : Int32) (M : Mem) : Option (Int32 × Mem) :=
  if isI v0 = true then (if v1 < 0 then (some ((v1 + 1), M)) else
  if (nI (ln v0)) ≤ v1 then (some ((v1 + 1), M)) else
  if ib v1 (ln v0) = true then (some ((v1 + 1), wr M v0 (ix v1) v2)) else none) else none
def Un_tellForm_L115 (k103 : Nat → Nat → Int32 → Int32 → Mem → Option Mem) : Nat → Nat → Nat → Int32 → Int32 → Int32 → Mem → Option Mem
  | 0, _, _, _, _, _, _ => none
  | n + 1, v1, v2, v3, v4, v5, M => if 4 < v5 then (k103 v1 v2 v3 (v4 + 1) M) else
  bd (Un_chainsAt v1 v4 v5 M) fun r3 M1 =>
  bd (Un_putIn v2 v3 r3 M1) fun r6 M4 =>
  Un_tellForm_L115 k103 n v1 v2 r6 v4 (v5 + 1) M4
def Un_tellForm_L103  : Nat → Nat → Nat → Int32 → Int32 → Mem → Option Mem
  | 0, _, _, _, _, _ => none
  | n + 1, v1, v2, v3, v4, M => if (M v1 1) < v4 then (some M) else
  Un_tellForm_L115 (Un_tellForm_L103 n) FU v1 v2 v3 v4 1 M
def Un_tellForm_L62  : Nat → Nat → Nat → Int32 → Int32 → Mem → Option Mem
  | 0, _, _, _, _, _ => none
  | n + 1, v1, v2, v3, v4, M => if 5 ≤ v4 then (Un_tellForm_L103 FU v1 v2 v3 0 M) else
  if ib v4 5 = true then (bd (Un_putIn v2 v3 (M 27 (ix v4)) M) fun r4 M2 =>
  if ib v4 5 = true then (bd (Un_putIn v2 r4 (M2 28 (ix v4)) M2) fun r8 M6 =>
  Un_tellForm_L62 n v1 v2 r8 (v4 + 1) M6) else none) else none
def Un_tellForm (v1 : Nat) (v2 : Nat) (M : Mem) : Option Mem :=
  if isP v1 = true then (if isI v2 = true then (bv (Ja_fill v2 0 M) fun M1 =>
  bd (Un_countIndices v1 27 M1) fun r5 M3 =>
  bv (Un_flippedOf v1 M3) fun M6 =>
  bd (Un_countIndices 25 28 M6) fun r10 M8 =>
  bd (Un_putIn v2 0 (M8 v1 1) M8) fun r13 M11 =>
  bd (Un_putIn v2 r13 (M11 v1 2) M11) fun r16 M14 =>
  bd (Un_putIn v2 r16 (M14 v1 3) M14) fun r19 M17 =>
  Un_tellForm_L62 FU v1 v2 r19 0 M17) else none) else none
def Pf_feed (v1 : Int32) (M : Mem) : Option (Int32 × Mem) :=
  if v1 < 0 then (some ((-1), M)) else
  if v1 ≤ 127 then (bd (Tr_addByte v1 M) fun r3 M1 =>
  if r3 = 0 then (some ((-3), M1)) else
  some ((M1 1 2), M1)) else
  some ((-1), M)
def Pf_end (v1 : Int32) (M : Mem) : Option (Int32 × Mem) :=
  if v1 < 0 then (some ((-1), M)) else
  if v1 ≤ (M 1 2) then (some ((M 1 2), wr M 1 2 v1)) else
  some ((-1), M)
def Pf_text_L60  : Nat → Int32 → Mem → Option (Int32 × Mem)
  | 0, _, _ => none
  | n + 1, v1, M => if 2 ≤ v1 then (some ((M 1 7), M)) else
  if ib v1 2 = true then (Pf_text_L60 n (v1 + 1) (wr M 12 (ix v1) 0)) else none
def Pf_text  (M : Mem) : Option (Int32 × Mem) :=
  bv (Tr_readText M) fun M1 =>
  if ((wr (wr M1 1 2 0) 0 8 ((wr M1 1 2 0) 1 10)) 0 8) = 0 then (bv (Pa_takeFrom 5 3 (wr (wr M1 1 2 0) 0 8 ((wr M1 1 2 0) 1 10))) fun M3 =>
  Pf_text_L60 FU 0 M3) else
  some (((-10) - ((wr (wr M1 1 2 0) 0 8 ((wr M1 1 2 0) 1 10)) 1 11)), wr (wr M1 1 2 0) 0 8 ((wr M1 1 2 0) 1 10))
def Pf_fault  (M : Mem) : Option (Int32 × Mem) :=
  some ((M 0 8), M)
def Pf_rule (v1 : Int32) (M : Mem) : Option (Int32 × Mem) :=
  if v1 = 0 then (some ((M 5 2), M)) else
  if v1 = 1 then (some ((M 5 3), M)) else
  if v1 = 2 then (some ((M 5 1), M)) else
  if v1 = 3 then (bd (Un_howManyCols 5 M) fun r3 M1 =>
  some (r3, M1)) else
  if v1 = 4 then (bd (Un_howManyRows 5 M) fun r6 M4 =>
  some (r6, M4)) else
  if v1 = 5 then (bd (Un_lengthsFrom 5 (M 5 1) (M 5 1) M) fun r9 M7 =>
  some (r9, M7)) else
  if v1 = 6 then (bd (Un_lengthsFrom 5 0 ((M 5 1) - 1) M) fun r12 M10 =>
  some (r12, M10)) else
  if v1 = 7 then (bd (Un_columnsOfIndices 5 M) fun r15 M13 =>
  bd (Un_lengthsFrom 5 0 (M13 5 1) M13) fun r18 M16 =>
  some ((((M 5 3) - r15) - r18), M16)) else
  some ((-1), M)
def Pf_cell (v1 : Int32) (v2 : Int32) (v3 : Int32) (M : Mem) : Option (Int32 × Mem) :=
  bd (Pa_hasPlace 5 v1 v2 v3 M) fun r3 M1 =>
  if r3 = 0 then (some ((-1), M1)) else
  bd (Pa_valueAt 5 v1 v2 v3 M1) fun r6 M4 =>
  some (r6, M4)
def Pf_isX (v1 : Int32) (M : Mem) : Option (Int32 × Mem) :=
  if v1 < 0 then (some (0, M)) else
  if (M 5 1) < v1 then (some (0, M)) else
  some (1, M)
def Pf_rank (v1 : Int32) (M : Mem) : Option (Int32 × Mem) :=
  bd (Pf_isX v1 M) fun r3 M1 =>
  if r3 = 0 then (some ((-1), M1)) else
  bd (Un_rankAt 5 v1 M1) fun r6 M4 =>
  some (r6, M4)
def Pf_isStepCount (v0 : Int32) (M : Mem) : Option (Int32 × Mem) :=
  if v0 < 0 then (some (0, M)) else
  if 4 < v0 then (some (0, M)) else
  some (1, M)
def Pf_nulls (v1 : Int32) (M : Mem) : Option (Int32 × Mem) :=
  bd (Pf_isStepCount v1 M) fun r3 M1 =>
  if r3 = 0 then (some ((-1), M1)) else
  bd (Un_nullsOf 5 v1 M1) fun r6 M4 =>
  some (r6, M4)
def Pf_col (v1 : Int32) (M : Mem) : Option (Int32 × Mem) :=
  if 0 ≤ v1 then (bd (Un_colIndex 5 v1 M) fun r3 M1 =>
  some (r3, M1)) else
  some ((-1), M)
def Pf_row (v1 : Int32) (M : Mem) : Option (Int32 × Mem) :=
  if 0 ≤ v1 then (bd (Un_rowIndex 5 v1 M) fun r3 M1 =>
  some (r3, M1)) else
  some ((-1), M)
def Pf_chains (v1 : Int32) (v2 : Int32) (M : Mem) : Option (Int32 × Mem) :=
  bd (Pf_isX v1 M) fun r3 M1 =>
  if r3 = 0 then (some ((-1), M1)) else
  bd (Pf_isStepCount v2 M1) fun r6 M4 =>
  if r6 = 0 then (some ((-1), M4)) else
  bd (Un_chainsAt 5 v1 v2 M4) fun r9 M7 =>
  some (r9, M7)
def Pf_length (v1 : Int32) (v2 : Int32) (M : Mem) : Option (Int32 × Mem) :=
  bd (Pf_isX v1 M) fun r3 M1 =>
  if r3 = 0 then (some ((-1), M1)) else
  if v2 < 0 then (some ((-1), M1)) else
  bd (Un_lengthAt 5 v1 v2 M1) fun r6 M4 =>
  some (r6, M4)
def Pf_steps (v1 : Int32) (v2 : Int32) (M : Mem) : Option (Int32 × Mem) :=
  bd (Pf_isStepCount v1 M) fun r3 M1 =>
  if r3 = 0 then (some ((-1), M1)) else
  bd (Pf_isSide v2 M1) fun r6 M4 =>
  if r6 = 0 then (some ((-1), M4)) else
  if v2 = 0 then (bd (Un_stepsOf 5 v1 M4) fun r12 M10 =>
  some (r12, M10)) else
  bd (Un_goersOf 5 v1 M4) fun r9 M7 =>
  some (r9, M7)
def Pf_go (v1 : Int32) (v2 : Int32) (M : Mem) : Option (Int32 × Mem) :=
  bd (Pf_isStepCount v2 M) fun r3 M1 =>
  if r3 = 0 then (some ((-1), M1)) else
  bd (Un_takeColumn 5 v1 M1) fun r6 M4 =>
  if r6 = 0 then (some ((-1), M4)) else
  bd (Un_columnCanGo 5 v2 M4) fun r9 M7 =>
  if r9 = 0 then (some (0, M7)) else
  some (1, M7)
def Pf_maySet (v1 : Int32) (v2 : Int32) (v3 : Int32) (v4 : Int32) (M : Mem) : Option (Int32 × Mem) :=
  bd (Pa_hasPlace 5 v1 v2 v3 M) fun r3 M1 =>
  if r3 = 0 then (some (0, M1)) else
  if v4 < 0 then (some (0, M1)) else
  if (M1 5 1) ≤ v4 then (some (0, M1)) else
  some (1, M1)
def Pf_set (v1 : Int32) (v2 : Int32) (v3 : Int32) (v4 : Int32) (M : Mem) : Option (Int32 × Mem) :=
  bd (Pf_maySet v1 v2 v3 v4 M) fun r3 M1 =>
  if r3 = 0 then (some ((-1), M1)) else
  bd (Pa_valueAt 5 v1 v2 v3 M1) fun r6 M4 =>
  bv (Pa_putValue 5 v1 v2 v3 v4 M4) fun M7 =>
  some (r6, M7)
def Pf_open (v1 : Int32) (M : Mem) : Option (Int32 × Mem) :=
  bd (Pf_isSide v1 M) fun r3 M1 =>
  if r3 = 0 then (some ((-1), M1)) else
  bd (Pa_linesOf 5 v1 M1) fun r6 M4 =>
  if r6 < 4 then (bv (Pa_addLine 5 v1 M4) fun M7 =>
  bd (Pa_linesOf 5 v1 M7) fun r11 M9 =>
  some (r11, M9)) else
  some ((-3), M4)
def Pf_cut (v1 : Int32) (v2 : Int32) (M : Mem) : Option (Int32 × Mem) :=
  if v1 < 0 then (some ((-1), M)) else
  if (M 5 2) < v1 then (some ((-1), M)) else
  if v2 < 0 then (some ((-1), M)) else
  if v2 ≤ (M 5 3) then (bd (Pa_shape 5 M) fun r3 M1 =>
  bv (Pa_shrinkTo 5 v1 v2 M1) fun M4 =>
  some (r3, M4)) else
  some ((-1), M)
def Pf_isFactor (v1 : Int32) (M : Mem) : Option (Int32 × Mem) :=
  if v1 < 1 then (some (0, M)) else
  if (M 5 1) ≤ v1 then (some (0, M)) else
  some (1, M)
def Pf_mayMix (v1 : Int32) (v2 : Int32) (v3 : Int32) (v4 : Int32) (M : Mem) : Option (Int32 × Mem) :=
  if v2 = v3 then (some (0, M)) else
  bd (Pa_hasLine 5 v1 v2 M) fun r3 M1 =>
  if r3 = 0 then (some (0, M1)) else
  bd (Pa_hasLine 5 v1 v3 M1) fun r6 M4 =>
  if r6 = 0 then (some (0, M4)) else
  bd (Pf_isFactor v4 M4) fun r9 M7 =>
  if r9 = 0 then (some (0, M7)) else
  some (1, M7)
def Pf_mix (v1 : Int32) (v2 : Int32) (v3 : Int32) (v4 : Int32) (M : Mem) : Option (Int32 × Mem) :=
  bd (Pf_mayMix v1 v2 v3 v4 M) fun r3 M1 =>
  if r3 = 0 then (some ((-1), M1)) else
  bv (Pa_mixLines 5 v1 v2 v3 v4 M1) fun M4 =>
  some (1, M4)
def Pf_times (v1 : Int32) (v2 : Int32) (v3 : Int32) (M : Mem) : Option (Int32 × Mem) :=
  bd (Pa_hasLine 5 v1 v2 M) fun r3 M1 =>
  if r3 = 0 then (some ((-1), M1)) else
  bd (Pf_isFactor v3 M1) fun r6 M4 =>
  if r6 = 0 then (some ((-1), M4)) else
  bv (Pa_multiplyLine 5 v1 v2 v3 M4) fun M7 =>
  some (1, M7)
def Pf_swap (v1 : Int32) (v2 : Int32) (v3 : Int32) (M : Mem) : Option (Int32 × Mem) :=
  bd (Pa_hasLine 5 v1 v2 M) fun r3 M1 =>
  if r3 = 0 then (some ((-1), M1)) else
  bd (Pa_hasLine 5 v1 v3 M1) fun r6 M4 =>
  if r6 = 0 then (some ((-1), M4)) else
  bv (Pa_exchangeLines 5 v1 v2 v3 M4) fun M7 =>
  some (1, M7)
def Pf_mixByNumber (v1 : Int32) (M : Mem) : Option (Int32 × Mem) :=
  bd (Pa_linesOf 5 (jrem v1 2) M) fun r3 M1 =>
  if r3 = 0 then (some (0, M1)) else
  bd (Pf_reduce (v1 / 2) r3 M1) fun r6 M4 =>
  bd (Pf_reduce (v1 / 8) r3 M4) fun r9 M7 =>
  bd (Pf_reduce (v1 / 32) (M7 5 1) M7) fun r12 M10 =>
  bd (Pf_mayMix (jrem v1 2) r6 r9 r12 M10) fun r15 M13 =>
  if r15 = 0 then (some (0, M13)) else
  bv (Pa_mixLines 5 (jrem v1 2) r6 r9 r12 M13) fun M16 =>
  some (1, M16)
def Pf_scramble_b56 (k20 : Int32 → Int32 → Int32 → Int32 → Mem → Option (Int32 × Mem)) (v2 : Int32) (v3 : Int32) (v4 : Int32) (v5 : Int32) (M : Mem) : Option (Int32 × Mem) :=
  k20 v2 v3 v4 (v5 + 1) M
def Pf_scramble_L20  : Nat → Int32 → Int32 → Int32 → Int32 → Mem → Option (Int32 × Mem)
  | 0, _, _, _, _, _ => none
  | n + 1, v2, v3, v4, v5, M => if v2 ≤ v5 then (some (v3, M)) else
  bd (Pf_mixByNumber ((jushr ((v4 * 1103515245) + 12345) 16) &&& 32767) M) fun r3 M1 =>
  if r3 = 0 then (Pf_scramble_b56 (Pf_scramble_L20 n) v2 v3 ((v4 * 1103515245) + 12345) v5 M1) else
  Pf_scramble_b56 (Pf_scramble_L20 n) v2 (v3 + 1) ((v4 * 1103515245) + 12345) v5 M1
def Pf_scramble (v1 : Int32) (v2 : Int32) (M : Mem) : Option (Int32 × Mem) :=
  if v2 < 0 then (some ((-1), M)) else
  if v2 ≤ 100 then (Pf_scramble_L20 FU v2 0 v1 0 M) else
  some ((-1), M)
def Pf_turn_b60   (M : Mem) : Option (Int32 × Mem) :=
  bd (Pa_shape 5 M) fun r3 M1 =>
  some (r3, M1)
def Pf_turn (v1 : Int32) (M : Mem) : Option (Int32 × Mem) :=
  if v1 = 0 then (bv (Pa_exchangeTables 5 M) fun M1 =>
  Pf_turn_b60 M1) else
  if v1 = 1 then (bv (Pa_flip 5 M) fun M3 =>
  Pf_turn_b60 M3) else
  if v1 = 2 then (bv (Pa_shift 5 M) fun M5 =>
  Pf_turn_b60 M5) else
  some ((-1), M)
def Pf_isImage (v0 : Int32) (M : Mem) : Option (Int32 × Mem) :=
  if v0 < 0 then (some (0, M)) else
  if 2 ≤ v0 then (some (0, M)) else
  some (1, M)
def Pf_keep_b23  (v1 : Int32) (s0 : Int32) (M : Mem) : Option (Int32 × Mem) :=
  if ib v1 2 = true then (bv (Pa_takeFrom (rfn 7 (ix v1)) 5 M) fun M2 =>
  if ib v1 2 = true then (some (s0, wr M2 12 (ix v1) 1)) else none) else none
def Pf_keep (v1 : Int32) (M : Mem) : Option (Int32 × Mem) :=
  bd (Pf_isImage v1 M) fun r3 M1 =>
  if r3 = 0 then (some ((-1), M1)) else
  if ib v1 2 = true then (if (M1 12 (ix v1)) = 0 then (Pf_keep_b23 v1 0 M1) else
  Pf_keep_b23 v1 1 M1) else none
def Pf_back (v1 : Int32) (M : Mem) : Option (Int32 × Mem) :=
  bd (Pf_isImage v1 M) fun r3 M1 =>
  if r3 = 0 then (some ((-1), M1)) else
  if ib v1 2 = true then (if (M1 12 (ix v1)) = 0 then (some ((-2), M1)) else
  if ib v1 2 = true then (bv (Pa_takeFrom 5 (rfn 7 (ix v1)) M1) fun M6 =>
  bd (Pa_shape 5 M6) fun r10 M8 =>
  some (r10, M8)) else none) else none
def Pf_alike_L55  : Nat → Int32 → Mem → Option (Int32 × Mem)
  | 0, _, _ => none
  | n + 1, v2, M => if 45 ≤ v2 then (some (1, M)) else
  if ib v2 45 = true then (if ib v2 45 = true then (if (M 30 (ix v2)) = (M 31 (ix v2)) then (Pf_alike_L55 n (v2 + 1) M) else
  some (0, M)) else none) else none
def Pf_alike (v1 : Int32) (M : Mem) : Option (Int32 × Mem) :=
  bd (Pf_isImage v1 M) fun r3 M1 =>
  if r3 = 0 then (some ((-1), M1)) else
  if ib v1 2 = true then (if (M1 12 (ix v1)) = 0 then (some ((-2), M1)) else
  bv (Un_tellForm 5 30 M1) fun M5 =>
  if ib v1 2 = true then (bv (Un_tellForm (rfn 7 (ix v1)) 31 M5) fun M8 =>
  Pf_alike_L55 FU 0 M8) else none) else none
def Pf_isSheet (v0 : Int32) (M : Mem) : Option (Int32 × Mem) :=
  if v0 < 0 then (some (0, M)) else
  if 4 ≤ v0 then (some (0, M)) else
  some (1, M)
def Pf_isLane (v0 : Int32) (M : Mem) : Option (Int32 × Mem) :=
  if v0 < 0 then (some (0, M)) else
  if 3 ≤ v0 then (some (0, M)) else
  some (1, M)
def Pf_sheet (v1 : Int32) (v2 : Int32) (v3 : Int32) (M : Mem) : Option (Int32 × Mem) :=
  bd (Pf_isSheet v1 M) fun r3 M1 =>
  if r3 = 0 then (some ((-1), M1)) else
  bd (Pf_isLane v2 M1) fun r6 M4 =>
  if r6 = 0 then (some ((-1), M4)) else
  if v3 ≤ 40 then (if 0 ≤ v3 then (if ib v1 4 = true then (bv (Se_makeNew (rfn 13 (ix v1)) v2 v3 M4) fun M8 =>
  some (1, M8)) else none) else
  some ((-14), M4)) else
  some ((-1), M4)
def Pf_lay (v1 : Int32) (v2 : Int32) (v3 : Int32) (M : Mem) : Option (Int32 × Mem) :=
  bd (Pf_isSheet v1 M) fun r3 M1 =>
  if r3 = 0 then (some ((-1), M1)) else
  if ib v1 4 = true then (bd (Se_findAt (rfn 13 (ix v1)) v2 M1) fun r7 M5 =>
  if r7 = 0 then (if ib v1 4 = true then (bv (Se_putCell (rfn 13 (ix v1)) v2 v3 M5) fun M9 =>
  some (1, M9)) else none) else
  some (((-10) - r7), M5)) else none
def Pf_maySetFrom (v1 : Nat) (v2 : Int32) (M : Mem) : Option (Int32 × Mem) :=
  if isS v1 = true then (bd (Se_cellAt v1 v2 M) fun r3 M1 =>
  bd (Se_cellAt v1 (v2 + 1) M1) fun r6 M4 =>
  bd (Se_cellAt v1 (v2 + 2) M4) fun r9 M7 =>
  bd (Se_cellAt v1 (v2 + 3) M7) fun r12 M10 =>
  bd (Pf_maySet r3 r6 r9 r12 M10) fun r15 M13 =>
  if z01 r15 = true then some (r15, M13) else none) else none
def Pf_setFrom (v1 : Nat) (v2 : Int32) (M : Mem) : Option Mem :=
  if isS v1 = true then (bd (Se_cellAt v1 v2 M) fun r3 M1 =>
  bd (Se_cellAt v1 (v2 + 1) M1) fun r6 M4 =>
  bd (Se_cellAt v1 (v2 + 2) M4) fun r9 M7 =>
  bd (Se_cellAt v1 (v2 + 3) M7) fun r12 M10 =>
  bv (Pa_putValue 5 r3 r6 r9 r12 M10) fun M13 =>
  some M13) else none
def Pf_read_L109  : Nat → Int32 → Nat → Int32 → Int32 → Int32 → Mem → Option (Int32 × Mem)
  | 0, _, _, _, _, _, _ => none
  | n + 1, v3, v5, v6, v7, v8, M => if v6 ≤ v8 then (some (v6, wr M 0 9 v7)) else
  bv (Pf_setFrom v5 (v3 + (4 * v8)) M) fun M1 =>
  Pf_read_L109 n v3 v5 v6 v7 (v8 + 1) M1
def Pf_read_b106  (v3 : Int32) (v5 : Nat) (v6 : Int32) (v7 : Int32) (M : Mem) : Option (Int32 × Mem) :=
  Pf_read_L109 FU v3 v5 v6 v7 0 M
def Pf_read_b100 (k45 : Int32 → Int32 → Int32 → Nat → Int32 → Int32 → Int32 → Mem → Option (Int32 × Mem)) (v2 : Int32) (v3 : Int32) (v4 : Int32) (v5 : Nat) (v6 : Int32) (v7 : Int32) (v8 : Int32) (M : Mem) : Option (Int32 × Mem) :=
  k45 v2 v3 v4 v5 v6 v7 (v8 + 1) M
def Pf_read_L45  : Nat → Int32 → Int32 → Int32 → Nat → Int32 → Int32 → Int32 → Mem → Option (Int32 × Mem)
  | 0, _, _, _, _, _, _, _, _ => none
  | n + 1, v2, v3, v4, v5, v6, v7, v8, M => if v4 ≤ v8 then (Pf_read_b106 v3 v5 v6 v7 M) else
  if v7 = 0 then (bd (Se_findFour v5 v2 (v3 + (4 * v8)) M) fun r3 M1 =>
  if r3 = 0 then (bd (Pf_maySetFrom v5 (v3 + (4 * v8)) M1) fun r6 M4 =>
  if r6 = 0 then (some (((-20) - v8), M4)) else
  Pf_read_b100 (Pf_read_L45 n) v2 v3 v4 v5 (v6 + 1) r3 v8 M4) else
  Pf_read_b100 (Pf_read_L45 n) v2 v3 v4 v5 v6 r3 v8 M1) else
  Pf_read_b106 v3 v5 v6 v7 M
def Pf_read (v1 : Int32) (v2 : Int32) (v3 : Int32) (v4 : Int32) (M : Mem) : Option (Int32 × Mem) :=
  bd (Pf_isSheet v1 M) fun r3 M1 =>
  if r3 = 0 then (some ((-1), M1)) else
  bd (Pf_isLane v2 M1) fun r6 M4 =>
  if r6 = 0 then (some ((-1), M4)) else
  if v4 < 0 then (some ((-1), M4)) else
  if v4 ≤ 10 then (if ib v1 4 = true then (Pf_read_L45 FU v2 v3 v4 (rfn 13 (ix v1)) 0 0 0 M4) else none) else
  some ((-1), M4)
def Pf_torn  (M : Mem) : Option (Int32 × Mem) :=
  some ((M 0 9), M)
def Pf_count_b54  (s0 : Int32) (M : Mem) : Option (Int32 × Mem) :=
  if (M 12 1) = 0 then (some ((s0 + 0), M)) else
  some ((s0 + 1), M)
def Pf_count (v1 : Int32) (M : Mem) : Option (Int32 × Mem) :=
  if v1 = 0 then (if (M 12 0) = 0 then (Pf_count_b54 0 M) else
  Pf_count_b54 1 M) else
  if v1 = 1 then (bd (Pa_placesNotZero 5 M) fun r3 M1 =>
  some (r3, M1)) else
  if v1 = 2 then (some ((M 1 2), M)) else
  if v1 = 3 then (if ib 0 4 = true then (bd (Se_isNothing (rfn 13 (ix 0)) M) fun r7 M5 =>
  if r7 = 0 then (if ib 0 4 = true then (some ((M5 (rfn 13 (ix 0)) 2), M5)) else none) else
  some ((-4), M5)) else none) else
  if v1 = 4 then (bd (Pa_sumOf 5 0 M) fun r11 M9 =>
  some (r11, M9)) else
  if v1 = 5 then (bd (Pa_sumOf 5 1 M) fun r14 M12 =>
  some (r14, M12)) else
  some ((-1), M)
def Mo_in (v0 : Int64) (v2 : Int64) (v4 : Int64) (M : Mem) : Option (Int32 × Mem) :=
  if (lg_cmp v0 v2) < 0 then (some (0, M)) else
  if 0 < (lg_cmp v0 v4) then (some (0, M)) else
  some (1, M)
def Mo_flag (v0 : Int32) (M : Mem) : Option (Int32 × Mem) :=
  if v0 = 0 then (some (0, M)) else
  some (1, M)
def Mo_feed (v1 : Int32) (M : Mem) : Option (Int32 × Mem) :=
  bd (Mo_in ((v1).toInt64) 0 127 M) fun r3 M1 =>
  if r3 = 0 then (some ((-1), M1)) else
  if (M1 32 7) = 160 then (some ((-3), M1)) else
  if ib (M1 32 7) 160 = true then (some (((wr (wr M1 37 (ix (M1 32 7)) v1) 32 7 (((wr M1 37 (ix (M1 32 7)) v1) 32 7) + 1)) 32 7), wr (wr M1 37 (ix (M1 32 7)) v1) 32 7 (((wr M1 37 (ix (M1 32 7)) v1) 32 7) + 1))) else none
def Mo_end (v1 : Int32) (M : Mem) : Option (Int32 × Mem) :=
  bd (Mo_in ((v1).toInt64) 0 (((M 32 7)).toInt64) M) fun r3 M1 =>
  if r3 = 0 then (some ((-1), M1)) else
  some ((M1 32 7), wr M1 32 7 v1)
def Mo_requires (v1 : Int32) (v2 : Int32) (M : Mem) : Option Mem :=
  if v1 = 0 then (if (M 32 12) = 0 then (some (wr (wr M 32 12 v2) 32 13 ((wr M 32 12 v2) 32 9))) else
  some M) else
  some M
def Mo_byteAt (v1 : Int32) (M : Mem) : Option (Int32 × Mem) :=
  if (M 32 7) ≤ v1 then (some ((-1), M)) else
  if ib v1 160 = true then (some ((M 37 (ix v1)), M)) else none
def Mo_is (v1 : Int32) (v2 : Int32) (v3 : Int32) (v4 : Int32) (M : Mem) : Option (Int32 × Mem) :=
  if ((M 32 8) - (M 32 9)) = v1 then (bd (Mo_byteAt (M 32 9) M) fun r3 M1 =>
  if r3 = v2 then (bd (Mo_byteAt ((M1 32 9) + 1) M1) fun r6 M4 =>
  if r6 = v3 then (if v1 = 2 then (some (1, M4)) else
  bd (Mo_byteAt ((M4 32 9) + 2) M4) fun r9 M7 =>
  if r9 = v4 then (some (1, M7)) else
  some (0, M7)) else
  some (0, M4)) else
  some (0, M1)) else
  some (0, M)
def Mo_lineNow_b46   (M : Mem) : Option (Int32 × Mem) :=
  bd (Mo_is 3 99 111 108 M) fun r3 M1 =>
  if r3 = 0 then (bd (Mo_is 3 114 111 119 M1) fun r6 M4 =>
  if r6 = 0 then (bd (Mo_is 3 105 110 102 M4) fun r9 M7 =>
  if r9 = 0 then (bd (Mo_is 2 97 116 0 M7) fun r12 M10 =>
  if r12 = 0 then (some ((-4), M10)) else
  some (4, M10)) else
  some (3, M7)) else
  some (2, M4)) else
  some (1, M1)
def Mo_lineNow  (M : Mem) : Option (Int32 × Mem) :=
  bd (Mo_is 5 112 114 105 M) fun r3 M1 =>
  if r3 = 0 then (Mo_lineNow_b46 M1) else
  bd (Mo_byteAt ((M1 32 9) + 3) M1) fun r6 M4 =>
  if r6 = 109 then (bd (Mo_byteAt ((M4 32 9) + 4) M4) fun r9 M7 =>
  if r9 = 101 then (some (0, M7)) else
  Mo_lineNow_b46 M7) else
  Mo_lineNow_b46 M4
def Mo_reads_b260  (s1 : Int32) (M : Mem) : Option Mem :=
  bv (Mo_requires s1 1 M) fun M1 =>
  some (wr M1 32 8 ((M1 32 8) + 1))
def Mo_reads_b236  (s1 : Int32) (M : Mem) : Option Mem :=
  bv (Mo_requires s1 1 M) fun M1 =>
  some M1
def Mo_reads_b201 (k140 : Mem → Option Mem) (s1 : Int32) (M : Mem) : Option Mem :=
  k140 (wr (wr M 32 11 s1) 32 8 (((wr M 32 11 s1) 32 8) + 1))
def Mo_reads_L140  : Nat → Mem → Option Mem
  | 0, _ => none
  | n + 1, M => bd (Mo_byteAt (M 32 8) M) fun r3 M1 =>
  bd (Mo_in ((r3).toInt64) 48 57 M1) fun r6 M4 =>
  if r6 = 0 then (if 2 < ((M4 32 8) - (M4 32 9)) then (Mo_reads_b236 0 M4) else
  Mo_reads_b236 1 M4) else
  if 2 ≤ ((M4 32 8) - (M4 32 9)) then (Mo_reads_b201 (Mo_reads_L140 n) (M4 32 11) M4) else
  bd (Mo_byteAt (M4 32 8) M4) fun r9 M7 =>
  Mo_reads_b201 (Mo_reads_L140 n) (((10 * (M4 32 11)) + r9) - 48) M7
def Mo_reads_L82  : Nat → Mem → Option Mem
  | 0, _ => none
  | n + 1, M => bd (Mo_byteAt (M 32 8) M) fun r3 M1 =>
  bd (Mo_in ((r3).toInt64) 97 122 M1) fun r6 M4 =>
  if r6 = 0 then (some M4) else
  Mo_reads_L82 n (wr M4 32 8 ((M4 32 8) + 1))
def Mo_reads_L8  : Nat → Mem → Option Mem
  | 0, _ => none
  | n + 1, M => bd (Mo_byteAt (M 32 8) M) fun r3 M1 =>
  if r3 = 32 then (Mo_reads_L8 n (wr M1 32 8 ((M1 32 8) + 1))) else
  bd (Mo_byteAt ((wr M1 32 9 (M1 32 8)) 32 8) (wr M1 32 9 (M1 32 8))) fun r6 M4 =>
  if 0 ≤ r6 then (bd (Mo_in ((r6).toInt64) 97 122 M4) fun r9 M7 =>
  if r9 = 0 then (bd (Mo_in ((r6).toInt64) 48 57 M7) fun r12 M10 =>
  if r12 = 0 then (if r6 = 59 then (Mo_reads_b260 1 (wr M10 32 10 3)) else
  Mo_reads_b260 0 (wr M10 32 10 3)) else
  Mo_reads_L140 FU (wr (wr M10 32 10 2) 32 11 0)) else
  Mo_reads_L82 FU (wr M7 32 10 1)) else
  some (wr M4 32 10 0)
def Mo_reads  (M : Mem) : Option Mem :=
  if (M 32 12) ≤ 0 then (Mo_reads_L8 FU M) else
  some M
def Mo_isPrime (v0 : Int32) (M : Mem) : Option (Int32 × Mem) :=
  if v0 = 2 then (some (1, M)) else
  if v0 = 3 then (some (1, M)) else
  if v0 = 5 then (some (1, M)) else
  if v0 = 7 then (some (1, M)) else
  some (0, M)
def Mo_readNumber_b49   (M : Mem) : Option (Int32 × Mem) :=
  if (M 32 12) = 0 then (some ((M 32 11), M)) else
  some (0, M)
def Mo_readNumber_b25  (v1 : Int32) (v2 : Int32) (M : Mem) : Option (Int32 × Mem) :=
  if (M 32 12) = 0 then (bd (Mo_in (((M 32 11)).toInt64) ((v1).toInt64) ((v2).toInt64) M) fun r3 M1 =>
  bv (Mo_requires r3 3 M1) fun M4 =>
  Mo_readNumber_b49 M4) else
  Mo_readNumber_b49 M
def Mo_readNumber_b21  (v1 : Int32) (v2 : Int32) (s1 : Int32) (M : Mem) : Option (Int32 × Mem) :=
  bv (Mo_requires s1 2 M) fun M1 =>
  Mo_readNumber_b25 v1 v2 M1
def Mo_readNumber (v1 : Int32) (v2 : Int32) (M : Mem) : Option (Int32 × Mem) :=
  if (M 32 12) = 0 then (if (M 32 10) = 2 then (Mo_readNumber_b21 v1 v2 1 M) else
  Mo_readNumber_b21 v1 v2 0 M) else
  Mo_readNumber_b25 v1 v2 M
def Mo_draws (v1 : Int32) (v2 : Int32) (v3 : Int32) (v4 : Int32) (M : Mem) : Option Mem :=
  if ib (((3 + (16 * v1)) + (4 * v2)) + v3) 35 = true then (some (wr M 36 (ix (((3 + (16 * v1)) + (4 * v2)) + v3)) v4)) else none
def Mo_blockComes_b239 (k90 : Int32 → Int32 → Int32 → Int32 → Int32 → Int32 → Int32 → Int32 → Mem → Option Mem) (v1 : Int32) (v2 : Int32) (v3 : Int32) (v4 : Int32) (v5 : Int32) (v6 : Int32) (v7 : Int32) (v8 : Int32) (M : Mem) : Option Mem :=
  k90 v1 v2 v3 v4 v5 v6 v7 (v8 + 1) M
def Mo_blockComes_b223 (k90 : Int32 → Int32 → Int32 → Int32 → Int32 → Int32 → Int32 → Int32 → Mem → Option Mem) (v1 : Int32) (v2 : Int32) (v3 : Int32) (v4 : Int32) (v5 : Int32) (v6 : Int32) (v7 : Int32) (v8 : Int32) (s1 : Int32) (M : Mem) : Option Mem :=
  bv (Mo_draws s1 (v4 + v8) ((v5 + v8) + 1) 1 M) fun M1 =>
  Mo_blockComes_b239 k90 v1 v2 v3 v4 v5 v6 v7 v8 M1
def Mo_blockComes_b212 (k90 : Int32 → Int32 → Int32 → Int32 → Int32 → Int32 → Int32 → Int32 → Mem → Option Mem) (v1 : Int32) (v2 : Int32) (v3 : Int32) (v4 : Int32) (v5 : Int32) (v6 : Int32) (v7 : Int32) (v8 : Int32) (M : Mem) : Option Mem :=
  if v1 = 3 then (Mo_blockComes_b223 k90 v1 v2 v3 v4 v5 v6 v7 v8 1 M) else
  Mo_blockComes_b223 k90 v1 v2 v3 v4 v5 v6 v7 v8 0 M
def Mo_blockComes_b194 (k90 : Int32 → Int32 → Int32 → Int32 → Int32 → Int32 → Int32 → Int32 → Mem → Option Mem) (v1 : Int32) (v2 : Int32) (v3 : Int32) (v4 : Int32) (v5 : Int32) (v6 : Int32) (v7 : Int32) (v8 : Int32) (M : Mem) : Option Mem :=
  if v2 ≤ (v8 + 1) then (Mo_blockComes_b239 k90 v1 v2 v3 v4 v5 v6 v7 v8 M) else
  if v1 = 3 then (Mo_blockComes_b212 k90 v1 v2 v3 v4 v5 v6 v7 v8 M) else
  if v1 = 4 then (Mo_blockComes_b212 k90 v1 v2 v3 v4 v5 v6 v7 v8 M) else
  Mo_blockComes_b239 k90 v1 v2 v3 v4 v5 v6 v7 v8 M
def Mo_blockComes_b118 (k90 : Int32 → Int32 → Int32 → Int32 → Int32 → Int32 → Int32 → Int32 → Mem → Option Mem) (v1 : Int32) (v2 : Int32) (v3 : Int32) (v4 : Int32) (v5 : Int32) (v6 : Int32) (v7 : Int32) (v8 : Int32) (s1 : Int32) (s2 : Int32) (s3 : Int32) (s4 : Int32) (M : Mem) : Option Mem :=
  bv (Mo_draws s1 s2 s3 s4 M) fun M1 =>
  if v1 = 1 then (bv (Mo_draws 1 (v4 + v8) ((v5 + v8) + 1) 1 M1) fun M7 =>
  Mo_blockComes_b194 k90 v1 v2 v3 v4 v5 v6 v7 v8 M7) else
  if v1 = 2 then (bv (Mo_draws 1 ((v4 + v8) + 1) (v5 + v8) 1 M1) fun M5 =>
  Mo_blockComes_b194 k90 v1 v2 v3 v4 v5 v6 v7 v8 M5) else
  if v1 = 4 then (bv (Mo_draws 1 (v4 + v8) (v5 + v8) 1 M1) fun M3 =>
  Mo_blockComes_b194 k90 v1 v2 v3 v4 v5 v6 v7 v8 M3) else
  Mo_blockComes_b194 k90 v1 v2 v3 v4 v5 v6 v7 v8 M1
def Mo_blockComes_L90  : Nat → Int32 → Int32 → Int32 → Int32 → Int32 → Int32 → Int32 → Int32 → Mem → Option Mem
  | 0, _, _, _, _, _, _, _, _, _ => none
  | n + 1, v1, v2, v3, v4, v5, v6, v7, v8, M => if v2 ≤ v8 then (some (wr (wr M 36 1 ((M 36 1) + v6)) 36 2 (((wr M 36 1 ((M 36 1) + v6)) 36 2) + v7))) else
  if v1 = 4 then (Mo_blockComes_b118 (Mo_blockComes_L90 n) v1 v2 v3 v4 v5 v6 v7 v8 0 (v4 + v8) (v5 + v8) v3 M) else
  Mo_blockComes_b118 (Mo_blockComes_L90 n) v1 v2 v3 v4 v5 v6 v7 v8 0 (v4 + v8) (v5 + v8) 1 M
def Mo_blockComes_b79  (v1 : Int32) (v2 : Int32) (v3 : Int32) (v4 : Int32) (v5 : Int32) (v6 : Int32) (v7 : Int32) (M : Mem) : Option Mem :=
  if (M 32 12) ≤ 0 then (Mo_blockComes_L90 FU v1 v2 v3 v4 v5 v6 v7 0 M) else
  some M
def Mo_blockComes_b75  (v1 : Int32) (v2 : Int32) (v3 : Int32) (v4 : Int32) (v5 : Int32) (v6 : Int32) (v7 : Int32) (s1 : Int32) (M : Mem) : Option Mem :=
  bv (Mo_requires s1 5 M) fun M1 =>
  Mo_blockComes_b79 v1 v2 v3 v4 v5 v6 v7 M1
def Mo_blockComes_b74  (v1 : Int32) (v2 : Int32) (v3 : Int32) (v4 : Int32) (v5 : Int32) (v6 : Int32) (v7 : Int32) (M : Mem) : Option Mem :=
  Mo_blockComes_b75 v1 v2 v3 v4 v5 v6 v7 0 M
def Mo_blockComes_b42  (v1 : Int32) (v2 : Int32) (v3 : Int32) (v4 : Int32) (v5 : Int32) (v6 : Int32) (s0 : Int32) (M : Mem) : Option Mem :=
  if (M 32 12) = 0 then (if 4 < (v4 + v6) then (Mo_blockComes_b74 v1 v2 v3 v4 v5 v6 s0 M) else
  if 4 < (v5 + s0) then (Mo_blockComes_b74 v1 v2 v3 v4 v5 v6 s0 M) else
  Mo_blockComes_b75 v1 v2 v3 v4 v5 v6 s0 1 M) else
  Mo_blockComes_b79 v1 v2 v3 v4 v5 v6 s0 M
def Mo_blockComes_b28  (v1 : Int32) (v2 : Int32) (v3 : Int32) (v4 : Int32) (v5 : Int32) (s0 : Int32) (M : Mem) : Option Mem :=
  if v1 = 1 then (Mo_blockComes_b42 v1 v2 v3 v4 v5 s0 (v2 + 1) M) else
  Mo_blockComes_b42 v1 v2 v3 v4 v5 s0 v2 M
def Mo_blockComes (v1 : Int32) (v2 : Int32) (v3 : Int32) (M : Mem) : Option Mem :=
  if v1 = 2 then (Mo_blockComes_b28 v1 v2 v3 (M 36 1) (M 36 2) (v2 + 1) M) else
  Mo_blockComes_b28 v1 v2 v3 (M 36 1) (M 36 2) v2 M
def Mo_readLineOf_b95  (v1 : Int32) (v2 : Int32) (s1 : Int32) (M : Mem) : Option Mem :=
  bd (Mo_readNumber s1 4 M) fun r3 M1 =>
  bv (Mo_blockComes v1 r3 v2 M1) fun M4 =>
  bv (Mo_reads M4) fun M6 =>
  some M6
def Mo_readLineOf_b90  (v1 : Int32) (v2 : Int32) (M : Mem) : Option Mem :=
  Mo_readLineOf_b95 v1 v2 0 M
def Mo_readLineOf_b79  (v1 : Int32) (v2 : Int32) (M : Mem) : Option Mem :=
  if v1 = 1 then (Mo_readLineOf_b90 v1 v2 M) else
  if v1 = 2 then (Mo_readLineOf_b90 v1 v2 M) else
  Mo_readLineOf_b95 v1 v2 1 M
def Mo_readLineOf_b72  (v1 : Int32) (v2 : Int32) (s1 : Int32) (M : Mem) : Option Mem :=
  bv (Mo_reads (wr M 32 4 s1)) fun M1 =>
  Mo_readLineOf_b79 v1 v2 M1
def Mo_readLineOf_b28  (v2 : Int32) (M : Mem) : Option Mem :=
  bv (Mo_reads (wr M 36 0 v2)) fun M1 =>
  some M1
def Mo_readLineOf (v1 : Int32) (M : Mem) : Option Mem :=
  if v1 = 0 then (bd (Mo_readNumber 2 7 M) fun r6 M4 =>
  if (M4 32 12) = 0 then (bd (Mo_isPrime r6 M4) fun r9 M7 =>
  bv (Mo_requires r9 3 M7) fun M10 =>
  Mo_readLineOf_b28 r6 M10) else
  Mo_readLineOf_b28 r6 M4) else
  if v1 = 4 then (bd (Mo_readNumber 0 6 M) fun r3 M1 =>
  if r3 ≤ (M1 32 4) then (Mo_readLineOf_b72 v1 r3 (M1 32 4) M1) else
  Mo_readLineOf_b72 v1 r3 r3 M1) else
  Mo_readLineOf_b79 v1 0 M
def Mo_readLine_b117   (M : Mem) : Option Mem :=
  bv (Mo_reads M) fun M1 =>
  some M1
def Mo_readLine_b113  (s1 : Int32) (M : Mem) : Option Mem :=
  bv (Mo_requires s1 2 M) fun M1 =>
  Mo_readLine_b117 M1
def Mo_readLine_b72  (v1 : Int32) (s1 : Int32) (M : Mem) : Option Mem :=
  if z01 s1 = true then (bv (Mo_reads (wr M 32 5 s1)) fun M2 =>
  if (M2 32 12) ≤ 0 then (bv (Mo_readLineOf v1 M2) fun M4 =>
  if (M4 32 12) = 0 then (if (M4 32 10) = 3 then (Mo_readLine_b113 1 M4) else
  Mo_readLine_b113 0 M4) else
  Mo_readLine_b117 M4) else
  some M2) else none
def Mo_readLine_b67  (v1 : Int32) (M : Mem) : Option Mem :=
  Mo_readLine_b72 v1 1 M
def Mo_readLine_b51  (v1 : Int32) (s1 : Int32) (M : Mem) : Option Mem :=
  bv (Mo_requires s1 4 M) fun M1 =>
  if (M1 32 5) = 0 then (if v1 = 0 then (Mo_readLine_b67 v1 M1) else
  Mo_readLine_b72 v1 0 M1) else
  Mo_readLine_b67 v1 M1
def Mo_readLine_b46  (v1 : Int32) (M : Mem) : Option Mem :=
  Mo_readLine_b51 v1 1 M
def Mo_readLine_b30  (v1 : Int32) (s1 : Int32) (M : Mem) : Option Mem :=
  bv (Mo_requires s1 2 M) fun M1 =>
  if v1 = 0 then (if (M1 32 5) = 0 then (Mo_readLine_b46 v1 M1) else
  Mo_readLine_b51 v1 0 M1) else
  Mo_readLine_b46 v1 M1
def Mo_readLine_b17  (s0 : Int32) (M : Mem) : Option Mem :=
  if s0 = (-4) then (Mo_readLine_b30 s0 0 M) else
  Mo_readLine_b30 s0 1 M
def Mo_readLine  (M : Mem) : Option Mem :=
  if (M 32 10) = 1 then (bd (Mo_lineNow M) fun r3 M1 =>
  Mo_readLine_b17 r3 M1) else
  Mo_readLine_b17 (-4) M
def Mo_text_L125  : Nat → Int32 → Int32 → Mem → Option (Int32 × Mem)
  | 0, _, _, _ => none
  | n + 1, v1, v2, M => if 35 ≤ v2 then (some (v1, wr (wr M 35 0 0) 35 1 0)) else
  if ib v2 35 = true then (if ib v2 35 = true then (Mo_text_L125 n v1 (v2 + 1) (wr M 33 (ix v2) (M 36 (ix v2)))) else none) else none
def Mo_text_b98  (v1 : Int32) (s1 : Int32) (M : Mem) : Option (Int32 × Mem) :=
  bv (Mo_requires s1 6 M) fun M1 =>
  if ((wr M1 32 7 0) 32 12) ≤ 0 then (Mo_text_L125 FU v1 0 (wr M1 32 7 0)) else
  some (((-10) - ((wr M1 32 7 0) 32 13)), wr M1 32 7 0)
def Mo_text_b79  (v1 : Int32) (M : Mem) : Option (Int32 × Mem) :=
  if (M 36 0) ≤ (M 32 4) then (Mo_text_b98 v1 0 M) else
  Mo_text_b98 v1 1 M
def Mo_text_L55  : Nat → Int32 → Mem → Option (Int32 × Mem)
  | 0, _, _ => none
  | n + 1, v1, M => if (M 32 12) = 0 then (if (M 32 10) = 0 then (Mo_text_b79 v1 M) else
  bv (Mo_readLine M) fun M1 =>
  Mo_text_L55 n (v1 + 1) M1) else
  Mo_text_b79 v1 M
def Mo_text_L24  : Nat → Int32 → Int32 → Mem → Option (Int32 × Mem)
  | 0, _, _, _ => none
  | n + 1, v1, v2, M => if 35 ≤ v2 then (bv (Mo_reads (wr M 36 0 7)) fun M1 =>
  Mo_text_L55 FU v1 M1) else
  if ib v2 35 = true then (Mo_text_L24 n v1 (v2 + 1) (wr M 36 (ix v2) 0)) else none
def Mo_text  (M : Mem) : Option (Int32 × Mem) :=
  Mo_text_L24 FU 0 0 (wr (wr (wr (wr M 32 12 0) 32 8 0) 32 5 0) 32 4 (-1))
def Mo_fault  (M : Mem) : Option (Int32 × Mem) :=
  some ((M 32 12), M)
def Mo_isTable (v1 : Int32) (M : Mem) : Option (Int32 × Mem) :=
  bd (Mo_in ((v1).toInt64) 0 1 M) fun r3 M1 =>
  if z01 r3 = true then some (r3, M1) else none
def Mo_isPlace (v1 : Int32) (v2 : Int32) (M : Mem) : Option (Int32 × Mem) :=
  bd (Mo_in ((v1).toInt64) 0 ((((M 33 1) - 1)).toInt64) M) fun r3 M1 =>
  if r3 = 0 then (some (0, M1)) else
  bd (Mo_in ((v2).toInt64) 0 ((((M1 33 2) - 1)).toInt64) M1) fun r6 M4 =>
  if r6 = 0 then (some (0, M4)) else
  some (1, M4)
def Mo_isX (v1 : Int32) (M : Mem) : Option (Int32 × Mem) :=
  bd (Mo_in ((v1).toInt64) 0 (((M 33 0)).toInt64) M) fun r3 M1 =>
  if z01 r3 = true then some (r3, M1) else none
def Mo_isPart (v0 : Int32) (M : Mem) : Option (Int32 × Mem) :=
  bd (Mo_in ((v0).toInt64) 0 1 M) fun r3 M1 =>
  if z01 r3 = true then some (r3, M1) else none
def Mo_of (v1 : Int32) (v2 : Int32) (v3 : Int32) (M : Mem) : Option (Int32 × Mem) :=
  if ib (((3 + (16 * v1)) + (4 * v2)) + v3) 35 = true then (some ((M 33 (ix (((3 + (16 * v1)) + (4 * v2)) + v3))), M)) else none
def Mo_becomes (v1 : Int32) (v2 : Int32) (v3 : Int32) (v4 : Int32) (M : Mem) : Option Mem :=
  if ib (((3 + (16 * v1)) + (4 * v2)) + v3) 35 = true then (some (wr M 33 (ix (((3 + (16 * v1)) + (4 * v2)) + v3)) v4)) else none
def Mo_rowsNow  (M : Mem) : Option (Int32 × Mem) :=
  if (M 32 17) = 0 then (some ((M 33 1), M)) else
  some ((M 33 2), M)
def Mo_columnsNow  (M : Mem) : Option (Int32 × Mem) :=
  if (M 32 17) = 0 then (some ((M 33 2), M)) else
  some ((M 33 1), M)
def Mo_entry (v1 : Int32) (v2 : Int32) (v3 : Int32) (M : Mem) : Option (Int32 × Mem) :=
  if (M 32 17) = 0 then (bd (Mo_of v1 v2 v3 M) fun r3 M1 =>
  some (r3, M1)) else
  bd (Mo_of v1 v3 v2 M) fun r6 M4 =>
  some (r6, M4)
def Mo_modulo (v1 : Int32) (M : Mem) : Option (Int32 × Mem) :=
  if (M 33 0) = 0 then none else
  if (M 33 0) = 0 then none else
  some ((jrem ((jrem v1 (M 33 0)) + (M 33 0)) (M 33 0)), M)
def Mo_startsLarge_L22  : Nat → Int32 → Mem → Option Mem
  | 0, _, _ => none
  | n + 1, v3, M => if 504 ≤ v3 then (some M) else
  if ib v3 504 = true then (Mo_startsLarge_L22 n (v3 + 1) (wr M 38 (ix v3) 0)) else none
def Mo_startsLarge (v1 : Int32) (v2 : Int32) (M : Mem) : Option Mem :=
  bd (Mo_rowsNow M) fun r3 M1 =>
  bd (Mo_columnsNow (wr M1 32 15 (v1 * r3))) fun r6 M4 =>
  Mo_startsLarge_L22 FU 0 (wr M4 32 16 (v2 * r6))
def Mo_adds_L15 (k3 : Int32 → Int32 → Int32 → Int32 → Int32 → Mem → Option Mem) : Nat → Int32 → Int32 → Int32 → Int32 → Int32 → Int32 → Mem → Option Mem
  | 0, _, _, _, _, _, _, _ => none
  | n + 1, v1, v2, v3, v4, v5, v6, M => bd (Mo_columnsNow M) fun r3 M1 =>
  if r3 ≤ v6 then (k3 v1 v2 v3 v4 (v5 + 1) M1) else
  bd (Mo_rowsNow M1) fun r6 M4 =>
  bd (Mo_columnsNow M4) fun r9 M7 =>
  if ib (((21 * ((v1 * r6) + v5)) + (v2 * r9)) + v6) 504 = true then (bd (Mo_entry 0 v5 v6 M7) fun r13 M11 =>
  bd (Mo_entry 1 v5 v6 M11) fun r16 M14 =>
  bd (Mo_modulo (((M7 38 (ix (((21 * ((v1 * r6) + v5)) + (v2 * r9)) + v6))) + (v3 * r13)) + (v4 * r16)) M14) fun r19 M17 =>
  if ib (((21 * ((v1 * r6) + v5)) + (v2 * r9)) + v6) 504 = true then (Mo_adds_L15 k3 n v1 v2 v3 v4 v5 (v6 + 1) (wr M17 38 (ix (((21 * ((v1 * r6) + v5)) + (v2 * r9)) + v6)) r19)) else none) else none
def Mo_adds_L3  : Nat → Int32 → Int32 → Int32 → Int32 → Int32 → Mem → Option Mem
  | 0, _, _, _, _, _, _ => none
  | n + 1, v1, v2, v3, v4, v5, M => bd (Mo_rowsNow M) fun r3 M1 =>
  if r3 ≤ v5 then (some M1) else
  Mo_adds_L15 (Mo_adds_L3 n) FU v1 v2 v3 v4 v5 0 M1
def Mo_adds (v1 : Int32) (v2 : Int32) (v3 : Int32) (v4 : Int32) (M : Mem) : Option Mem :=
  Mo_adds_L3 FU v1 v2 v3 v4 0 M
def Mo_inverse_L2  : Nat → Int32 → Int32 → Mem → Option (Int32 × Mem)
  | 0, _, _, _ => none
  | n + 1, v1, v2, M => if (M 33 0) = 0 then none else
  if (jrem (v2 * v1) (M 33 0)) = 1 then (some (v2, M)) else
  Mo_inverse_L2 n v1 (v2 + 1) M
def Mo_inverse (v1 : Int32) (M : Mem) : Option (Int32 × Mem) :=
  Mo_inverse_L2 FU v1 1 M
def Mo_largeSwaps_L2  : Nat → Int32 → Int32 → Int32 → Mem → Option Mem
  | 0, _, _, _, _ => none
  | n + 1, v1, v2, v3, M => if 21 ≤ v3 then (some M) else
  if ib ((21 * v1) + v3) 504 = true then (if ib ((21 * v2) + v3) 504 = true then (if ib ((21 * v1) + v3) 504 = true then (if ib ((21 * v2) + v3) 504 = true then (Mo_largeSwaps_L2 n v1 v2 (v3 + 1) (wr (wr M 38 (ix ((21 * v1) + v3)) (M 38 (ix ((21 * v2) + v3)))) 38 (ix ((21 * v2) + v3)) (M 38 (ix ((21 * v1) + v3))))) else none) else none) else none) else none
def Mo_largeSwaps (v1 : Int32) (v2 : Int32) (M : Mem) : Option Mem :=
  Mo_largeSwaps_L2 FU v1 v2 0 M
def Mo_largeLoses_L3  : Nat → Int32 → Int32 → Int32 → Int32 → Mem → Option Mem
  | 0, _, _, _, _, _ => none
  | n + 1, v1, v2, v3, v4, M => if 21 ≤ v4 then (some M) else
  if ib ((21 * v1) + v4) 504 = true then (if ib ((21 * v2) + v4) 504 = true then (bd (Mo_modulo ((M 38 (ix ((21 * v1) + v4))) - (v3 * (M 38 (ix ((21 * v2) + v4))))) M) fun r5 M3 =>
  if ib ((21 * v1) + v4) 504 = true then (Mo_largeLoses_L3 n v1 v2 v3 (v4 + 1) (wr M3 38 (ix ((21 * v1) + v4)) r5)) else none) else none) else none
def Mo_largeLoses (v1 : Int32) (v2 : Int32) (v3 : Int32) (M : Mem) : Option Mem :=
  Mo_largeLoses_L3 FU v1 v2 v3 0 M
def Mo_pivotFor_b38 (k11 : Int32 → Int32 → Int32 → Int32 → Mem → Option (Int32 × Mem)) (v1 : Int32) (v2 : Int32) (v4 : Int32) (s0 : Int32) (M : Mem) : Option (Int32 × Mem) :=
  k11 v1 v2 s0 (v4 + (-1)) M
def Mo_pivotFor_L11  : Nat → Int32 → Int32 → Int32 → Int32 → Mem → Option (Int32 × Mem)
  | 0, _, _, _, _, _ => none
  | n + 1, v1, v2, v3, v4, M => if v4 < v1 then (some (v3, M)) else
  if ib ((21 * v4) + v2) 504 = true then (if (M 38 (ix ((21 * v4) + v2))) = 0 then (Mo_pivotFor_b38 (Mo_pivotFor_L11 n) v1 v2 v4 v3 M) else
  Mo_pivotFor_b38 (Mo_pivotFor_L11 n) v1 v2 v4 v4 M) else none
def Mo_pivotFor (v1 : Int32) (v2 : Int32) (M : Mem) : Option (Int32 × Mem) :=
  Mo_pivotFor_L11 FU v1 v2 (-4) ((M 32 15) - 1) M
def Mo_rankOf_b100 (k4 : Int32 → Int32 → Int32 → Mem → Option (Int32 × Mem)) (v1 : Int32) (v2 : Int32) (v3 : Int32) (M : Mem) : Option (Int32 × Mem) :=
  k4 v1 v2 (v3 + 1) M
def Mo_rankOf_L53 (k4 : Int32 → Int32 → Int32 → Mem → Option (Int32 × Mem)) : Nat → Int32 → Int32 → Int32 → Int32 → Int32 → Mem → Option (Int32 × Mem)
  | 0, _, _, _, _, _, _ => none
  | n + 1, v1, v2, v3, v5, v6, M => if (M 32 15) ≤ v6 then (Mo_rankOf_b100 k4 v1 (v2 + 1) v3 M) else
  if ib ((21 * v6) + v3) 504 = true then (if (M 33 0) = 0 then none else
  bv (Mo_largeLoses v6 v2 (jrem (v5 * (M 38 (ix ((21 * v6) + v3)))) (M 33 0)) M) fun M3 =>
  Mo_rankOf_L53 k4 n v1 v2 v3 v5 (v6 + 1) M3) else none
def Mo_rankOf_L4  : Nat → Int32 → Int32 → Int32 → Mem → Option (Int32 × Mem)
  | 0, _, _, _, _ => none
  | n + 1, v1, v2, v3, M => if v1 ≤ v3 then (some (v2, M)) else
  bd (Mo_pivotFor v2 v3 M) fun r3 M1 =>
  if r3 = (-4) then (Mo_rankOf_b100 (Mo_rankOf_L4 n) v1 v2 v3 M1) else
  bv (Mo_largeSwaps r3 v2 M1) fun M4 =>
  if ib ((21 * v2) + v3) 504 = true then (bd (Mo_inverse (M4 38 (ix ((21 * v2) + v3))) M4) fun r9 M7 =>
  Mo_rankOf_L53 (Mo_rankOf_L4 n) FU v1 v2 v3 r9 (v2 + 1) M7) else none
def Mo_rankOf (v1 : Int32) (M : Mem) : Option (Int32 × Mem) :=
  Mo_rankOf_L4 FU v1 0 0 M
def Mo_dimension  (M : Mem) : Option (Int32 × Mem) :=
  bd (Mo_rankOf (M 32 16) M) fun r3 M1 =>
  some (((M 32 16) - r3), M1)
def Mo_nullsOf_b47 (k18 : Int32 → Int32 → Mem → Option (Int32 × Mem)) (v1 : Int32) (v2 : Int32) (s1 : Int32) (s2 : Int32) (s3 : Int32) (s4 : Int32) (M : Mem) : Option (Int32 × Mem) :=
  bv (Mo_adds s1 s2 s3 s4 M) fun M1 =>
  k18 v1 (v2 + 1) M1
def Mo_nullsOf_L18  : Nat → Int32 → Int32 → Mem → Option (Int32 × Mem)
  | 0, _, _, _ => none
  | n + 1, v1, v2, M => if v1 < v2 then (bd (Mo_dimension M) fun r3 M1 =>
  some (r3, M1)) else
  bv (Mo_adds v2 v2 1 0 M) fun M4 =>
  if v2 = v1 then (Mo_nullsOf_b47 (Mo_nullsOf_L18 n) v1 v2 (v2 + 1) v2 0 1 M4) else
  Mo_nullsOf_b47 (Mo_nullsOf_L18 n) v1 v2 (v2 + 1) v2 0 (-1) M4
def Mo_nullsOf (v1 : Int32) (M : Mem) : Option (Int32 × Mem) :=
  if 0 ≤ v1 then (bv (Mo_startsLarge (v1 + 2) (v1 + 1) M) fun M1 =>
  Mo_nullsOf_L18 FU v1 0 M1) else
  some (0, M)
def Mo_findIndices_L7  : Nat → Nat → Int32 → Int32 → Int32 → Mem → Option Mem
  | 0, _, _, _, _, _ => none
  | n + 1, v1, v2, v3, v4, M => if 4 < v4 then (some M) else
  bd (Mo_nullsOf v4 M) fun r3 M1 =>
  if ib v4 (ln v1) = true then (Mo_findIndices_L7 n v1 r3 v2 (v4 + 1) (wr M1 v1 (ix v4) ((r3 - (2 * v2)) + v3))) else none
def Mo_findIndices (v1 : Nat) (M : Mem) : Option Mem :=
  if isI v1 = true then (Mo_findIndices_L7 FU v1 0 0 0 M) else none
def Mo_findAllIndices  (M : Mem) : Option Mem :=
  bv (Mo_findIndices 39 (wr M 32 17 0)) fun M1 =>
  bv (Mo_findIndices 40 (wr M1 32 17 1)) fun M3 =>
  some (wr M3 32 17 0)
def Mo_manyOf_L4  : Nat → Nat → Int32 → Int32 → Mem → Option (Int32 × Mem)
  | 0, _, _, _, _ => none
  | n + 1, v0, v1, v2, M => if 4 < v2 then (some (v1, M)) else
  if ib v2 (ln v0) = true then (Mo_manyOf_L4 n v0 (v1 + (M v0 (ix v2))) (v2 + 1) M) else none
def Mo_manyOf (v0 : Nat) (M : Mem) : Option (Int32 × Mem) :=
  if isI v0 = true then (Mo_manyOf_L4 FU v0 0 0 M) else none
def Mo_indexAt_L4  : Nat → Nat → Int32 → Int32 → Mem → Option (Int32 × Mem)
  | 0, _, _, _, _ => none
  | n + 1, v0, v2, v3, M => if 4 < v3 then (some ((-4), M)) else
  if ib v3 (ln v0) = true then (if (M v0 (ix v3)) ≤ v2 then (if ib v3 (ln v0) = true then (Mo_indexAt_L4 n v0 (v2 - (M v0 (ix v3))) (v3 + 1) M) else none) else
  some (v3, M)) else none
def Mo_indexAt (v0 : Nat) (v1 : Int32) (M : Mem) : Option (Int32 × Mem) :=
  if isI v0 = true then (Mo_indexAt_L4 FU v0 v1 0 M) else none
def Mo_addsAt_b41  (s1 : Int32) (s2 : Int32) (s3 : Int32) (s4 : Int32) (M : Mem) : Option Mem :=
  bv (Mo_adds s1 s2 s3 s4 M) fun M1 =>
  some M1
def Mo_addsAt_b30  (v3 : Int32) (v4 : Int32) (s1 : Int32) (s2 : Int32) (s3 : Int32) (M : Mem) : Option Mem :=
  if v4 = 0 then (Mo_addsAt_b41 s1 s2 s3 (-v3) M) else
  Mo_addsAt_b41 s1 s2 s3 1 M
def Mo_addsAt_b15  (v1 : Int32) (v2 : Int32) (v3 : Int32) (s0 : Int32) (M : Mem) : Option Mem :=
  if s0 = 0 then (Mo_addsAt_b30 v3 s0 v1 v2 1 M) else
  Mo_addsAt_b30 v3 s0 v1 v2 0 M
def Mo_addsAt (v1 : Int32) (v2 : Int32) (v3 : Int32) (M : Mem) : Option Mem :=
  if v3 = (M 33 0) then (Mo_addsAt_b15 v1 v2 v3 1 M) else
  Mo_addsAt_b15 v1 v2 v3 0 M
def Mo_chainsOf_b73 (k25 : Int32 → Int32 → Int32 → Int32 → Mem → Option (Int32 × Mem)) (v1 : Int32) (v2 : Int32) (v3 : Int32) (v4 : Int32) (M : Mem) : Option (Int32 × Mem) :=
  k25 v1 v2 v3 (v4 + 1) M
def Mo_chainsOf_b70 (k25 : Int32 → Int32 → Int32 → Int32 → Mem → Option (Int32 × Mem)) (v1 : Int32) (v2 : Int32) (v3 : Int32) (v4 : Int32) (s1 : Int32) (s2 : Int32) (s3 : Int32) (s4 : Int32) (M : Mem) : Option (Int32 × Mem) :=
  bv (Mo_adds s1 s2 s3 s4 M) fun M1 =>
  Mo_chainsOf_b73 k25 v1 v2 v3 v4 M1
def Mo_chainsOf_b61 (k25 : Int32 → Int32 → Int32 → Int32 → Mem → Option (Int32 × Mem)) (v1 : Int32) (v2 : Int32) (v3 : Int32) (v4 : Int32) (s1 : Int32) (s2 : Int32) (s3 : Int32) (M : Mem) : Option (Int32 × Mem) :=
  if v3 = 0 then (Mo_chainsOf_b70 k25 v1 v2 v3 v4 s1 s2 s3 (-1) M) else
  Mo_chainsOf_b70 k25 v1 v2 v3 v4 s1 s2 s3 0 M
def Mo_chainsOf_L25  : Nat → Int32 → Int32 → Int32 → Int32 → Mem → Option (Int32 × Mem)
  | 0, _, _, _, _, _ => none
  | n + 1, v1, v2, v3, v4, M => if v2 ≤ v4 then (bd (Mo_dimension M) fun r3 M1 =>
  some (r3, M1)) else
  bv (Mo_addsAt v4 v4 v1 M) fun M4 =>
  if v4 ≤ 0 then (Mo_chainsOf_b73 (Mo_chainsOf_L25 n) v1 v2 v3 v4 M4) else
  if v3 = 0 then (Mo_chainsOf_b61 (Mo_chainsOf_L25 n) v1 v2 v3 v4 v4 (v4 - 1) 0 M4) else
  Mo_chainsOf_b61 (Mo_chainsOf_L25 n) v1 v2 v3 v4 v4 (v4 - 1) (-1) M4
def Mo_chainsOf_b15  (v1 : Int32) (v2 : Int32) (s0 : Int32) (M : Mem) : Option (Int32 × Mem) :=
  bv (Mo_startsLarge v2 v2 M) fun M1 =>
  Mo_chainsOf_L25 FU v1 v2 s0 0 M1
def Mo_chainsOf (v1 : Int32) (v2 : Int32) (M : Mem) : Option (Int32 × Mem) :=
  if v1 = (M 33 0) then (Mo_chainsOf_b15 v1 v2 1 M) else
  Mo_chainsOf_b15 v1 v2 0 M
def Mo_findLong_L13  : Nat → Int32 → Int32 → Int32 → Int32 → Mem → Option Mem
  | 0, _, _, _, _, _ => none
  | n + 1, v1, v2, v3, v4, M => if 4 < v4 then (some M) else
  bd (Mo_chainsOf v1 v4 M) fun r3 M1 =>
  if ib v4 5 = true then (Mo_findLong_L13 n v1 v2 r3 (v4 + 1) (wr M1 41 (ix v4) ((r3 - v3) - v2))) else none
def Mo_findLong (v1 : Int32) (M : Mem) : Option Mem :=
  bd (Mo_manyOf 39 M) fun r3 M1 =>
  Mo_findLong_L13 FU v1 r3 0 1 M1
def Mo_lengthAt_b25 (k4 : Int32 → Int32 → Int32 → Mem → Option (Int32 × Mem)) (v1 : Int32) (v3 : Int32) (s0 : Int32) (s1 : Int32) (M : Mem) : Option (Int32 × Mem) :=
  bd (Mo_flag s1 M) fun r3 M1 =>
  k4 v1 (s0 + r3) (v3 + 1) M1
def Mo_lengthAt_L4  : Nat → Int32 → Int32 → Int32 → Mem → Option (Int32 × Mem)
  | 0, _, _, _, _ => none
  | n + 1, v1, v2, v3, M => if 4 < v3 then (some (v2, M)) else
  if ib v3 5 = true then (if (M 41 (ix v3)) ≤ v1 then (Mo_lengthAt_b25 (Mo_lengthAt_L4 n) v1 v3 v2 0 M) else
  Mo_lengthAt_b25 (Mo_lengthAt_L4 n) v1 v3 v2 1 M) else none
def Mo_lengthAt (v1 : Int32) (M : Mem) : Option (Int32 × Mem) :=
  Mo_lengthAt_L4 FU v1 0 1 M
def Mo_lengthsAt (v1 : Int32) (M : Mem) : Option (Int32 × Mem) :=
  bv (Mo_findLong v1 M) fun M1 =>
  some (((((M1 41 1) + (M1 41 2)) + (M1 41 3)) + (M1 41 4)), M1)
def Mo_lengthsBut_L4  : Nat → Int32 → Int32 → Mem → Option (Int32 × Mem)
  | 0, _, _, _ => none
  | n + 1, v1, v2, M => if (M 33 0) ≤ v2 then (some (v1, M)) else
  bd (Mo_lengthsAt v2 M) fun r3 M1 =>
  Mo_lengthsBut_L4 n (v1 + r3) (v2 + 1) M1
def Mo_lengthsBut  (M : Mem) : Option (Int32 × Mem) :=
  Mo_lengthsBut_L4 FU 0 0 M
def Mo_rest_L25  : Nat → Int32 → Int32 → Mem → Option (Int32 × Mem)
  | 0, _, _, _ => none
  | n + 1, v1, v2, M => if 4 < v2 then (some (v1, M)) else
  if ib v2 5 = true then (if ib v2 5 = true then (Mo_rest_L25 n (v1 - (((v2 + 1) * (M 39 (ix v2))) + (v2 * (M 40 (ix v2))))) (v2 + 1) M) else none) else none
def Mo_rest  (M : Mem) : Option (Int32 × Mem) :=
  bd (Mo_lengthsBut M) fun r3 M1 =>
  bd (Mo_lengthsAt (M1 33 0) M1) fun r6 M4 =>
  Mo_rest_L25 FU (((M 33 2) - r3) - r6) 0 M4
def Mo_rule (v1 : Int32) (M : Mem) : Option (Int32 × Mem) :=
  bv (Mo_findAllIndices M) fun M1 =>
  if v1 = 0 then (some ((M1 33 1), M1)) else
  if v1 = 1 then (some ((M1 33 2), M1)) else
  if v1 = 2 then (some ((M1 33 0), M1)) else
  if v1 = 3 then (bd (Mo_manyOf 39 M1) fun r5 M3 =>
  some (r5, M3)) else
  if v1 = 4 then (bd (Mo_manyOf 40 M1) fun r8 M6 =>
  some (r8, M6)) else
  if v1 = 5 then (bd (Mo_lengthsAt (M1 33 0) M1) fun r11 M9 =>
  some (r11, M9)) else
  if v1 = 6 then (bd (Mo_lengthsBut M1) fun r14 M12 =>
  some (r14, M12)) else
  if v1 = 7 then (bd (Mo_rest M1) fun r17 M15 =>
  some (r17, M15)) else
  some ((-1), M1)
def Mo_cell (v1 : Int32) (v2 : Int32) (v3 : Int32) (M : Mem) : Option (Int32 × Mem) :=
  bd (Mo_isTable v1 M) fun r3 M1 =>
  if r3 = 0 then (some ((-1), M1)) else
  bd (Mo_isPlace v2 v3 M1) fun r6 M4 =>
  if r6 = 0 then (some ((-1), M4)) else
  bd (Mo_of v1 v2 v3 M4) fun r9 M7 =>
  some (r9, M7)
def Mo_rank (v1 : Int32) (M : Mem) : Option (Int32 × Mem) :=
  bd (Mo_isX v1 M) fun r3 M1 =>
  if r3 = 0 then (some ((-1), M1)) else
  bv (Mo_startsLarge 1 1 M1) fun M4 =>
  bv (Mo_addsAt 0 0 v1 M4) fun M6 =>
  bd (Mo_rankOf (M6 32 16) M6) fun r10 M8 =>
  some (r10, M8)
def Mo_nulls (v1 : Int32) (M : Mem) : Option (Int32 × Mem) :=
  bd (Mo_in ((v1).toInt64) 0 4 M) fun r3 M1 =>
  if r3 = 0 then (some ((-1), M1)) else
  bd (Mo_nullsOf v1 M1) fun r6 M4 =>
  some (r6, M4)
def Mo_col (v1 : Int32) (M : Mem) : Option (Int32 × Mem) :=
  if 0 ≤ v1 then (bv (Mo_findAllIndices M) fun M1 =>
  bd (Mo_indexAt 39 v1 M1) fun r5 M3 =>
  some (r5, M3)) else
  some ((-1), M)
def Mo_row (v1 : Int32) (M : Mem) : Option (Int32 × Mem) :=
  if 0 ≤ v1 then (bv (Mo_findAllIndices M) fun M1 =>
  bd (Mo_indexAt 40 v1 M1) fun r5 M3 =>
  some (r5, M3)) else
  some ((-1), M)
def Mo_chains (v1 : Int32) (v2 : Int32) (M : Mem) : Option (Int32 × Mem) :=
  bd (Mo_isX v1 M) fun r3 M1 =>
  if r3 = 0 then (some ((-1), M1)) else
  bd (Mo_in ((v2).toInt64) 0 4 M1) fun r6 M4 =>
  if r6 = 0 then (some ((-1), M4)) else
  bd (Mo_chainsOf v1 v2 M4) fun r9 M7 =>
  some (r9, M7)
def Mo_length (v1 : Int32) (v2 : Int32) (M : Mem) : Option (Int32 × Mem) :=
  bd (Mo_isX v1 M) fun r3 M1 =>
  if r3 = 0 then (some ((-1), M1)) else
  if 0 ≤ v2 then (bv (Mo_findAllIndices M1) fun M4 =>
  bv (Mo_findLong v1 M4) fun M6 =>
  bd (Mo_lengthAt v2 M6) fun r10 M8 =>
  if r10 = 0 then (some ((-4), M8)) else
  some (r10, M8)) else
  some ((-1), M1)
def Mo_startsSteps_b50 (k18 : Int32 → Int32 → Int32 → Mem → Option Mem) (v1 : Int32) (v2 : Int32) (v3 : Int32) (v4 : Int32) (M : Mem) : Option Mem :=
  bv (Mo_adds v3 (v4 + 1) 0 1 M) fun M1 =>
  k18 v1 v2 (v3 + 1) M1
def Mo_startsSteps_b34 (k18 : Int32 → Int32 → Int32 → Mem → Option Mem) (v1 : Int32) (v2 : Int32) (v3 : Int32) (s0 : Int32) (M : Mem) : Option Mem :=
  if s0 < 0 then (Mo_startsSteps_b50 k18 v1 v2 v3 s0 M) else
  bv (Mo_adds v3 s0 (-1) 0 M) fun M1 =>
  Mo_startsSteps_b50 k18 v1 v2 v3 s0 M1
def Mo_startsSteps_L18  : Nat → Int32 → Int32 → Int32 → Mem → Option Mem
  | 0, _, _, _, _ => none
  | n + 1, v1, v2, v3, M => if v1 ≤ v3 then (some M) else
  if v2 = 0 then (Mo_startsSteps_b34 (Mo_startsSteps_L18 n) v1 v2 v3 v3 M) else
  Mo_startsSteps_b34 (Mo_startsSteps_L18 n) v1 v2 v3 (v3 - 1) M
def Mo_startsSteps_b13  (v1 : Int32) (v2 : Int32) (s1 : Int32) (s2 : Int32) (M : Mem) : Option Mem :=
  bv (Mo_startsLarge s1 s2 M) fun M1 =>
  Mo_startsSteps_L18 FU v1 v2 0 M1
def Mo_startsSteps (v1 : Int32) (v2 : Int32) (M : Mem) : Option Mem :=
  if v2 = 0 then (Mo_startsSteps_b13 v1 v2 v1 (v1 + 1) M) else
  Mo_startsSteps_b13 v1 v2 v1 v1 M
def Mo_steps (v1 : Int32) (v2 : Int32) (M : Mem) : Option (Int32 × Mem) :=
  bd (Mo_in ((v1).toInt64) 0 4 M) fun r3 M1 =>
  if r3 = 0 then (some ((-1), M1)) else
  bd (Mo_isPart v2 M1) fun r6 M4 =>
  if r6 = 0 then (some ((-1), M4)) else
  bv (Mo_startsSteps v1 0 M4) fun M7 =>
  bd (Mo_dimension M7) fun r11 M9 =>
  if v2 = 0 then (some (r11, M9)) else
  bv (Mo_startsSteps v1 1 M9) fun M12 =>
  bd (Mo_dimension M12) fun r16 M14 =>
  some ((r11 - r16), M14)
def Mo_isColumn_b62 (k15 : Int32 → Int32 → Int32 → Mem → Option (Int32 × Mem)) (v2 : Int32) (v4 : Int32) (s0 : Int32) (M : Mem) : Option (Int32 × Mem) :=
  k15 (v2 / 10) s0 (v4 + 1) M
def Mo_isColumn_b61 (k15 : Int32 → Int32 → Int32 → Mem → Option (Int32 × Mem)) (v2 : Int32) (v4 : Int32) (M : Mem) : Option (Int32 × Mem) :=
  Mo_isColumn_b62 k15 v2 v4 0 M
def Mo_isColumn_L15  : Nat → Int32 → Int32 → Int32 → Mem → Option (Int32 × Mem)
  | 0, _, _, _, _ => none
  | n + 1, v2, v3, v4, M => if (M 33 2) ≤ v4 then (if v3 = 0 then (some (0, M)) else
  if v2 = 0 then (some (1, M)) else
  some (0, M)) else
  if ib v4 4 = true then (if v3 = 0 then (Mo_isColumn_b61 (Mo_isColumn_L15 n) v2 v4 (wr M 42 (ix v4) (jrem v2 10))) else
  if ib v4 4 = true then (if ((wr M 42 (ix v4) (jrem v2 10)) 33 0) ≤ ((wr M 42 (ix v4) (jrem v2 10)) 42 (ix v4)) then (Mo_isColumn_b61 (Mo_isColumn_L15 n) v2 v4 (wr M 42 (ix v4) (jrem v2 10))) else
  Mo_isColumn_b62 (Mo_isColumn_L15 n) v2 v4 1 (wr M 42 (ix v4) (jrem v2 10))) else none) else none
def Mo_isColumn_b11  (v2 : Int32) (s0 : Int32) (M : Mem) : Option (Int32 × Mem) :=
  Mo_isColumn_L15 FU v2 s0 0 M
def Mo_isColumn (v1 : Int32) (M : Mem) : Option (Int32 × Mem) :=
  if v1 < 0 then (Mo_isColumn_b11 v1 0 M) else
  Mo_isColumn_b11 v1 1 M
def Mo_rankFrom_b38 (k4 : Int32 → Int32 → Mem → Option (Int32 × Mem)) (v3 : Int32) (s0 : Int32) (M : Mem) : Option (Int32 × Mem) :=
  k4 s0 (v3 + 1) M
def Mo_rankFrom_b37 (k4 : Int32 → Int32 → Mem → Option (Int32 × Mem)) (v3 : Int32) (M : Mem) : Option (Int32 × Mem) :=
  Mo_rankFrom_b38 k4 v3 0 M
def Mo_rankFrom_L4  : Nat → Int32 → Int32 → Mem → Option (Int32 × Mem)
  | 0, _, _, _ => none
  | n + 1, v2, v3, M => if (M 32 15) ≤ v3 then (if z01 v2 = true then some (v2, M) else none) else
  if v2 = 0 then (Mo_rankFrom_b37 (Mo_rankFrom_L4 n) v3 M) else
  if ib ((21 * v3) + (M 32 16)) 504 = true then (if (M 38 (ix ((21 * v3) + (M 32 16)))) = 0 then (Mo_rankFrom_b38 (Mo_rankFrom_L4 n) v3 1 M) else
  Mo_rankFrom_b37 (Mo_rankFrom_L4 n) v3 M) else none
def Mo_rankFrom (v1 : Int32) (M : Mem) : Option (Int32 × Mem) :=
  Mo_rankFrom_L4 FU 1 v1 M
def Mo_go_L52 (k36 : Int32 → Mem → Option (Int32 × Mem)) : Nat → Int32 → Int32 → Int32 → Mem → Option (Int32 × Mem)
  | 0, _, _, _, _ => none
  | n + 1, v3, v4, v5, M => if (M 33 2) ≤ v5 then (bd (Mo_modulo v4 M) fun r3 M1 =>
  if ib ((21 * v3) + (M 32 16)) 504 = true then (k36 (v3 + 1) (wr M1 38 (ix ((21 * v3) + (M 32 16))) r3)) else none) else
  bd (Mo_of 0 v3 v5 M) fun r7 M5 =>
  if ib v5 4 = true then (Mo_go_L52 k36 n v3 (v4 + (r7 * (M5 42 (ix v5)))) (v5 + 1) M5) else none
def Mo_go_L36  : Nat → Int32 → Mem → Option (Int32 × Mem)
  | 0, _, _ => none
  | n + 1, v3, M => if (M 33 1) ≤ v3 then (bd (Mo_rankOf (M 32 16) M) fun r3 M1 =>
  bd (Mo_rankFrom r3 M1) fun r6 M4 =>
  bd (Mo_flag r6 M4) fun r9 M7 =>
  some (r9, M7)) else
  Mo_go_L52 (Mo_go_L36 n) FU v3 0 0 M
def Mo_go (v1 : Int32) (v2 : Int32) (M : Mem) : Option (Int32 × Mem) :=
  bd (Mo_isColumn v1 M) fun r3 M1 =>
  if r3 = 0 then (some ((-1), M1)) else
  bd (Mo_in ((v2).toInt64) 0 4 M1) fun r6 M4 =>
  if r6 = 0 then (some ((-1), M4)) else
  if v2 = 0 then (some (1, M4)) else
  bv (Mo_startsSteps v2 1 M4) fun M7 =>
  Mo_go_L36 FU 0 M7
def Mo_set (v1 : Int32) (v2 : Int32) (v3 : Int32) (v4 : Int32) (M : Mem) : Option (Int32 × Mem) :=
  bd (Mo_isTable v1 M) fun r3 M1 =>
  if r3 = 0 then (some ((-1), M1)) else
  bd (Mo_isPlace v2 v3 M1) fun r6 M4 =>
  if r6 = 0 then (some ((-1), M4)) else
  bd (Mo_in ((v4).toInt64) 0 ((((M4 33 0) - 1)).toInt64) M4) fun r9 M7 =>
  if r9 = 0 then (some ((-1), M7)) else
  bd (Mo_of v1 v2 v3 M7) fun r12 M10 =>
  bv (Mo_becomes v1 v2 v3 v4 M10) fun M13 =>
  some (r12, M13)
def Mo_open_b63 (k28 : Int32 → Int32 → Int32 → Mem → Option (Int32 × Mem)) (k36 : Int32 → Int32 → Int32 → Int32 → Mem → Option (Int32 × Mem)) (v1 : Int32) (v2 : Int32) (v3 : Int32) (v4 : Int32) (s1 : Int32) (s2 : Int32) (s3 : Int32) (M : Mem) : Option (Int32 × Mem) :=
  bv (Mo_becomes s1 s2 s3 0 M) fun M1 =>
  k36 v1 v2 v3 (v4 + 1) M1
def Mo_open_b54 (k28 : Int32 → Int32 → Int32 → Mem → Option (Int32 × Mem)) (k36 : Int32 → Int32 → Int32 → Int32 → Mem → Option (Int32 × Mem)) (v1 : Int32) (v2 : Int32) (v3 : Int32) (v4 : Int32) (s1 : Int32) (s2 : Int32) (M : Mem) : Option (Int32 × Mem) :=
  if v1 = 0 then (Mo_open_b63 k28 k36 v1 v2 v3 v4 s1 s2 v3 M) else
  Mo_open_b63 k28 k36 v1 v2 v3 v4 s1 s2 v2 M
def Mo_open_L36 (k28 : Int32 → Int32 → Int32 → Mem → Option (Int32 × Mem)) : Nat → Int32 → Int32 → Int32 → Int32 → Mem → Option (Int32 × Mem)
  | 0, _, _, _, _, _ => none
  | n + 1, v1, v2, v3, v4, M => if 2 ≤ v4 then (k28 v1 v2 (v3 + 1) M) else
  if v1 = 0 then (Mo_open_b54 k28 (Mo_open_L36 k28 n) v1 v2 v3 v4 v4 v2 M) else
  Mo_open_b54 k28 (Mo_open_L36 k28 n) v1 v2 v3 v4 v4 v3 M
def Mo_open_L28  : Nat → Int32 → Int32 → Int32 → Mem → Option (Int32 × Mem)
  | 0, _, _, _, _ => none
  | n + 1, v1, v2, v3, M => if 4 ≤ v3 then (if ib (1 + v1) 35 = true then (some ((v2 + 1), wr M 33 (ix (1 + v1)) (v2 + 1))) else none) else
  Mo_open_L36 (Mo_open_L28 n) FU v1 v2 v3 0 M
def Mo_open (v1 : Int32) (M : Mem) : Option (Int32 × Mem) :=
  bd (Mo_isPart v1 M) fun r3 M1 =>
  if r3 = 0 then (some ((-1), M1)) else
  if ib (1 + v1) 35 = true then (if (M1 33 (ix (1 + v1))) = 4 then (some ((-3), M1)) else
  Mo_open_L28 FU v1 (M1 33 (ix (1 + v1))) 0 M1) else none
def Mo_shape  (M : Mem) : Option (Int32 × Mem) :=
  some (((10 * (M 33 1)) + (M 33 2)), M)
def Mo_cut (v1 : Int32) (v2 : Int32) (M : Mem) : Option (Int32 × Mem) :=
  bd (Mo_in ((v1).toInt64) 0 (((M 33 1)).toInt64) M) fun r3 M1 =>
  if r3 = 0 then (some ((-1), M1)) else
  bd (Mo_in ((v2).toInt64) 0 (((M1 33 2)).toInt64) M1) fun r6 M4 =>
  if r6 = 0 then (some ((-1), M4)) else
  bd (Mo_shape M4) fun r9 M7 =>
  some (r9, wr (wr M7 33 1 v1) 33 2 v2)
def Mo_isLine (v1 : Int32) (v2 : Int32) (M : Mem) : Option (Int32 × Mem) :=
  bd (Mo_isPart v1 M) fun r3 M1 =>
  if r3 = 0 then (some (0, M1)) else
  if ib (1 + v1) 35 = true then (bd (Mo_in ((v2).toInt64) 0 ((((M1 33 (ix (1 + v1))) - 1)).toInt64) M1) fun r7 M5 =>
  if r7 = 0 then (some (0, M5)) else
  some (1, M5)) else none
def Mo_isTimes (v1 : Int32) (M : Mem) : Option (Int32 × Mem) :=
  bd (Mo_in ((v1).toInt64) 1 ((((M 33 0) - 1)).toInt64) M) fun r3 M1 =>
  if z01 r3 = true then some (r3, M1) else none
def Mo_lineOf (v1 : Int32) (v2 : Int32) (v3 : Int32) (v4 : Int32) (M : Mem) : Option (Int32 × Mem) :=
  if v2 = 0 then (bd (Mo_of v1 v3 v4 M) fun r6 M4 =>
  some (r6, M4)) else
  bd (Mo_of v1 v4 v3 M) fun r3 M1 =>
  some (r3, M1)
def Mo_lineBecomes_b22  (v5 : Int32) (s1 : Int32) (s2 : Int32) (s3 : Int32) (M : Mem) : Option Mem :=
  bd (Mo_modulo v5 M) fun r3 M1 =>
  bv (Mo_becomes s1 s2 s3 r3 M1) fun M4 =>
  some M4
def Mo_lineBecomes_b12  (v2 : Int32) (v3 : Int32) (v4 : Int32) (v5 : Int32) (s1 : Int32) (s2 : Int32) (M : Mem) : Option Mem :=
  if v2 = 0 then (Mo_lineBecomes_b22 v5 s1 s2 v4 M) else
  Mo_lineBecomes_b22 v5 s1 s2 v3 M
def Mo_lineBecomes (v1 : Int32) (v2 : Int32) (v3 : Int32) (v4 : Int32) (v5 : Int32) (M : Mem) : Option Mem :=
  if v2 = 0 then (Mo_lineBecomes_b12 v2 v3 v4 v5 v1 v3 M) else
  Mo_lineBecomes_b12 v2 v3 v4 v5 v1 v4 M
def Mo_mix_L46 (k37 : Int32 → Int32 → Int32 → Int32 → Int32 → Mem → Option (Int32 × Mem)) : Nat → Int32 → Int32 → Int32 → Int32 → Int32 → Int32 → Mem → Option (Int32 × Mem)
  | 0, _, _, _, _, _, _, _ => none
  | n + 1, v1, v2, v3, v4, v5, v6, M => if ib (2 - v1) 35 = true then (if (M 33 (ix (2 - v1))) ≤ v6 then (k37 v1 v2 v3 v4 (v5 + 1) M) else
  bd (Mo_lineOf v5 v1 v2 v6 M) fun r4 M2 =>
  bd (Mo_lineOf v5 v1 v3 v6 M2) fun r7 M5 =>
  bv (Mo_lineBecomes v5 v1 v2 v6 (r4 + (v4 * r7)) M5) fun M8 =>
  Mo_mix_L46 k37 n v1 v2 v3 v4 v5 (v6 + 1) M8) else none
def Mo_mix_L37  : Nat → Int32 → Int32 → Int32 → Int32 → Int32 → Mem → Option (Int32 × Mem)
  | 0, _, _, _, _, _, _ => none
  | n + 1, v1, v2, v3, v4, v5, M => if 2 ≤ v5 then (some (1, M)) else
  Mo_mix_L46 (Mo_mix_L37 n) FU v1 v2 v3 v4 v5 0 M
def Mo_mix (v1 : Int32) (v2 : Int32) (v3 : Int32) (v4 : Int32) (M : Mem) : Option (Int32 × Mem) :=
  bd (Mo_isLine v1 v2 M) fun r3 M1 =>
  if r3 = 0 then (some ((-1), M1)) else
  bd (Mo_isLine v1 v3 M1) fun r6 M4 =>
  if r6 = 0 then (some ((-1), M4)) else
  if v2 = v3 then (some ((-1), M4)) else
  bd (Mo_isTimes v4 M4) fun r9 M7 =>
  if r9 = 0 then (some ((-1), M7)) else
  Mo_mix_L37 FU v1 v2 v3 v4 0 M7
def Mo_times_L31 (k22 : Int32 → Int32 → Int32 → Int32 → Mem → Option (Int32 × Mem)) : Nat → Int32 → Int32 → Int32 → Int32 → Int32 → Mem → Option (Int32 × Mem)
  | 0, _, _, _, _, _, _ => none
  | n + 1, v1, v2, v3, v4, v5, M => if ib (2 - v1) 35 = true then (if (M 33 (ix (2 - v1))) ≤ v5 then (k22 v1 v2 v3 (v4 + 1) M) else
  bd (Mo_lineOf v4 v1 v2 v5 M) fun r4 M2 =>
  bv (Mo_lineBecomes v4 v1 v2 v5 (v3 * r4) M2) fun M5 =>
  Mo_times_L31 k22 n v1 v2 v3 v4 (v5 + 1) M5) else none
def Mo_times_L22  : Nat → Int32 → Int32 → Int32 → Int32 → Mem → Option (Int32 × Mem)
  | 0, _, _, _, _, _ => none
  | n + 1, v1, v2, v3, v4, M => if 2 ≤ v4 then (some (1, M)) else
  Mo_times_L31 (Mo_times_L22 n) FU v1 v2 v3 v4 0 M
def Mo_times (v1 : Int32) (v2 : Int32) (v3 : Int32) (M : Mem) : Option (Int32 × Mem) :=
  bd (Mo_isLine v1 v2 M) fun r3 M1 =>
  if r3 = 0 then (some ((-1), M1)) else
  bd (Mo_isTimes v3 M1) fun r6 M4 =>
  if r6 = 0 then (some ((-1), M4)) else
  Mo_times_L22 FU v1 v2 v3 0 M4
def Mo_swap_L32 (k23 : Int32 → Int32 → Int32 → Int32 → Mem → Option (Int32 × Mem)) : Nat → Int32 → Int32 → Int32 → Int32 → Int32 → Mem → Option (Int32 × Mem)
  | 0, _, _, _, _, _, _ => none
  | n + 1, v1, v2, v3, v4, v5, M => if ib (2 - v1) 35 = true then (if (M 33 (ix (2 - v1))) ≤ v5 then (k23 v1 v2 v3 (v4 + 1) M) else
  bd (Mo_lineOf v4 v1 v2 v5 M) fun r4 M2 =>
  bd (Mo_lineOf v4 v1 v3 v5 M2) fun r7 M5 =>
  bv (Mo_lineBecomes v4 v1 v2 v5 r7 M5) fun M8 =>
  bv (Mo_lineBecomes v4 v1 v3 v5 r4 M8) fun M10 =>
  Mo_swap_L32 k23 n v1 v2 v3 v4 (v5 + 1) M10) else none
def Mo_swap_L23  : Nat → Int32 → Int32 → Int32 → Int32 → Mem → Option (Int32 × Mem)
  | 0, _, _, _, _, _ => none
  | n + 1, v1, v2, v3, v4, M => if 2 ≤ v4 then (some (1, M)) else
  Mo_swap_L32 (Mo_swap_L23 n) FU v1 v2 v3 v4 0 M
def Mo_swap (v1 : Int32) (v2 : Int32) (v3 : Int32) (M : Mem) : Option (Int32 × Mem) :=
  bd (Mo_isLine v1 v2 M) fun r3 M1 =>
  if r3 = 0 then (some ((-1), M1)) else
  bd (Mo_isLine v1 v3 M1) fun r6 M4 =>
  if r6 = 0 then (some ((-1), M4)) else
  Mo_swap_L23 FU v1 v2 v3 0 M4
def Mo_scramble_b120 (k22 : Int32 → Int32 → Int32 → Int32 → Mem → Option (Int32 × Mem)) (v2 : Int32) (v3 : Int32) (v4 : Int32) (v5 : Int32) (M : Mem) : Option (Int32 × Mem) :=
  k22 v2 v3 v4 (v5 + 1) M
def Mo_scramble_b114 (k22 : Int32 → Int32 → Int32 → Int32 → Mem → Option (Int32 × Mem)) (v2 : Int32) (v3 : Int32) (v5 : Int32) (s0 : Int32) (s1 : Int32) (M : Mem) : Option (Int32 × Mem) :=
  bd (Mo_flag s1 M) fun r3 M1 =>
  Mo_scramble_b120 k22 v2 v3 (s0 + r3) v5 M1
def Mo_scramble_L22  : Nat → Int32 → Int32 → Int32 → Int32 → Mem → Option (Int32 × Mem)
  | 0, _, _, _, _, _ => none
  | n + 1, v2, v3, v4, v5, M => if v2 ≤ v5 then (some (v4, M)) else
  if ib (1 + (jrem ((((v3 * 1103515245) + 12345) >>> ((16 : Int32) &&& 31)) &&& 32767) 2)) 35 = true then (if (M 33 (ix (1 + (jrem ((((v3 * 1103515245) + 12345) >>> ((16 : Int32) &&& 31)) &&& 32767) 2)))) ≤ 0 then (Mo_scramble_b120 (Mo_scramble_L22 n) v2 ((v3 * 1103515245) + 12345) v4 v5 M) else
  if (M 33 (ix (1 + (jrem ((((v3 * 1103515245) + 12345) >>> ((16 : Int32) &&& 31)) &&& 32767) 2)))) = 0 then none else
  if (M 33 (ix (1 + (jrem ((((v3 * 1103515245) + 12345) >>> ((16 : Int32) &&& 31)) &&& 32767) 2)))) = 0 then none else
  if (M 33 0) = 0 then none else
  bd (Mo_mix (jrem ((((v3 * 1103515245) + 12345) >>> ((16 : Int32) &&& 31)) &&& 32767) 2) (jrem (((((v3 * 1103515245) + 12345) >>> ((16 : Int32) &&& 31)) &&& 32767) / 2) (M 33 (ix (1 + (jrem ((((v3 * 1103515245) + 12345) >>> ((16 : Int32) &&& 31)) &&& 32767) 2))))) (jrem (((((v3 * 1103515245) + 12345) >>> ((16 : Int32) &&& 31)) &&& 32767) / 8) (M 33 (ix (1 + (jrem ((((v3 * 1103515245) + 12345) >>> ((16 : Int32) &&& 31)) &&& 32767) 2))))) (jrem (((((v3 * 1103515245) + 12345) >>> ((16 : Int32) &&& 31)) &&& 32767) / 32) (M 33 0)) M) fun r7 M5 =>
  if r7 = 1 then (Mo_scramble_b114 (Mo_scramble_L22 n) v2 ((v3 * 1103515245) + 12345) v5 v4 1 M5) else
  Mo_scramble_b114 (Mo_scramble_L22 n) v2 ((v3 * 1103515245) + 12345) v5 v4 0 M5) else none
def Mo_scramble (v1 : Int32) (v2 : Int32) (M : Mem) : Option (Int32 × Mem) :=
  bd (Mo_in ((v2).toInt64) 0 100 M) fun r3 M1 =>
  if r3 = 0 then (some ((-1), M1)) else
  Mo_scramble_L22 FU v2 v1 0 0 M1
def Mo_sets1 (v1 : Int32) (v2 : Int32) (v3 : Int32) (v4 : Int32) (M : Mem) : Option Mem :=
  if ib (((3 + (16 * v1)) + (4 * v2)) + v3) 35 = true then (some (wr M 43 (ix (((3 + (16 * v1)) + (4 * v2)) + v3)) v4)) else none
def Mo_turn_b204   (M : Mem) : Option (Int32 × Mem) :=
  bd (Mo_shape M) fun r3 M1 =>
  some (r3, M1)
def Mo_turn_L149  : Nat → Int32 → Int32 → Mem → Option (Int32 × Mem)
  | 0, _, _, _ => none
  | n + 1, v1, v2, M => if 35 ≤ v2 then (if v1 = 1 then (Mo_turn_b204 (wr (wr M 33 1 (M 33 2)) 33 2 (M 33 1))) else
  Mo_turn_b204 M) else
  if ib v2 35 = true then (if ib v2 35 = true then (Mo_turn_L149 n v1 (v2 + 1) (wr M 33 (ix v2) (M 43 (ix v2)))) else none) else none
def Mo_turn_b132 (k16 : Int32 → Int32 → Mem → Option (Int32 × Mem)) (k23 : Int32 → Int32 → Int32 → Mem → Option (Int32 × Mem)) (v1 : Int32) (v2 : Int32) (v3 : Int32) (s1 : Int32) (s2 : Int32) (s3 : Int32) (s4 : Int32) (M : Mem) : Option (Int32 × Mem) :=
  bv (Mo_sets1 s1 s2 s3 s4 M) fun M1 =>
  k23 v1 v2 (v3 + 1) M1
def Mo_turn_b121 (k16 : Int32 → Int32 → Mem → Option (Int32 × Mem)) (k23 : Int32 → Int32 → Int32 → Mem → Option (Int32 × Mem)) (v1 : Int32) (v2 : Int32) (v3 : Int32) (v4 : Int32) (v5 : Int32) (s1 : Int32) (s2 : Int32) (s3 : Int32) (M : Mem) : Option (Int32 × Mem) :=
  if v1 = 0 then (Mo_turn_b132 k16 k23 v1 v2 v3 s1 s2 s3 v4 M) else
  Mo_turn_b132 k16 k23 v1 v2 v3 s1 s2 s3 v5 M
def Mo_turn_b111 (k16 : Int32 → Int32 → Mem → Option (Int32 × Mem)) (k23 : Int32 → Int32 → Int32 → Mem → Option (Int32 × Mem)) (v1 : Int32) (v2 : Int32) (v3 : Int32) (v4 : Int32) (v5 : Int32) (s1 : Int32) (s2 : Int32) (M : Mem) : Option (Int32 × Mem) :=
  if v1 = 1 then (Mo_turn_b121 k16 k23 v1 v2 v3 v4 v5 s1 s2 v2 M) else
  Mo_turn_b121 k16 k23 v1 v2 v3 v4 v5 s1 s2 v3 M
def Mo_turn_b96 (k16 : Int32 → Int32 → Mem → Option (Int32 × Mem)) (k23 : Int32 → Int32 → Int32 → Mem → Option (Int32 × Mem)) (v1 : Int32) (v2 : Int32) (v3 : Int32) (v4 : Int32) (v5 : Int32) (s1 : Int32) (s2 : Int32) (s3 : Int32) (s4 : Int32) (M : Mem) : Option (Int32 × Mem) :=
  bv (Mo_sets1 s1 s2 s3 s4 M) fun M1 =>
  if v1 = 1 then (Mo_turn_b111 k16 k23 v1 v2 v3 v4 v5 1 v3 M1) else
  Mo_turn_b111 k16 k23 v1 v2 v3 v4 v5 1 v2 M1
def Mo_turn_b68 (k16 : Int32 → Int32 → Mem → Option (Int32 × Mem)) (k23 : Int32 → Int32 → Int32 → Mem → Option (Int32 × Mem)) (v1 : Int32) (v2 : Int32) (v3 : Int32) (v4 : Int32) (v5 : Int32) (s1 : Int32) (s2 : Int32) (s3 : Int32) (M : Mem) : Option (Int32 × Mem) :=
  if v1 = 0 then (Mo_turn_b96 k16 k23 v1 v2 v3 v4 v5 s1 s2 s3 v5 M) else
  if v1 = 2 then (bd (Mo_modulo (v4 - v5) M) fun r3 M1 =>
  Mo_turn_b96 k16 k23 v1 v2 v3 v4 v5 s1 s2 s3 r3 M1) else
  Mo_turn_b96 k16 k23 v1 v2 v3 v4 v5 s1 s2 s3 v4 M
def Mo_turn_b58 (k16 : Int32 → Int32 → Mem → Option (Int32 × Mem)) (k23 : Int32 → Int32 → Int32 → Mem → Option (Int32 × Mem)) (v1 : Int32) (v2 : Int32) (v3 : Int32) (v4 : Int32) (v5 : Int32) (s1 : Int32) (s2 : Int32) (M : Mem) : Option (Int32 × Mem) :=
  if v1 = 1 then (Mo_turn_b68 k16 k23 v1 v2 v3 v4 v5 s1 s2 v2 M) else
  Mo_turn_b68 k16 k23 v1 v2 v3 v4 v5 s1 s2 v3 M
def Mo_turn_L23 (k16 : Int32 → Int32 → Mem → Option (Int32 × Mem)) : Nat → Int32 → Int32 → Int32 → Mem → Option (Int32 × Mem)
  | 0, _, _, _, _ => none
  | n + 1, v1, v2, v3, M => if 4 ≤ v3 then (k16 v1 (v2 + 1) M) else
  bd (Mo_of 0 v2 v3 M) fun r3 M1 =>
  bd (Mo_of 1 v2 v3 M1) fun r6 M4 =>
  if v1 = 1 then (Mo_turn_b58 k16 (Mo_turn_L23 k16 n) v1 v2 v3 r3 r6 0 v3 M4) else
  Mo_turn_b58 k16 (Mo_turn_L23 k16 n) v1 v2 v3 r3 r6 0 v2 M4
def Mo_turn_L16  : Nat → Int32 → Int32 → Mem → Option (Int32 × Mem)
  | 0, _, _, _ => none
  | n + 1, v1, v2, M => if 4 ≤ v2 then (Mo_turn_L149 FU v1 3 M) else
  Mo_turn_L23 (Mo_turn_L16 n) FU v1 v2 0 M
def Mo_turn (v1 : Int32) (M : Mem) : Option (Int32 × Mem) :=
  bd (Mo_in ((v1).toInt64) 0 2 M) fun r3 M1 =>
  if r3 = 0 then (some ((-1), M1)) else
  Mo_turn_L16 FU v1 0 M1
def Mo_keep_L31  : Nat → Int32 → Int32 → Int32 → Mem → Option (Int32 × Mem)
  | 0, _, _, _, _ => none
  | n + 1, v1, v2, v3, M => if 35 ≤ v3 then (some (v2, M)) else
  if ib v3 35 = true then (if ib ((35 * v1) + v3) 70 = true then (Mo_keep_L31 n v1 v2 (v3 + 1) (wr M 34 (ix ((35 * v1) + v3)) (M 33 (ix v3)))) else none) else none
def Mo_keep (v1 : Int32) (M : Mem) : Option (Int32 × Mem) :=
  bd (Mo_in ((v1).toInt64) 0 1 M) fun r3 M1 =>
  if r3 = 0 then (some ((-1), M1)) else
  if ib v1 2 = true then (bd (Mo_flag (M1 35 (ix v1)) M1) fun r7 M5 =>
  if ib v1 2 = true then (Mo_keep_L31 FU v1 r7 0 (wr M5 35 (ix v1) 1)) else none) else none
def Mo_takes_L2  : Nat → Int32 → Int32 → Mem → Option Mem
  | 0, _, _, _ => none
  | n + 1, v1, v2, M => if 35 ≤ v2 then (some M) else
  if ib ((35 * v1) + v2) 70 = true then (if ib v2 35 = true then (Mo_takes_L2 n v1 (v2 + 1) (wr M 33 (ix v2) (M 34 (ix ((35 * v1) + v2))))) else none) else none
def Mo_takes (v1 : Int32) (M : Mem) : Option Mem :=
  Mo_takes_L2 FU v1 0 M
def Mo_back (v1 : Int32) (M : Mem) : Option (Int32 × Mem) :=
  bd (Mo_in ((v1).toInt64) 0 1 M) fun r3 M1 =>
  if r3 = 0 then (some ((-1), M1)) else
  if ib v1 2 = true then (if (M1 35 (ix v1)) = 0 then (some ((-2), M1)) else
  bv (Mo_takes v1 M1) fun M5 =>
  bd (Mo_shape M5) fun r9 M7 =>
  some (r9, M7)) else none
def Mo_findForm_L104 (k87 : Nat → Int32 → Mem → Option Mem) : Nat → Nat → Int32 → Int32 → Mem → Option Mem
  | 0, _, _, _, _ => none
  | n + 1, v1, v2, v3, M => if 4 < v3 then (k87 v1 (v2 + 1) M) else
  if ib v3 5 = true then (if ib (((13 + (4 * v2)) + v3) - 1) (ln v1) = true then (Mo_findForm_L104 k87 n v1 v2 (v3 + 1) (wr M v1 (ix (((13 + (4 * v2)) + v3) - 1)) (M 41 (ix v3)))) else none) else none
def Mo_findForm_L87  : Nat → Nat → Int32 → Mem → Option Mem
  | 0, _, _, _ => none
  | n + 1, v1, v2, M => if (M 33 0) < v2 then (some M) else
  bv (Mo_findLong v2 M) fun M1 =>
  Mo_findForm_L104 (Mo_findForm_L87 n) FU v1 v2 1 M1
def Mo_findForm_L51  : Nat → Nat → Int32 → Mem → Option Mem
  | 0, _, _, _ => none
  | n + 1, v1, v2, M => if 4 < v2 then (Mo_findForm_L87 FU v1 0 M) else
  if ib v2 5 = true then (if ib (3 + v2) (ln v1) = true then (if ib v2 5 = true then (if ib (8 + v2) (ln v1) = true then (Mo_findForm_L51 n v1 (v2 + 1) (wr (wr M v1 (ix (3 + v2)) (M 39 (ix v2))) v1 (ix (8 + v2)) ((wr M v1 (ix (3 + v2)) (M 39 (ix v2))) 40 (ix v2)))) else none) else none) else none) else none
def Mo_findForm_L6  : Nat → Nat → Int32 → Mem → Option Mem
  | 0, _, _, _ => none
  | n + 1, v1, v2, M => if 45 ≤ v2 then (if ib 0 (ln v1) = true then (if ib 1 (ln v1) = true then (if ib 2 (ln v1) = true then (Mo_findForm_L51 FU v1 0 (wr (wr (wr M v1 (ix 0) (M 33 0)) v1 (ix 1) ((wr M v1 (ix 0) (M 33 0)) 33 1)) v1 (ix 2) ((wr (wr M v1 (ix 0) (M 33 0)) v1 (ix 1) ((wr M v1 (ix 0) (M 33 0)) 33 1)) 33 2))) else none) else none) else none) else
  if ib v2 (ln v1) = true then (Mo_findForm_L6 n v1 (v2 + 1) (wr M v1 (ix v2) 0)) else none
def Mo_findForm (v1 : Nat) (M : Mem) : Option Mem :=
  if isI v1 = true then (bv (Mo_findAllIndices M) fun M1 =>
  Mo_findForm_L6 FU v1 0 M1) else none
def Mo_alike_b131 (k101 : Int32 → Int32 → Mem → Option (Int32 × Mem)) (v3 : Int32) (s0 : Int32) (M : Mem) : Option (Int32 × Mem) :=
  k101 s0 (v3 + 1) M
def Mo_alike_b130 (k101 : Int32 → Int32 → Mem → Option (Int32 × Mem)) (v3 : Int32) (M : Mem) : Option (Int32 × Mem) :=
  Mo_alike_b131 k101 v3 0 M
def Mo_alike_L101  : Nat → Int32 → Int32 → Mem → Option (Int32 × Mem)
  | 0, _, _, _ => none
  | n + 1, v2, v3, M => if 45 ≤ v3 then (bd (Mo_flag v2 M) fun r3 M1 =>
  some (r3, M1)) else
  if v2 = 0 then (Mo_alike_b130 (Mo_alike_L101 n) v3 M) else
  if ib v3 45 = true then (if ib v3 45 = true then (if (M 44 (ix v3)) = (M 45 (ix v3)) then (Mo_alike_b131 (Mo_alike_L101 n) v3 1 M) else
  Mo_alike_b130 (Mo_alike_L101 n) v3 M) else none) else none
def Mo_alike_L73  : Nat → Int32 → Mem → Option (Int32 × Mem)
  | 0, _, _ => none
  | n + 1, v2, M => if 35 ≤ v2 then (Mo_alike_L101 FU 1 0 M) else
  if ib v2 35 = true then (if ib v2 35 = true then (Mo_alike_L73 n (v2 + 1) (wr M 33 (ix v2) (M 43 (ix v2)))) else none) else none
def Mo_alike_L26  : Nat → Int32 → Int32 → Mem → Option (Int32 × Mem)
  | 0, _, _, _ => none
  | n + 1, v1, v2, M => if 35 ≤ v2 then (bv (Mo_findForm 44 M) fun M1 =>
  bv (Mo_takes v1 M1) fun M3 =>
  bv (Mo_findForm 45 M3) fun M5 =>
  Mo_alike_L73 FU 0 M5) else
  if ib v2 35 = true then (if ib v2 35 = true then (Mo_alike_L26 n v1 (v2 + 1) (wr M 43 (ix v2) (M 33 (ix v2)))) else none) else none
def Mo_alike (v1 : Int32) (M : Mem) : Option (Int32 × Mem) :=
  bd (Mo_in ((v1).toInt64) 0 1 M) fun r3 M1 =>
  if r3 = 0 then (some ((-1), M1)) else
  if ib v1 2 = true then (if (M1 35 (ix v1)) = 0 then (some ((-2), M1)) else
  Mo_alike_L26 FU v1 0 M1) else none
def Mo_isSheet (v0 : Int32) (v1 : Int32) (M : Mem) : Option (Int32 × Mem) :=
  bd (Mo_in ((v0).toInt64) 0 3 M) fun r3 M1 =>
  if r3 = 0 then (some (0, M1)) else
  bd (Mo_in ((v1).toInt64) 0 2 M1) fun r6 M4 =>
  if r6 = 0 then (some (0, M4)) else
  some (1, M4)
def Mo_sheet_L40  : Nat → Int32 → Int32 → Mem → Option (Int32 × Mem)
  | 0, _, _, _ => none
  | n + 1, v1, v4, M => if 40 ≤ v4 then (some (1, M)) else
  if ib ((40 * v1) + v4) 160 = true then (Mo_sheet_L40 n v1 (v4 + 1) (wr M 48 (ix ((40 * v1) + v4)) 0)) else none
def Mo_sheet (v1 : Int32) (v2 : Int32) (v3 : Int32) (M : Mem) : Option (Int32 × Mem) :=
  bd (Mo_isSheet v1 v2 M) fun r3 M1 =>
  if r3 = 0 then (some ((-1), M1)) else
  if v3 ≤ 40 then (if 0 ≤ v3 then (if ib v1 4 = true then (if ib v1 4 = true then (Mo_sheet_L40 FU v1 0 (wr (wr M1 46 (ix v1) v2) 47 (ix v1) v3)) else none) else none) else
  some ((-14), M1)) else
  some ((-1), M1)
def Mo_lay_b85  (s1 : Int32) (s2 : Int32) (M : Mem) : Option (Int32 × Mem) :=
  if ib s1 160 = true then (some (1, wr M 48 (ix s1) s2)) else none
def Mo_lay (v1 : Int32) (v2 : Int32) (v3 : Int32) (M : Mem) : Option (Int32 × Mem) :=
  bd (Mo_isSheet v1 0 M) fun r3 M1 =>
  if r3 = 0 then (some ((-1), M1)) else
  if ib v1 4 = true then (if (M1 46 (ix v1)) = (-4) then (some ((-11), M1)) else
  if ib v1 4 = true then (bd (Mo_in ((v2).toInt64) 0 ((((M1 47 (ix v1)) - 1)).toInt64) M1) fun r8 M6 =>
  if r8 = 0 then (some ((-12), M6)) else
  if ib v1 4 = true then (if (M6 46 (ix v1)) = 0 then (Mo_lay_b85 ((40 * v1) + v2) ((v3).toInt8.toInt32) M6) else
  if ib v1 4 = true then (if (M6 46 (ix v1)) = 1 then (Mo_lay_b85 ((40 * v1) + v2) ((v3).toInt16.toInt32) M6) else
  Mo_lay_b85 ((40 * v1) + v2) v3 M6) else none) else none) else none) else none
def Mo_read_b268  (v5 : Int32) (v6 : Int32) (M : Mem) : Option (Int32 × Mem) :=
  some (v6, wr M 32 28 v5)
def Mo_read_b262 (k62 : Int32 → Int32 → Int32 → Int32 → Int32 → Int32 → Int32 → Mem → Option (Int32 × Mem)) (v1 : Int32) (v2 : Int32) (v3 : Int32) (v4 : Int32) (v5 : Int32) (v6 : Int32) (v7 : Int32) (M : Mem) : Option (Int32 × Mem) :=
  k62 v1 v2 v3 v4 v5 v6 (v7 + 1) M
def Mo_read_L226 (k62 : Int32 → Int32 → Int32 → Int32 → Int32 → Int32 → Int32 → Mem → Option (Int32 × Mem)) : Nat → Int32 → Int32 → Mem → Option (Int32 × Mem)
  | 0, _, _, _ => none
  | n + 1, v7, v9, M => if 35 ≤ v9 then (some (((-20) - v7), M)) else
  if ib v9 35 = true then (if ib v9 35 = true then (Mo_read_L226 k62 n v7 (v9 + 1) (wr M 33 (ix v9) (M 49 (ix v9)))) else none) else none
def Mo_read_b164 (k62 : Int32 → Int32 → Int32 → Int32 → Int32 → Int32 → Int32 → Mem → Option (Int32 × Mem)) (v1 : Int32) (v2 : Int32) (v3 : Int32) (v4 : Int32) (v5 : Int32) (v6 : Int32) (v7 : Int32) (M : Mem) : Option (Int32 × Mem) :=
  if v5 = 0 then (if ib (((40 * v1) + v3) + (4 * v7)) 160 = true then (if ib ((((40 * v1) + v3) + (4 * v7)) + 1) 160 = true then (if ib ((((40 * v1) + v3) + (4 * v7)) + 2) 160 = true then (if ib ((((40 * v1) + v3) + (4 * v7)) + 3) 160 = true then (bd (Mo_set (M 48 (ix (((40 * v1) + v3) + (4 * v7)))) (M 48 (ix ((((40 * v1) + v3) + (4 * v7)) + 1))) (M 48 (ix ((((40 * v1) + v3) + (4 * v7)) + 2))) (M 48 (ix ((((40 * v1) + v3) + (4 * v7)) + 3))) M) fun r7 M5 =>
  if 0 ≤ r7 then (Mo_read_b262 k62 v1 v2 v3 v4 v5 (v6 + 1) v7 M5) else
  Mo_read_L226 k62 FU v7 0 M5) else none) else none) else none) else none) else
  Mo_read_b262 k62 v1 v2 v3 v4 v5 v6 v7 M
def Mo_read_b156 (k62 : Int32 → Int32 → Int32 → Int32 → Int32 → Int32 → Int32 → Mem → Option (Int32 × Mem)) (k77 : Int32 → Int32 → Int32 → Int32 → Int32 → Int32 → Int32 → Int32 → Mem → Option (Int32 × Mem)) (v1 : Int32) (v2 : Int32) (v3 : Int32) (v4 : Int32) (v6 : Int32) (v7 : Int32) (v8 : Int32) (s0 : Int32) (M : Mem) : Option (Int32 × Mem) :=
  k77 v1 v2 v3 v4 s0 v6 v7 (v8 + 1) M
def Mo_read_b151 (k62 : Int32 → Int32 → Int32 → Int32 → Int32 → Int32 → Int32 → Mem → Option (Int32 × Mem)) (k77 : Int32 → Int32 → Int32 → Int32 → Int32 → Int32 → Int32 → Int32 → Mem → Option (Int32 × Mem)) (v1 : Int32) (v2 : Int32) (v3 : Int32) (v4 : Int32) (v6 : Int32) (v7 : Int32) (v8 : Int32) (M : Mem) : Option (Int32 × Mem) :=
  Mo_read_b156 k62 k77 v1 v2 v3 v4 v6 v7 v8 2 M
def Mo_read_L77 (k62 : Int32 → Int32 → Int32 → Int32 → Int32 → Int32 → Int32 → Mem → Option (Int32 × Mem)) : Nat → Int32 → Int32 → Int32 → Int32 → Int32 → Int32 → Int32 → Int32 → Mem → Option (Int32 × Mem)
  | 0, _, _, _, _, _, _, _, _, _ => none
  | n + 1, v1, v2, v3, v4, v5, v6, v7, v8, M => if 4 ≤ v8 then (Mo_read_b164 k62 v1 v2 v3 v4 v5 v6 v7 M) else
  if v5 = 0 then (if ib v1 4 = true then (if (M 46 (ix v1)) = (-4) then (Mo_read_b156 k62 (Mo_read_L77 k62 n) v1 v2 v3 v4 v6 v7 v8 1 M) else
  if ib v1 4 = true then (if (M 46 (ix v1)) = v2 then (if (lg_cmp ((((v3).toInt64) + (((4 * v7)).toInt64)) + ((v8).toInt64)) 0) < 0 then (Mo_read_b151 k62 (Mo_read_L77 k62 n) v1 v2 v3 v4 v6 v7 v8 M) else
  if ib v1 4 = true then (if (lg_cmp ((((v3).toInt64) + (((4 * v7)).toInt64)) + ((v8).toInt64)) (((M 47 (ix v1))).toInt64)) < 0 then (Mo_read_b156 k62 (Mo_read_L77 k62 n) v1 v2 v3 v4 v6 v7 v8 0 M) else
  Mo_read_b151 k62 (Mo_read_L77 k62 n) v1 v2 v3 v4 v6 v7 v8 M) else none) else
  Mo_read_b156 k62 (Mo_read_L77 k62 n) v1 v2 v3 v4 v6 v7 v8 3 M) else none) else none) else
  Mo_read_b164 k62 v1 v2 v3 v4 v5 v6 v7 M
def Mo_read_L62  : Nat → Int32 → Int32 → Int32 → Int32 → Int32 → Int32 → Int32 → Mem → Option (Int32 × Mem)
  | 0, _, _, _, _, _, _, _, _ => none
  | n + 1, v1, v2, v3, v4, v5, v6, v7, M => if v4 ≤ v7 then (Mo_read_b268 v5 v6 M) else
  if v5 = 0 then (Mo_read_L77 (Mo_read_L62 n) FU v1 v2 v3 v4 v5 v6 v7 0 M) else
  Mo_read_b268 v5 v6 M
def Mo_read_L26  : Nat → Int32 → Int32 → Int32 → Int32 → Int32 → Mem → Option (Int32 × Mem)
  | 0, _, _, _, _, _, _ => none
  | n + 1, v1, v2, v3, v4, v5, M => if 35 ≤ v5 then (Mo_read_L62 FU v1 v2 v3 v4 0 0 0 M) else
  if ib v5 35 = true then (if ib v5 35 = true then (Mo_read_L26 n v1 v2 v3 v4 (v5 + 1) (wr M 49 (ix v5) (M 33 (ix v5)))) else none) else none
def Mo_read (v1 : Int32) (v2 : Int32) (v3 : Int32) (v4 : Int32) (M : Mem) : Option (Int32 × Mem) :=
  bd (Mo_isSheet v1 v2 M) fun r3 M1 =>
  if r3 = 0 then (some ((-1), M1)) else
  bd (Mo_in ((v4).toInt64) 0 10 M1) fun r6 M4 =>
  if r6 = 0 then (some ((-1), M4)) else
  Mo_read_L26 FU v1 v2 v3 v4 0 M4
def Mo_torn  (M : Mem) : Option (Int32 × Mem) :=
  some ((M 32 28), M)
def Mo_sumOf_b67 (k5 : Int32 → Int32 → Int32 → Int32 → Mem → Option (Int32 × Mem)) (k19 : Int32 → Int32 → Int32 → Int32 → Int32 → Mem → Option (Int32 × Mem)) (v1 : Int32) (v2 : Int32) (v4 : Int32) (v5 : Int32) (s0 : Int32) (s1 : Int32) (M : Mem) : Option (Int32 × Mem) :=
  k19 v1 v2 (s0 + s1) v4 (v5 + 1) M
def Mo_sumOf_b52 (k5 : Int32 → Int32 → Int32 → Int32 → Mem → Option (Int32 × Mem)) (k19 : Int32 → Int32 → Int32 → Int32 → Int32 → Mem → Option (Int32 × Mem)) (v1 : Int32) (v2 : Int32) (v4 : Int32) (v5 : Int32) (s0 : Int32) (s1 : Int32) (M : Mem) : Option (Int32 × Mem) :=
  bd (Mo_flag s1 M) fun r3 M1 =>
  Mo_sumOf_b67 k5 k19 v1 v2 v4 v5 s0 r3 M1
def Mo_sumOf_L19 (k5 : Int32 → Int32 → Int32 → Int32 → Mem → Option (Int32 × Mem)) : Nat → Int32 → Int32 → Int32 → Int32 → Int32 → Mem → Option (Int32 × Mem)
  | 0, _, _, _, _, _, _ => none
  | n + 1, v1, v2, v3, v4, v5, M => if (M 33 2) ≤ v5 then (k5 v1 v2 v3 (v4 + 1) M) else
  if v2 = 0 then (bd (Mo_of v1 v4 v5 M) fun r3 M1 =>
  Mo_sumOf_b67 k5 (Mo_sumOf_L19 k5 n) v1 v2 v4 v5 v3 r3 M1) else
  bd (Mo_of v1 v4 v5 M) fun r6 M4 =>
  if r6 = 0 then (Mo_sumOf_b52 k5 (Mo_sumOf_L19 k5 n) v1 v2 v4 v5 v3 0 M4) else
  Mo_sumOf_b52 k5 (Mo_sumOf_L19 k5 n) v1 v2 v4 v5 v3 1 M4
def Mo_sumOf_L5  : Nat → Int32 → Int32 → Int32 → Int32 → Mem → Option (Int32 × Mem)
  | 0, _, _, _, _, _ => none
  | n + 1, v1, v2, v3, v4, M => if (M 33 1) ≤ v4 then (some (v3, M)) else
  Mo_sumOf_L19 (Mo_sumOf_L5 n) FU v1 v2 v3 v4 0 M
def Mo_sumOf (v1 : Int32) (v2 : Int32) (M : Mem) : Option (Int32 × Mem) :=
  Mo_sumOf_L5 FU v1 v2 0 0 M
def Mo_count (v1 : Int32) (M : Mem) : Option (Int32 × Mem) :=
  if v1 = 0 then (bd (Mo_flag (M 35 0) M) fun r3 M1 =>
  bd (Mo_flag (M1 35 1) M1) fun r6 M4 =>
  some ((r3 + r6), M4)) else
  if v1 = 1 then (bd (Mo_sumOf 0 1 M) fun r9 M7 =>
  bd (Mo_sumOf 1 1 M7) fun r12 M10 =>
  some ((r9 + r12), M10)) else
  if v1 = 2 then (some ((M 32 7), M)) else
  if v1 = 3 then (if (M 46 0) = (-4) then (some ((-4), M)) else
  some ((M 47 0), M)) else
  if v1 = 4 then (bd (Mo_sumOf 0 0 M) fun r15 M13 =>
  some (r15, M13)) else
  if v1 = 5 then (bd (Mo_sumOf 1 0 M) fun r18 M16 =>
  some (r18, M16)) else
  some ((-1), M)
