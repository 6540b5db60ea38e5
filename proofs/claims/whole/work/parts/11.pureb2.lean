def pX6_copyFrom (S : Ob) (Sa : Ob)   : Option (Ob) :=
  some (sI (sI (sI (sI (sI (sA (sA (sA (sA (sA (sA (sA S 0 (va_cpy (oA Sa 0) (oA S 0) 0 0 48)) 1 (va_cpy (oA Sa 1) (oA (sA S 0 (va_cpy (oA Sa 0) (oA S 0) 0 0 48)) 1) 0 0 6)) 2 (va_cpy (oA Sa 2) (oA (sA (sA S 0 (va_cpy (oA Sa 0) (oA S 0) 0 0 48)) 1 (va_cpy (oA Sa 1) (oA (sA S 0 (va_cpy (oA Sa 0) (oA S 0) 0 0 48)) 1) 0 0 6)) 2) 0 0 6)) 3 (va_cpy (oA Sa 3) (oA (sA (sA (sA S 0 (va_cpy (oA Sa 0) (oA S 0) 0 0 48)) 1 (va_cpy (oA Sa 1) (oA (sA S 0 (va_cpy (oA Sa 0) (oA S 0) 0 0 48)) 1) 0 0 6)) 2 (va_cpy (oA Sa 2) (oA (sA (sA S 0 (va_cpy (oA Sa 0) (oA S 0) 0 0 48)) 1 (va_cpy (oA Sa 1) (oA (sA S 0 (va_cpy (oA Sa 0) (oA S 0) 0 0 48)) 1) 0 0 6)) 2) 0 0 6)) 3) 0 0 8)) 4 (va_cpy (oA Sa 4) (oA (sA (sA (sA (sA S 0 (va_cpy (oA Sa 0) (oA S 0) 0 0 48)) 1 (va_cpy (oA Sa 1) (oA (sA S 0 (va_cpy (oA Sa 0) (oA S 0) 0 0 48)) 1) 0 0 6)) 2 (va_cpy (oA Sa 2) (oA (sA (sA S 0 (va_cpy (oA Sa 0) (oA S 0) 0 0 48)) 1 (va_cpy (oA Sa 1) (oA (sA S 0 (va_cpy (oA Sa 0) (oA S 0) 0 0 48)) 1) 0 0 6)) 2) 0 0 6)) 3 (va_cpy (oA Sa 3) (oA (sA (sA (sA S 0 (va_cpy (oA Sa 0) (oA S 0) 0 0 48)) 1 (va_cpy (oA Sa 1) (oA (sA S 0 (va_cpy (oA Sa 0) (oA S 0) 0 0 48)) 1) 0 0 6)) 2 (va_cpy (oA Sa 2) (oA (sA (sA S 0 (va_cpy (oA Sa 0) (oA S 0) 0 0 48)) 1 (va_cpy (oA Sa 1) (oA (sA S 0 (va_cpy (oA Sa 0) (oA S 0) 0 0 48)) 1) 0 0 6)) 2) 0 0 6)) 3) 0 0 8)) 4) 0 0 8)) 5 (va_cpy (oA Sa 5) (oA (sA (sA (sA (sA (sA S 0 (va_cpy (oA Sa 0) (oA S 0) 0 0 48)) 1 (va_cpy (oA Sa 1) (oA (sA S 0 (va_cpy (oA Sa 0) (oA S 0) 0 0 48)) 1) 0 0 6)) 2 (va_cpy (oA Sa 2) (oA (sA (sA S 0 (va_cpy (oA Sa 0) (oA S 0) 0 0 48)) 1 (va_cpy (oA Sa 1) (oA (sA S 0 (va_cpy (oA Sa 0) (oA S 0) 0 0 48)) 1) 0 0 6)) 2) 0 0 6)) 3 (va_cpy (oA Sa 3) (oA (sA (sA (sA S 0 (va_cpy (oA Sa 0) (oA S 0) 0 0 48)) 1 (va_cpy (oA Sa 1) (oA (sA S 0 (va_cpy (oA Sa 0) (oA S 0) 0 0 48)) 1) 0 0 6)) 2 (va_cpy (oA Sa 2) (oA (sA (sA S 0 (va_cpy (oA Sa 0) (oA S 0) 0 0 48)) 1 (va_cpy (oA Sa 1) (oA (sA S 0 (va_cpy (oA Sa 0) (oA S 0) 0 0 48)) 1) 0 0 6)) 2) 0 0 6)) 3) 0 0 8)) 4 (va_cpy (oA Sa 4) (oA (sA (sA (sA (sA S 0 (va_cpy (oA Sa 0) (oA S 0) 0 0 48)) 1 (va_cpy (oA Sa 1) (oA (sA S 0 (va_cpy (oA Sa 0) (oA S 0) 0 0 48)) 1) 0 0 6)) 2 (va_cpy (oA Sa 2) (oA (sA (sA S 0 (va_cpy (oA Sa 0) (oA S 0) 0 0 48)) 1 (va_cpy (oA Sa 1) (oA (sA S 0 (va_cpy (oA Sa 0) (oA S 0) 0 0 48)) 1) 0 0 6)) 2) 0 0 6)) 3 (va_cpy (oA Sa 3) (oA (sA (sA (sA S 0 (va_cpy (oA Sa 0) (oA S 0) 0 0 48)) 1 (va_cpy (oA Sa 1) (oA (sA S 0 (va_cpy (oA Sa 0) (oA S 0) 0 0 48)) 1) 0 0 6)) 2 (va_cpy (oA Sa 2) (oA (sA (sA S 0 (va_cpy (oA Sa 0) (oA S 0) 0 0 48)) 1 (va_cpy (oA Sa 1) (oA (sA S 0 (va_cpy (oA Sa 0) (oA S 0) 0 0 48)) 1) 0 0 6)) 2) 0 0 6)) 3) 0 0 8)) 4) 0 0 8)) 5) 0 0 4)) 6 (va_cpy (oA Sa 6) (oA (sA (sA (sA (sA (sA (sA S 0 (va_cpy (oA Sa 0) (oA S 0) 0 0 48)) 1 (va_cpy (oA Sa 1) (oA (sA S 0 (va_cpy (oA Sa 0) (oA S 0) 0 0 48)) 1) 0 0 6)) 2 (va_cpy (oA Sa 2) (oA (sA (sA S 0 (va_cpy (oA Sa 0) (oA S 0) 0 0 48)) 1 (va_cpy (oA Sa 1) (oA (sA S 0 (va_cpy (oA Sa 0) (oA S 0) 0 0 48)) 1) 0 0 6)) 2) 0 0 6)) 3 (va_cpy (oA Sa 3) (oA (sA (sA (sA S 0 (va_cpy (oA Sa 0) (oA S 0) 0 0 48)) 1 (va_cpy (oA Sa 1) (oA (sA S 0 (va_cpy (oA Sa 0) (oA S 0) 0 0 48)) 1) 0 0 6)) 2 (va_cpy (oA Sa 2) (oA (sA (sA S 0 (va_cpy (oA Sa 0) (oA S 0) 0 0 48)) 1 (va_cpy (oA Sa 1) (oA (sA S 0 (va_cpy (oA Sa 0) (oA S 0) 0 0 48)) 1) 0 0 6)) 2) 0 0 6)) 3) 0 0 8)) 4 (va_cpy (oA Sa 4) (oA (sA (sA (sA (sA S 0 (va_cpy (oA Sa 0) (oA S 0) 0 0 48)) 1 (va_cpy (oA Sa 1) (oA (sA S 0 (va_cpy (oA Sa 0) (oA S 0) 0 0 48)) 1) 0 0 6)) 2 (va_cpy (oA Sa 2) (oA (sA (sA S 0 (va_cpy (oA Sa 0) (oA S 0) 0 0 48)) 1 (va_cpy (oA Sa 1) (oA (sA S 0 (va_cpy (oA Sa 0) (oA S 0) 0 0 48)) 1) 0 0 6)) 2) 0 0 6)) 3 (va_cpy (oA Sa 3) (oA (sA (sA (sA S 0 (va_cpy (oA Sa 0) (oA S 0) 0 0 48)) 1 (va_cpy (oA Sa 1) (oA (sA S 0 (va_cpy (oA Sa 0) (oA S 0) 0 0 48)) 1) 0 0 6)) 2 (va_cpy (oA Sa 2) (oA (sA (sA S 0 (va_cpy (oA Sa 0) (oA S 0) 0 0 48)) 1 (va_cpy (oA Sa 1) (oA (sA S 0 (va_cpy (oA Sa 0) (oA S 0) 0 0 48)) 1) 0 0 6)) 2) 0 0 6)) 3) 0 0 8)) 4) 0 0 8)) 5 (va_cpy (oA Sa 5) (oA (sA (sA (sA (sA (sA S 0 (va_cpy (oA Sa 0) (oA S 0) 0 0 48)) 1 (va_cpy (oA Sa 1) (oA (sA S 0 (va_cpy (oA Sa 0) (oA S 0) 0 0 48)) 1) 0 0 6)) 2 (va_cpy (oA Sa 2) (oA (sA (sA S 0 (va_cpy (oA Sa 0) (oA S 0) 0 0 48)) 1 (va_cpy (oA Sa 1) (oA (sA S 0 (va_cpy (oA Sa 0) (oA S 0) 0 0 48)) 1) 0 0 6)) 2) 0 0 6)) 3 (va_cpy (oA Sa 3) (oA (sA (sA (sA S 0 (va_cpy (oA Sa 0) (oA S 0) 0 0 48)) 1 (va_cpy (oA Sa 1) (oA (sA S 0 (va_cpy (oA Sa 0) (oA S 0) 0 0 48)) 1) 0 0 6)) 2 (va_cpy (oA Sa 2) (oA (sA (sA S 0 (va_cpy (oA Sa 0) (oA S 0) 0 0 48)) 1 (va_cpy (oA Sa 1) (oA (sA S 0 (va_cpy (oA Sa 0) (oA S 0) 0 0 48)) 1) 0 0 6)) 2) 0 0 6)) 3) 0 0 8)) 4 (va_cpy (oA Sa 4) (oA (sA (sA (sA (sA S 0 (va_cpy (oA Sa 0) (oA S 0) 0 0 48)) 1 (va_cpy (oA Sa 1) (oA (sA S 0 (va_cpy (oA Sa 0) (oA S 0) 0 0 48)) 1) 0 0 6)) 2 (va_cpy (oA Sa 2) (oA (sA (sA S 0 (va_cpy (oA Sa 0) (oA S 0) 0 0 48)) 1 (va_cpy (oA Sa 1) (oA (sA S 0 (va_cpy (oA Sa 0) (oA S 0) 0 0 48)) 1) 0 0 6)) 2) 0 0 6)) 3 (va_cpy (oA Sa 3) (oA (sA (sA (sA S 0 (va_cpy (oA Sa 0) (oA S 0) 0 0 48)) 1 (va_cpy (oA Sa 1) (oA (sA S 0 (va_cpy (oA Sa 0) (oA S 0) 0 0 48)) 1) 0 0 6)) 2 (va_cpy (oA Sa 2) (oA (sA (sA S 0 (va_cpy (oA Sa 0) (oA S 0) 0 0 48)) 1 (va_cpy (oA Sa 1) (oA (sA S 0 (va_cpy (oA Sa 0) (oA S 0) 0 0 48)) 1) 0 0 6)) 2) 0 0 6)) 3) 0 0 8)) 4) 0 0 8)) 5) 0 0 4)) 6) 0 0 4)) 7 (oI Sa 7)) 8 (oI Sa 8)) 9 (oI Sa 9)) 10 (oI Sa 10)) 11 (oI Sa 11))
def pX5_copyFrom_l2 (Sa : Ob) : Nat → Int32 → Ob → Option (Ob)
  | 0, _, _ => none
  | n + 1, l2, S =>
    if (40 : Int32) ≤ l2 then
      some S
    else
      gd (inB l2 40) (gd (wOk (oX Sa 0 l2.toNatClampNeg)) (gd (inB l2 40) ((pX5_copyFrom_l2  Sa n) (l2 + (1 : Int32)) (sX S 0 (va_up (oX S 0) l2.toNatClampNeg (oX Sa 0 l2.toNatClampNeg))))))
def pX5_copyFrom (S : Ob) (Sa : Ob)   : Option (Ob) :=
  (pX5_copyFrom_l2 Sa fu (0 : Int32) S).bind fun r5 =>
  some (sI (sI (sA (sA r5 1 (va_cpy (oA Sa 1) (oA r5 1) 0 0 40)) 2 (va_cpy (oA Sa 2) (oA (sA r5 1 (va_cpy (oA Sa 1) (oA r5 1) 0 0 40)) 2) 0 0 40)) 3 (oI Sa 3)) 4 (oI Sa 4))
def pX1_keep (S : Ob) (Sa : Ob) (Sb : Ob) (Sc : Ob) (I0 : Ob) (I1 : Ob) (I2 : Ob)   : Option (Ob × Ob × Ob × Ob) :=
  (pX4_copyFrom I0 Sa).bind fun r1 =>
  (pX6_copyFrom I1 Sb).bind fun r3 =>
  (pX5_copyFrom I2 Sc).bind fun r5 =>
  some (sI S 3 (1 : Int32), r1, r3, r5)
def pX1_bringBack (S : Ob) (Sa : Ob) (Sb : Ob) (Sc : Ob) (I0 : Ob) (I1 : Ob) (I2 : Ob)   : Option (Ob × Ob × Ob) :=
  (pX4_copyFrom Sa I0).bind fun r1 =>
  (pX6_copyFrom Sb I1).bind fun r3 =>
  (pX5_copyFrom Sc I2).bind fun r5 =>
  some (r1, r3, r5)
def pX2_keep (S : Ob) (Sa : Ob) (K : (Nat → Ob))   : Option (Ob × (Nat → Ob)) :=
  gd (inB (oI S 1) 8) (
    gd (inB (oI S 1) 8) (
      (pX6_copyFrom (K (oI S 1).toNatClampNeg) Sa).bind fun r5 =>
      some (sI (sI S 1 (((oI S 1) + (1 : Int32)) - ((oI S 1) + (1 : Int32)) / (8 : Int32) * (8 : Int32))) 2 (if (8 : Int32) < ((oI (sI S 1 (((oI S 1) + (1 : Int32)) - ((oI S 1) + (1 : Int32)) / (8 : Int32) * (8 : Int32))) 2) + (1 : Int32)) then (8 : Int32) else ((oI (sI S 1 (((oI S 1) + (1 : Int32)) - ((oI S 1) + (1 : Int32)) / (8 : Int32) * (8 : Int32))) 2) + (1 : Int32))), va_up K (oI S 1).toNatClampNeg r5)))
def pX2_takeBack (S : Ob) (Sa : Ob) (K : (Nat → Ob))   : Option (Int32 × Ob × Ob) :=
  if oI S 2 = 0 then
    some ((-1 : Int32), S, Sa)
  else
    gd (inB ((((oI S 1) + (8 : Int32)) - (1 : Int32)) - (((oI S 1) + (8 : Int32)) - (1 : Int32)) / (8 : Int32) * (8 : Int32)) 8) (
      gd (inB ((((oI S 1) + (8 : Int32)) - (1 : Int32)) - (((oI S 1) + (8 : Int32)) - (1 : Int32)) / (8 : Int32) * (8 : Int32)) 8) (
        (pX6_copyFrom Sa (K ((((oI S 1) + (8 : Int32)) - (1 : Int32)) - (((oI S 1) + (8 : Int32)) - (1 : Int32)) / (8 : Int32) * (8 : Int32)).toNatClampNeg)).bind fun r6 =>
        some (oI (sI (sI S 1 ((((oI S 1) + (8 : Int32)) - (1 : Int32)) - (((oI S 1) + (8 : Int32)) - (1 : Int32)) / (8 : Int32) * (8 : Int32))) 2 ((oI (sI S 1 ((((oI S 1) + (8 : Int32)) - (1 : Int32)) - (((oI S 1) + (8 : Int32)) - (1 : Int32)) / (8 : Int32) * (8 : Int32))) 2) - (1 : Int32))) 2, sI (sI S 1 ((((oI S 1) + (8 : Int32)) - (1 : Int32)) - (((oI S 1) + (8 : Int32)) - (1 : Int32)) / (8 : Int32) * (8 : Int32))) 2 ((oI (sI S 1 ((((oI S 1) + (8 : Int32)) - (1 : Int32)) - (((oI S 1) + (8 : Int32)) - (1 : Int32)) / (8 : Int32) * (8 : Int32))) 2) - (1 : Int32)), r6)))
def pX2_forget (S : Ob)   : Option (Ob) :=
  some (sI S 2 (0 : Int32))
def pX6_allHolds_l5 (S : Ob) (Sa : Ob) (l2 : Int32) : Nat → Int32 → Int32 → Option (Int32)
  | 0, _, _ => none
  | n + 1, l3, l4 =>
    gd (inB l2 6) (
      if oA S 1 l2.toNatClampNeg ≤ l4 then
        some l3
      else
        (pX6_holdAt S Sa l2 l4).bind fun r3 =>
        (pX6_allHolds_l5  S Sa l2 n) (l3 + r3) (l4 + (1 : Int32)))
def pX6_allHolds (S : Ob) (Sa : Ob)  (b : Int32) : Option (Int32) :=
  (pX6_allHolds_l5 S Sa b fu (0 : Int32) (0 : Int32)).bind fun r5 =>
  some r5
def pX3_fewestStrokes_j104 (rec : Int32 → Int32 → Int32 → Int32 → Option (Int32)) (S : Ob) (Sa : Ob) (Sb : Ob) (l3 : Int32) (l4 : Int32) (l5 : Int32) (l6 : Int32) (l7 : Int32) (l8 : Int32) (l9 : Int32) : Option (Int32) :=
  rec l4 (l5 - l9) (l6 - l8) (l7 + (1 : Int32))
def pX3_fewestStrokes_l41 (S : Ob) (Sa : Ob) (Sb : Ob) (l3 : Int32) : Nat → Int32 → Int32 → Int32 → Int32 → Option (Int32)
  | 0, _, _, _, _ => none
  | n + 1, l4, l5, l6, l7 =>
    if (8 : Int32) ≤ l7 then
      some l4
    else
      if l6 ≤ 0 then
        some l4
      else
        (pX6_knotBelow Sb l3 l6).bind fun r9 =>
        (pX6_holdAt Sb Sa l3 (l6 - (1 : Int32))).bind fun r11 =>
        if r9 * r11 ≤ oI Sa 14 then
          if r9 * r11 ≤ l5 then
            pX3_fewestStrokes_j104 (pX3_fewestStrokes_l41  S Sa Sb l3 n) S Sa Sb l3 l4 l5 l6 l7 r9 (r9 * r11)
          else
            pX3_fewestStrokes_j104 (pX3_fewestStrokes_l41  S Sa Sb l3 n) S Sa Sb l3 (l4 + (1 : Int32)) (oI Sa 14) l6 l7 r9 (r9 * r11)
        else
          some (-1 : Int32)
def pX3_fewestStrokes (S : Ob) (Sa : Ob) (Sb : Ob)  (c : Int32) : Option (Int32) :=
  (pX6_allHolds Sb Sa c).bind fun r1 =>
  gd (inB c 6) (
    gd (inB c 6) (
      if r1 ≤ (oA Sa 6 c.toNatClampNeg) - (oA Sb 2 c.toNatClampNeg) then
        gd (inB c 6) (pX3_fewestStrokes_l41 S Sa Sb c fu (0 : Int32) (0 : Int32) (oA Sb 1 c.toNatClampNeg) (0 : Int32))
      else
        some (-1 : Int32)))
def pX3_caughtOn_l6 (S : Ob) (Sa : Ob) (l2 : Int32) (l3 : Int32) : Nat → Int32 → Int32 → Option (Int32)
  | 0, _, _ => none
  | n + 1, l4, l5 =>
    if oI Sa 7 ≤ l5 then
      some l4
    else
      gd (inB l5 12) (
        if oA Sa 8 l5.toNatClampNeg = l2 then
          (pX4_catchesOn Sa l5 l3).bind fun r4 =>
          if r4 = 0 then
            (pX3_caughtOn_l6  S Sa l2 l3 n) l4 (l5 + (1 : Int32))
          else
            (pX3_caughtOn_l6  S Sa l2 l3 n) (l4 + (1 : Int32)) (l5 + (1 : Int32))
        else
          (pX3_caughtOn_l6  S Sa l2 l3 n) l4 (l5 + (1 : Int32)))
def pX3_caughtOn (S : Ob) (Sa : Ob)  (b : Int32) (c : Int32) : Option (Int32) :=
  (pX3_caughtOn_l6 S Sa b c fu (0 : Int32) (0 : Int32)).bind fun r7 =>
  some r7
def pX3_daysToNest_j41 (rec : Int32 → Int32 → Option (Int32)) (S : Ob) (Sa : Ob) (Sb : Ob) (l3 : Int32) (l4 : Int32) (l5 : Int32) : Option (Int32) :=
  if l4 < (8 : Int32) then
    rec l4 (l5 + (1 : Int32))
  else
    some l5
def pX3_daysToNest_l11 (S : Ob) (Sa : Ob) (Sb : Ob) (l3 : Int32) : Nat → Int32 → Int32 → Option (Int32)
  | 0, _, _ => none
  | n + 1, l4, l5 =>
    if (99 : Int32) < l5 then
      some (-1 : Int32)
    else
      if l5 ≤ 0 then
        pX3_daysToNest_j41 (pX3_daysToNest_l11  S Sa Sb l3 n) S Sa Sb l3 l4 l5
      else
        (pX3_caughtOn S Sa l3 ((oI Sb 8) + l5)).bind fun r5 =>
        pX3_daysToNest_j41 (pX3_daysToNest_l11  S Sa Sb l3 n) S Sa Sb l3 (l4 + r5) l5
def pX3_daysToNest (S : Ob) (Sa : Ob) (Sb : Ob)  (c : Int32) : Option (Int32) :=
  gd (inB c 6) (pX3_daysToNest_l11 S Sa Sb c fu (oA Sb 1 c.toNatClampNeg) (0 : Int32))
def pX3_roundCost_l5 (S : Ob) (Sa : Ob) (l2 : Int32) : Nat → Int32 → Int32 → Option (Int32)
  | 0, _, _ => none
  | n + 1, l3, l4 =>
    if oI Sa 4 ≤ l4 then
      some l3
    else
      if (l2 >>> (l4 &&& 31)) &&& (1 : Int32) = (1 : Int32) then
        gd (inB l4 6) (
          if oA S 6 l4.toNatClampNeg = (-1 : Int32) then
            some (-1 : Int32)
          else
            gd (inB l4 6) ((pX3_roundCost_l5  S Sa l2 n) (l3 + (oA S 6 l4.toNatClampNeg)) (l4 + (1 : Int32))))
      else
        (pX3_roundCost_l5  S Sa l2 n) l3 (l4 + (1 : Int32))
def pX3_roundCost (S : Ob) (Sa : Ob)  (b : Int32) : Option (Int32) :=
  pX3_roundCost_l5 S Sa b fu (0 : Int32) (0 : Int32)
def pJ6_bitCount_0f7a4   (a : Int32) : Option (Int32) :=
  some ((((((((a - ((ushr32 a (1 : Int32)) &&& (1431655765 : Int32))) &&& (858993459 : Int32)) + ((ushr32 (a - ((ushr32 a (1 : Int32)) &&& (1431655765 : Int32))) (2 : Int32)) &&& (858993459 : Int32))) + (ushr32 (((a - ((ushr32 a (1 : Int32)) &&& (1431655765 : Int32))) &&& (858993459 : Int32)) + ((ushr32 (a - ((ushr32 a (1 : Int32)) &&& (1431655765 : Int32))) (2 : Int32)) &&& (858993459 : Int32))) (4 : Int32))) &&& (252645135 : Int32)) + (ushr32 (((((a - ((ushr32 a (1 : Int32)) &&& (1431655765 : Int32))) &&& (858993459 : Int32)) + ((ushr32 (a - ((ushr32 a (1 : Int32)) &&& (1431655765 : Int32))) (2 : Int32)) &&& (858993459 : Int32))) + (ushr32 (((a - ((ushr32 a (1 : Int32)) &&& (1431655765 : Int32))) &&& (858993459 : Int32)) + ((ushr32 (a - ((ushr32 a (1 : Int32)) &&& (1431655765 : Int32))) (2 : Int32)) &&& (858993459 : Int32))) (4 : Int32))) &&& (252645135 : Int32)) (8 : Int32))) + (ushr32 ((((((a - ((ushr32 a (1 : Int32)) &&& (1431655765 : Int32))) &&& (858993459 : Int32)) + ((ushr32 (a - ((ushr32 a (1 : Int32)) &&& (1431655765 : Int32))) (2 : Int32)) &&& (858993459 : Int32))) + (ushr32 (((a - ((ushr32 a (1 : Int32)) &&& (1431655765 : Int32))) &&& (858993459 : Int32)) + ((ushr32 (a - ((ushr32 a (1 : Int32)) &&& (1431655765 : Int32))) (2 : Int32)) &&& (858993459 : Int32))) (4 : Int32))) &&& (252645135 : Int32)) + (ushr32 (((((a - ((ushr32 a (1 : Int32)) &&& (1431655765 : Int32))) &&& (858993459 : Int32)) + ((ushr32 (a - ((ushr32 a (1 : Int32)) &&& (1431655765 : Int32))) (2 : Int32)) &&& (858993459 : Int32))) + (ushr32 (((a - ((ushr32 a (1 : Int32)) &&& (1431655765 : Int32))) &&& (858993459 : Int32)) + ((ushr32 (a - ((ushr32 a (1 : Int32)) &&& (1431655765 : Int32))) (2 : Int32)) &&& (858993459 : Int32))) (4 : Int32))) &&& (252645135 : Int32)) (8 : Int32))) (16 : Int32))) &&& (63 : Int32))
def pX3_bestRound_j39 (rec : Int32 → Ob → Option (Ob)) (S : Ob) (Sa : Ob) (Sb : Ob) (l3 : Int32) (l4 : Int32) (s0 : Int32) : Option (Ob) :=
  if s0 = 0 then
    gd (inB l4 6) (rec (l4 + (1 : Int32)) (sA S 6 (va_up (oA S 6) l4.toNatClampNeg (-1 : Int32))))
  else
    (pX6_allHolds Sb Sa l4).bind fun r6 =>
    gd (inB l4 6) (rec (l4 + (1 : Int32)) (sA S 6 (va_up (oA S 6) l4.toNatClampNeg r6)))
def pX3_bestRound_j38 (rec : Int32 → Ob → Option (Ob)) (S : Ob) (Sa : Ob) (Sb : Ob) (l3 : Int32) (l4 : Int32) : Option (Ob) :=
  pX3_bestRound_j39 rec S Sa Sb l3 l4 (0 : Int32)
def pX3_bestRound_l3 (Sa : Ob) (Sb : Ob) (l3 : Int32) : Nat → Int32 → Ob → Option (Ob)
  | 0, _, _ => none
  | n + 1, l4, S =>
    if oI Sa 4 ≤ l4 then
      some S
    else
      gd (inB l4 6) (
        if oA Sb 1 l4.toNatClampNeg ≤ 0 then
          pX3_bestRound_j38 (pX3_bestRound_l3  Sa Sb l3 n) S Sa Sb l3 l4
        else
          (pX3_fewestStrokes S Sa Sb l4).bind fun r9 =>
          if r9 = (-1 : Int32) then
            pX3_bestRound_j38 (pX3_bestRound_l3  Sa Sb l3 n) S Sa Sb l3 l4
          else
            pX3_bestRound_j39 (pX3_bestRound_l3  Sa Sb l3 n) S Sa Sb l3 l4 (1 : Int32))
def pX3_bestRound_j141 (rec : Int32 → Int32 → Int32 → Option (Int32)) (S : Ob) (Sa : Ob) (Sb : Ob) (l3 : Int32) (l4 : Int32) (l6 : Int32) (l7 : Int32) : Option (Int32) :=
  rec l6 l7 (l6 + (1 : Int32))
def pX3_bestRound_l79 (S : Ob) (Sa : Ob) (Sb : Ob) (l3 : Int32) : Nat → Int32 → Int32 → Int32 → Option (Int32)
  | 0, _, _, _ => none
  | n + 1, l4, l5, l6 =>
    if (1 : Int32) <<< ((oI Sa 4) &&& 31) ≤ l6 then
      some l4
    else
      (pX3_roundCost S Sa l6).bind fun r15 =>
      (pJ6_bitCount_0f7a4 l6).bind fun r17 =>
      (pJ6_bitCount_0f7a4 l4).bind fun r19 =>
      if r15 = (-1 : Int32) then
        (pX3_bestRound_l79  S Sa Sb l3 n) l4 l5 (l6 + (1 : Int32))
      else
        if l3 < r15 then
          (pX3_bestRound_l79  S Sa Sb l3 n) l4 l5 (l6 + (1 : Int32))
        else
          if 0 < r17 - r19 then
            pX3_bestRound_j141 (pX3_bestRound_l79  S Sa Sb l3 n) S Sa Sb l3 l4 l6 r15
          else
            if r17 - r19 = 0 then
              if l5 ≤ r15 then
                (pX3_bestRound_l79  S Sa Sb l3 n) l4 l5 (l6 + (1 : Int32))
              else
                pX3_bestRound_j141 (pX3_bestRound_l79  S Sa Sb l3 n) S Sa Sb l3 l4 l6 r15
            else
              (pX3_bestRound_l79  S Sa Sb l3 n) l4 l5 (l6 + (1 : Int32))
def pX3_bestRound (S : Ob) (Sa : Ob) (Sb : Ob)  (c : Int32) : Option (Int32 × Ob) :=
  (pX3_bestRound_l3 Sa Sb c fu (0 : Int32) S).bind fun r12 =>
  (pX3_bestRound_l79 r12 Sa Sb c fu (0 : Int32) (0 : Int32) (1 : Int32)).bind fun r26 =>
  some (r26, r12)
def pX3_listBag_j98 (rec : Int32 → Ob → Option (Ob)) (S : Ob) (Sa : Ob) (Sb : Ob) (l3 : Int32) (l4 : Int32) (s1 : Int32) (s2 : Int32) : Option (Ob) :=
  rec (l4 + (1 : Int32)) (sI (sI S 4 (s1 ||| s2)) 2 ((oI (sI S 4 (s1 ||| s2)) 2) + (1 : Int32)))
def pX3_listBag_l28 (Sa : Ob) (Sb : Ob) (l3 : Int32) : Nat → Int32 → Ob → Option (Ob)
  | 0, _, _ => none
  | n + 1, l4, S =>
    gd (inB l3 8) (
      if oA Sb 3 l3.toNatClampNeg ≤ l4 then
        some S
      else
        if (10 : Int32) ≤ oI S 2 then
          some S
        else
          gd (inB l3 8) (
            gd (inB (oI S 2) 10) (
              gd (inB l3 8) (
                if l4 ≤ 0 then
                  pX3_listBag_j98 (pX3_listBag_l28  Sa Sb l3 n) (sI (sA S 1 (va_up (oA S 1) ((oI S 2).toNatClampNeg) (oA Sa 3 l3.toNatClampNeg))) 3 ((oI (sA S 1 (va_up (oA S 1) ((oI S 2).toNatClampNeg) (oA Sa 3 l3.toNatClampNeg))) 3) + (oA Sa 3 l3.toNatClampNeg))) Sa Sb l3 l4 (oI (sI (sA S 1 (va_up (oA S 1) ((oI S 2).toNatClampNeg) (oA Sa 3 l3.toNatClampNeg))) 3 ((oI (sA S 1 (va_up (oA S 1) ((oI S 2).toNatClampNeg) (oA Sa 3 l3.toNatClampNeg))) 3) + (oA Sa 3 l3.toNatClampNeg))) 4) (0 : Int32)
                else
                  pX3_listBag_j98 (pX3_listBag_l28  Sa Sb l3 n) (sI (sA S 1 (va_up (oA S 1) ((oI S 2).toNatClampNeg) (oA Sa 3 l3.toNatClampNeg))) 3 ((oI (sA S 1 (va_up (oA S 1) ((oI S 2).toNatClampNeg) (oA Sa 3 l3.toNatClampNeg))) 3) + (oA Sa 3 l3.toNatClampNeg))) Sa Sb l3 l4 (oI (sI (sA S 1 (va_up (oA S 1) ((oI S 2).toNatClampNeg) (oA Sa 3 l3.toNatClampNeg))) 3 ((oI (sA S 1 (va_up (oA S 1) ((oI S 2).toNatClampNeg) (oA Sa 3 l3.toNatClampNeg))) 3) + (oA Sa 3 l3.toNatClampNeg))) 4) ((1 : Int32) <<< ((oI (sI (sA S 1 (va_up (oA S 1) ((oI S 2).toNatClampNeg) (oA Sa 3 l3.toNatClampNeg))) 3 ((oI (sA S 1 (va_up (oA S 1) ((oI S 2).toNatClampNeg) (oA Sa 3 l3.toNatClampNeg))) 3) + (oA Sa 3 l3.toNatClampNeg))) 2) &&& 31))))))
def pX3_listBag_l17 (Sa : Ob) (Sb : Ob) : Nat → Int32 → Ob → Option (Ob)
  | 0, _, _ => none
  | n + 1, l3, S =>
    if oI Sa 0 ≤ l3 then
      some S
    else
      (pX3_listBag_l28 Sa Sb l3 fu (0 : Int32) S).bind fun r9 =>
      (pX3_listBag_l17  Sa Sb n) (l3 + (1 : Int32)) r9
def pX3_listBag (S : Ob) (Sa : Ob) (Sb : Ob)   : Option (Ob) :=
  (pX3_listBag_l17 Sa Sb fu (0 : Int32) (sI (sI (sI S 2 (0 : Int32)) 3 (0 : Int32)) 4 (0 : Int32))).bind fun r11 =>
  some r11
def pX6_sleeps (S : Ob) (Sa : Ob)  (b : Int32) : Option (Int32) :=
  gd (inB b 4) (
    gd (inB b 4) (
      if oA S 5 b.toNatClampNeg < oA Sa 13 b.toNatClampNeg then
        some (0 : Int32)
      else
        some (1 : Int32)))
def pX6_allSleeping_l4 (S : Ob) (Sa : Ob) : Nat → Int32 → Int32 → Option (Int32)
  | 0, _, _ => none
  | n + 1, l2, l3 =>
    if oI Sa 11 ≤ l3 then
      some l2
    else
      (pX6_sleeps S Sa l3).bind fun r2 =>
      if r2 = 0 then
        (pX6_allSleeping_l4  S Sa n) l2 (l3 + (1 : Int32))
      else
        (pX6_allSleeping_l4  S Sa n) (l2 ||| ((1 : Int32) <<< (l3 &&& 31))) (l3 + (1 : Int32))
def pX6_allSleeping (S : Ob) (Sa : Ob)   : Option (Int32) :=
  (pX6_allSleeping_l4 S Sa fu (0 : Int32) (0 : Int32)).bind fun r5 =>
  some r5
def pX3_takesFirstOfLikeOnes (S : Ob)  (a : Int32) : Option (Int32) :=
  if (a &&& (oI S 4)) &&& ((a <<< ((1 : Int32) &&& 31)) ^^^ (-1 : Int32)) = 0 then
    some (1 : Int32)
  else
    some (0 : Int32)
def pX3_fillOn (S : Ob)  (a : Int32) (b : Int32) (c : Int32) : Option (Int32) :=
  if c ≤ a >>> ((7 : Int32) &&& 31) then
    some a
  else
    if a >>> ((7 : Int32) &&& 31) < (4 : Int32) then
      gd (inB (a >>> ((7 : Int32) &&& 31)) 4) (
        if (a &&& (127 : Int32)) + b < oA S 5 (a >>> ((7 : Int32) &&& 31)).toNatClampNeg then
          some (((a >>> ((7 : Int32) &&& 31)) <<< ((7 : Int32) &&& 31)) ||| ((a &&& (127 : Int32)) + b))
        else
          some (((a >>> ((7 : Int32) &&& 31)) + (1 : Int32)) <<< ((7 : Int32) &&& 31)))
    else
      some a
def pX3_bestFill_l5 (S : Ob) (l1 : Int32) (l2 : Int32) : Nat → Int32 → Int32 → Option (Int32)
  | 0, _, _ => none
  | n + 1, l3, l4 =>
    if oI S 2 ≤ l4 then
      some l3
    else
      if l1 &&& (((1 : Int32) <<< (l4 &&& 31)) ^^^ (-1 : Int32)) = l1 then
        (pX3_bestFill_l5  S l1 l2 n) l3 (l4 + (1 : Int32))
      else
        (pX3_takesFirstOfLikeOnes S (l1 &&& (((1 : Int32) <<< (l4 &&& 31)) ^^^ (-1 : Int32)))).bind fun r3 =>
        if r3 = 0 then
          (pX3_bestFill_l5  S l1 l2 n) l3 (l4 + (1 : Int32))
        else
          gd (inB (l1 &&& (((1 : Int32) <<< (l4 &&& 31)) ^^^ (-1 : Int32))) 1024) (
            gd (inB l4 10) (
              (pX3_fillOn S (oA S 0 (l1 &&& (((1 : Int32) <<< (l4 &&& 31)) ^^^ (-1 : Int32))).toNatClampNeg) (oA S 1 l4.toNatClampNeg) l2).bind fun r8 =>
              (pX3_bestFill_l5  S l1 l2 n) (if l3 < r8 then r8 else l3) (l4 + (1 : Int32))))
def pX3_bestFill (S : Ob)  (a : Int32) (b : Int32) : Option (Int32) :=
  (pX3_bestFill_l5 S a b fu (0 : Int32) (0 : Int32)).bind fun r10 =>
  some r10
def pX3_mostFilled_l18 (l1 : Int32) (l2 : Int32) : Nat → Int32 → Ob → Option (Ob)
  | 0, _, _ => none
  | n + 1, l3, S =>
    if l2 < l3 then
      some S
    else
      (pX3_takesFirstOfLikeOnes S l3).bind fun r2 =>
      if r2 = 0 then
        (pX3_mostFilled_l18  l1 l2 n) (l3 + (1 : Int32)) S
      else
        (pX3_bestFill S l3 l1).bind fun r5 =>
        gd (inB l3 1024) ((pX3_mostFilled_l18  l1 l2 n) (l3 + (1 : Int32)) (sA S 0 (va_up (oA S 0) l3.toNatClampNeg r5)))
def pX3_mostFilled (S : Ob)  (a : Int32) : Option (Int32 × Ob) :=
  (pX3_mostFilled_l18 a (((1 : Int32) <<< ((oI (sA S 0 (va_up (oA S 0) 0 (0 : Int32))) 2) &&& 31)) - (1 : Int32)) fu (1 : Int32) (sA S 0 (va_up (oA S 0) 0 (0 : Int32)))).bind fun r8 =>
  gd (inB (((1 : Int32) <<< ((oI (sA S 0 (va_up (oA S 0) 0 (0 : Int32))) 2) &&& 31)) - (1 : Int32)) 1024) (some ((oA r8 0 (((1 : Int32) <<< ((oI (sA S 0 (va_up (oA S 0) 0 (0 : Int32))) 2) &&& 31)) - (1 : Int32)).toNatClampNeg) >>> ((7 : Int32) &&& 31), r8))
def pX3_canFill_l9 (Sa : Ob) (Sb : Ob) (l3 : Int32) : Nat → Int32 → Int32 → Int32 → Ob → Option (Int32 × Int32 × Ob)
  | 0, _, _, _, _ => none
  | n + 1, l4, l5, l6, S =>
    if oI Sa 11 ≤ l6 then
      some (l4, l5, S)
    else
      if (l3 >>> (l6 &&& 31)) &&& (1 : Int32) = (1 : Int32) then
        (pX6_sleeps Sb Sa l6).bind fun r3 =>
        if r3 = 0 then
          gd (inB l6 4) (gd (inB l6 4) (gd (inB l4 4) (gd (inB l4 4) ((pX3_canFill_l9  Sa Sb l3 n) (l4 + (1 : Int32)) (l5 + (oA (sA S 5 (va_up (oA S 5) l4.toNatClampNeg ((oA Sa 13 l6.toNatClampNeg) - (oA Sb 5 l6.toNatClampNeg)))) 5 l4.toNatClampNeg)) (l6 + (1 : Int32)) (sA S 5 (va_up (oA S 5) l4.toNatClampNeg ((oA Sa 13 l6.toNatClampNeg) - (oA Sb 5 l6.toNatClampNeg))))))))
        else
          (pX3_canFill_l9  Sa Sb l3 n) l4 l5 (l6 + (1 : Int32)) S
      else
        (pX3_canFill_l9  Sa Sb l3 n) l4 l5 (l6 + (1 : Int32)) S
def pX3_canFill (S : Ob) (Sa : Ob) (Sb : Ob)  (c : Int32) : Option (Int32 × Ob) :=
  (pX3_canFill_l9 Sa Sb c fu (0 : Int32) (0 : Int32) (0 : Int32) S).bind fun r10 =>
  if oI r10.2.2 3 < r10.2.1 then
    some ((0 : Int32), r10.2.2)
  else
    (pX3_mostFilled r10.2.2 r10.1).bind fun r13 =>
    if r13.1 < r10.1 then
      some ((0 : Int32), r13.2)
    else
      some ((1 : Int32), r13.2)
def pX3_bestBeds_j47 (rec : Int32 → Int32 → Ob → Option (Int32 × Ob)) (S : Ob) (Sa : Ob) (Sb : Ob) (l3 : Int32) (l4 : Int32) (l5 : Int32) (s0 : Int32) : Option (Int32 × Ob) :=
  if s0 = 0 then
    rec l4 (l5 + (1 : Int32)) S
  else
    if l5 &&& l3 = l3 then
      (pX3_canFill S Sa Sb l5).bind fun r13 =>
      if r13.1 = 0 then
        rec l4 (l5 + (1 : Int32)) r13.2
      else
        rec l5 (l5 + (1 : Int32)) r13.2
    else
      rec l4 (l5 + (1 : Int32)) S
def pX3_bestBeds_l18 (Sa : Ob) (Sb : Ob) (l3 : Int32) : Nat → Int32 → Int32 → Ob → Option (Int32 × Ob)
  | 0, _, _, _ => none
  | n + 1, l4, l5, S =>
    if (1 : Int32) <<< ((oI Sa 11) &&& 31) ≤ l5 then
      some (l4, S)
    else
      (pJ6_bitCount_0f7a4 l5).bind fun r6 =>
      (pJ6_bitCount_0f7a4 l4).bind fun r8 =>
      if r6 ≤ r8 then
        pX3_bestBeds_j47 (pX3_bestBeds_l18  Sa Sb l3 n) S Sa Sb l3 l4 l5 (0 : Int32)
      else
        pX3_bestBeds_j47 (pX3_bestBeds_l18  Sa Sb l3 n) S Sa Sb l3 l4 l5 (1 : Int32)
def pX3_bestBeds (S : Ob) (Sa : Ob) (Sb : Ob)   : Option (Int32 × Ob) :=
  (pX3_listBag S Sa Sb).bind fun r1 =>
  (pX6_allSleeping Sb Sa).bind fun r3 =>
  (pX3_bestBeds_l18 Sa Sb r3 fu r3 (0 : Int32) r1).bind fun r16 =>
  some (r16.1, r16.2)
def pX3_mostLeft_j55 (rec : Int32 → Int32 → Option (Int32)) (S : Ob) (Sa : Ob) (Sb : Ob) (l3 : Int32) (l4 : Int32) (l5 : Int32) (l6 : Int32) (l7 : Int32) (l8 : Int32) (s0 : Int32) : Option (Int32) :=
  if s0 = 0 then
    rec l7 (l8 + (1 : Int32))
  else
    (pX6_layerFromOutside Sb l6 l4).bind fun r5 =>
    (pX6_layerFromOutside Sb l8 l4).bind fun r7 =>
    if r5 = r7 then
      rec (l7 + (1 : Int32)) (l8 + (1 : Int32))
    else
      rec l7 (l8 + (1 : Int32))
def pX3_mostLeft_j54 (rec : Int32 → Int32 → Option (Int32)) (S : Ob) (Sa : Ob) (Sb : Ob) (l3 : Int32) (l4 : Int32) (l5 : Int32) (l6 : Int32) (l7 : Int32) (l8 : Int32) : Option (Int32) :=
  pX3_mostLeft_j55 rec S Sa Sb l3 l4 l5 l6 l7 l8 (0 : Int32)
def pX3_mostLeft_l21 (S : Ob) (Sa : Ob) (Sb : Ob) (l3 : Int32) (l4 : Int32) (l5 : Int32) (l6 : Int32) : Nat → Int32 → Int32 → Option (Int32)
  | 0, _, _ => none
  | n + 1, l7, l8 =>
    if oI Sa 4 ≤ l8 then
      some l7
    else
      if (l3 >>> (l6 &&& 31)) &&& (1 : Int32) = (1 : Int32) then
        if (l3 >>> (l8 &&& 31)) &&& (1 : Int32) = (1 : Int32) then
          pX3_mostLeft_j55 (pX3_mostLeft_l21  S Sa Sb l3 l4 l5 l6 n) S Sa Sb l3 l4 l5 l6 l7 l8 (1 : Int32)
        else
          pX3_mostLeft_j54 (pX3_mostLeft_l21  S Sa Sb l3 l4 l5 l6 n) S Sa Sb l3 l4 l5 l6 l7 l8
      else
        pX3_mostLeft_j54 (pX3_mostLeft_l21  S Sa Sb l3 l4 l5 l6 n) S Sa Sb l3 l4 l5 l6 l7 l8
def pX3_mostLeft_l6 (S : Ob) (Sa : Ob) (Sb : Ob) (l3 : Int32) (l4 : Int32) : Nat → Int32 → Int32 → Option (Int32)
  | 0, _, _ => none
  | n + 1, l5, l6 =>
    if oI Sa 4 ≤ l6 then
      some l5
    else
      (pX3_mostLeft_l21 S Sa Sb l3 l4 l5 l6 fu (0 : Int32) (0 : Int32)).bind fun r11 =>
      (pX3_mostLeft_l6  S Sa Sb l3 l4 n) (if l5 < r11 then r11 else l5) (l6 + (1 : Int32))
def pX3_mostLeft (S : Ob) (Sa : Ob) (Sb : Ob)  (c : Int32) (d : Int32) : Option (Int32) :=
  (pX3_mostLeft_l6 S Sa Sb c d fu (0 : Int32) (0 : Int32)).bind fun r13 =>
  some r13
def pX3_bestLayer_l10 (S : Ob) (Sa : Ob) (Sb : Ob) (l3 : Int32) : Nat → Int32 → Int32 → Int32 → Option (Int32)
  | 0, _, _, _ => none
  | n + 1, l4, l5, l6 =>
    if (8 : Int32) ≤ l6 then
      some l4
    else
      (pX3_mostLeft S Sa Sb l3 l6).bind fun r2 =>
      if l5 ≤ r2 then
        (pX3_bestLayer_l10  S Sa Sb l3 n) l4 l5 (l6 + (1 : Int32))
      else
        (pX3_bestLayer_l10  S Sa Sb l3 n) l6 r2 (l6 + (1 : Int32))
def pX3_bestLayer (S : Ob) (Sa : Ob) (Sb : Ob)  (c : Int32) : Option (Int32) :=
  (pX3_bestLayer_l10 S Sa Sb c fu (0 : Int32) (7 : Int32) (0 : Int32)).bind fun r5 =>
  some r5
def pX6_clear_l2  : Nat → Int32 → Ob → Option (Ob)
  | 0, _, _ => none
  | n + 1, l1, S =>
    if (6 : Int32) ≤ l1 then
      some S
    else
      gd (inB l1 6) (gd (inB l1 6) ((pX6_clear_l2   n) (l1 + (1 : Int32)) (sA (sA S 1 (va_up (oA S 1) l1.toNatClampNeg (0 : Int32))) 2 (va_up (oA (sA S 1 (va_up (oA S 1) l1.toNatClampNeg (0 : Int32))) 2) l1.toNatClampNeg (0 : Int32)))))
def pX6_clear_l30  : Nat → Int32 → Ob → Option (Ob)
  | 0, _, _ => none
  | n + 1, l1, S =>
    if (8 : Int32) ≤ l1 then
      some S
    else
      gd (inB l1 8) (gd (inB l1 8) ((pX6_clear_l30   n) (l1 + (1 : Int32)) (sA (sA S 3 (va_up (oA S 3) l1.toNatClampNeg (0 : Int32))) 4 (va_up (oA (sA S 3 (va_up (oA S 3) l1.toNatClampNeg (0 : Int32))) 4) l1.toNatClampNeg (0 : Int32)))))
def pX6_clear_l58  : Nat → Int32 → Ob → Option (Ob)
  | 0, _, _ => none
  | n + 1, l1, S =>
    if (4 : Int32) ≤ l1 then
      some S
    else
      gd (inB l1 4) (gd (inB l1 4) ((pX6_clear_l58   n) (l1 + (1 : Int32)) (sA (sA S 5 (va_up (oA S 5) l1.toNatClampNeg (0 : Int32))) 6 (va_up (oA (sA S 5 (va_up (oA S 5) l1.toNatClampNeg (0 : Int32))) 6) l1.toNatClampNeg (0 : Int32)))))
def pX6_clear (S : Ob)   : Option (Ob) :=
  (pX6_clear_l2 fu (0 : Int32) S).bind fun r4 =>
  (pX6_clear_l30 fu (0 : Int32) r4).bind fun r9 =>
  (pX6_clear_l58 fu (0 : Int32) r9).bind fun r14 =>
  some (sI (sI (sI (sI (sI r14 7 (0 : Int32)) 8 (0 : Int32)) 9 (0 : Int32)) 10 (0 : Int32)) 11 (0 : Int32))
def pX4_readComb (S : Ob) (Sa : Ob)   : Option (Int32 × Ob × Ob) :=
  if oI S 15 = 0 then
    (pX8_advance Sa).bind fun r2 =>
    (pX8_takeNumber r2 (1 : Int32) (20 : Int32)).bind fun r4 =>
    if r4.1 = (-1 : Int32) then
      some ((0 : Int32), S, r4.2)
    else
      some ((1 : Int32), sI (sI S 14 r4.1) 15 (1 : Int32), r4.2)
  else
    (pX8_refuse Sa (3 : Int32)).bind fun r7 =>
    gd (z01 r7.1) (some (r7.1, S, r7.2))
def pX4_isNewName_j61 (S : Ob) (Sa : Ob) : Option (Int32 × Ob) :=
  (pX8_refuse Sa (3 : Int32)).bind fun r7 =>
  gd (z01 r7.1) (some (r7.1, r7.2))
def pX4_isNewName (S : Ob) (Sa : Ob)   : Option (Int32 × Ob) :=
  (pX8_isName Sa).bind fun r1 =>
  if r1 = 0 then
    (pX8_refuse Sa (1 : Int32)).bind fun r16 =>
    gd (z01 r16.1) (some (r16.1, r16.2))
  else
    (pX8_placeIn Sa (oJ S 1) 8 (oI S 0)).bind fun r4 =>
    if r4 = (-1 : Int32) then
      (pX8_placeIn Sa (oJ S 5) 6 (oI S 4)).bind fun r10 =>
      if r10 = (-1 : Int32) then
        (pX8_placeIn Sa (oJ S 12) 4 (oI S 11)).bind fun r13 =>
        if r13 = (-1 : Int32) then
          some ((1 : Int32), Sa)
        else
          pX4_isNewName_j61 S Sa
      else
        pX4_isNewName_j61 S Sa
    else
      pX4_isNewName_j61 S Sa
def pX4_readBed (S : Ob) (Sa : Ob)   : Option (Int32 × Ob × Ob) :=
  if oI S 11 < (4 : Int32) then
    (pX8_advance Sa).bind fun r2 =>
    (pX4_isNewName S r2).bind fun r4 =>
    if r4.1 = 0 then
      some ((0 : Int32), S, r4.2)
    else
      gd (inB (oI S 11) 4) (
        (pX8_advance r4.2).bind fun r8 =>
        (pX8_takeNumber r8 (1 : Int32) (99 : Int32)).bind fun r10 =>
        if r10.1 = (-1 : Int32) then
          some ((0 : Int32), sJ S 12 (va_up (oJ S 12) ((oI S 11).toNatClampNeg) (oL r4.2 7)), r10.2)
        else
          gd (inB (oI (sJ S 12 (va_up (oJ S 12) ((oI S 11).toNatClampNeg) (oL r4.2 7))) 11) 4) (some ((1 : Int32), sI (sA (sJ S 12 (va_up (oJ S 12) ((oI S 11).toNatClampNeg) (oL r4.2 7))) 13 (va_up (oA (sJ S 12 (va_up (oJ S 12) ((oI S 11).toNatClampNeg) (oL r4.2 7))) 13) ((oI (sJ S 12 (va_up (oJ S 12) ((oI S 11).toNatClampNeg) (oL r4.2 7))) 11).toNatClampNeg) r10.1)) 11 ((oI (sA (sJ S 12 (va_up (oJ S 12) ((oI S 11).toNatClampNeg) (oL r4.2 7))) 13 (va_up (oA (sJ S 12 (va_up (oJ S 12) ((oI S 11).toNatClampNeg) (oL r4.2 7))) 13) ((oI (sJ S 12 (va_up (oJ S 12) ((oI S 11).toNatClampNeg) (oL r4.2 7))) 11).toNatClampNeg) r10.1)) 11) + (1 : Int32)), r10.2)))
  else
    (pX8_refuse Sa (4 : Int32)).bind fun r14 =>
    gd (z01 r14.1) (some (r14.1, S, r14.2))
def pX4_readDaily (S : Ob) (Sa : Ob)   : Option (Int32 × Ob × Ob) :=
  if oI S 7 < (12 : Int32) then
    (pX8_advance Sa).bind fun r2 =>
    (pX8_takeName r2 (oJ S 5) 6 (oI S 4)).bind fun r4 =>
    if r4.1 = (-1 : Int32) then
      some ((0 : Int32), S, r4.2)
    else
      (pX8_takeName r4.2 (oJ S 1) 8 (oI S 0)).bind fun r7 =>
      if r7.1 = (-1 : Int32) then
        some ((0 : Int32), S, r7.2)
      else
        (pX8_takeNumber r7.2 (1 : Int32) (9 : Int32)).bind fun r10 =>
        if r10.1 = (-1 : Int32) then
          some ((0 : Int32), S, r10.2)
        else
          gd (inB (oI S 7) 12) (gd (inB (oI (sA S 8 (va_up (oA S 8) ((oI S 7).toNatClampNeg) r4.1)) 7) 12) (gd (inB (oI (sA (sA S 8 (va_up (oA S 8) ((oI S 7).toNatClampNeg) r4.1)) 9 (va_up (oA (sA S 8 (va_up (oA S 8) ((oI S 7).toNatClampNeg) r4.1)) 9) ((oI (sA S 8 (va_up (oA S 8) ((oI S 7).toNatClampNeg) r4.1)) 7).toNatClampNeg) r7.1)) 7) 12) (some ((1 : Int32), sI (sA (sA (sA S 8 (va_up (oA S 8) ((oI S 7).toNatClampNeg) r4.1)) 9 (va_up (oA (sA S 8 (va_up (oA S 8) ((oI S 7).toNatClampNeg) r4.1)) 9) ((oI (sA S 8 (va_up (oA S 8) ((oI S 7).toNatClampNeg) r4.1)) 7).toNatClampNeg) r7.1)) 10 (va_up (oA (sA (sA S 8 (va_up (oA S 8) ((oI S 7).toNatClampNeg) r4.1)) 9 (va_up (oA (sA S 8 (va_up (oA S 8) ((oI S 7).toNatClampNeg) r4.1)) 9) ((oI (sA S 8 (va_up (oA S 8) ((oI S 7).toNatClampNeg) r4.1)) 7).toNatClampNeg) r7.1)) 10) ((oI (sA (sA S 8 (va_up (oA S 8) ((oI S 7).toNatClampNeg) r4.1)) 9 (va_up (oA (sA S 8 (va_up (oA S 8) ((oI S 7).toNatClampNeg) r4.1)) 9) ((oI (sA S 8 (va_up (oA S 8) ((oI S 7).toNatClampNeg) r4.1)) 7).toNatClampNeg) r7.1)) 7).toNatClampNeg) r10.1)) 7 ((oI (sA (sA (sA S 8 (va_up (oA S 8) ((oI S 7).toNatClampNeg) r4.1)) 9 (va_up (oA (sA S 8 (va_up (oA S 8) ((oI S 7).toNatClampNeg) r4.1)) 9) ((oI (sA S 8 (va_up (oA S 8) ((oI S 7).toNatClampNeg) r4.1)) 7).toNatClampNeg) r7.1)) 10 (va_up (oA (sA (sA S 8 (va_up (oA S 8) ((oI S 7).toNatClampNeg) r4.1)) 9 (va_up (oA (sA S 8 (va_up (oA S 8) ((oI S 7).toNatClampNeg) r4.1)) 9) ((oI (sA S 8 (va_up (oA S 8) ((oI S 7).toNatClampNeg) r4.1)) 7).toNatClampNeg) r7.1)) 10) ((oI (sA (sA S 8 (va_up (oA S 8) ((oI S 7).toNatClampNeg) r4.1)) 9 (va_up (oA (sA S 8 (va_up (oA S 8) ((oI S 7).toNatClampNeg) r4.1)) 9) ((oI (sA S 8 (va_up (oA S 8) ((oI S 7).toNatClampNeg) r4.1)) 7).toNatClampNeg) r7.1)) 7).toNatClampNeg) r10.1)) 7) + (1 : Int32)), r10.2))))
  else
    (pX8_refuse Sa (4 : Int32)).bind fun r16 =>
    gd (z01 r16.1) (some (r16.1, S, r16.2))
def pX4_readCaught (S : Ob) (Sa : Ob) (Sb : Ob)   : Option (Int32 × Ob × Ob) :=
  (pX8_advance Sa).bind fun r1 =>
  (pX8_findName r1 (oJ S 5) 6 (oI S 4)).bind fun r3 =>
  if r3.1 = (-1 : Int32) then
    some ((0 : Int32), r3.2, Sb)
  else
    (pX6_isNest Sb r3.1).bind fun r6 =>
    if r6 = 0 then
      (pX8_advance r3.2).bind fun r9 =>
      (pX8_takeName r9 (oJ S 1) 8 (oI S 0)).bind fun r11 =>
      if r11.1 = (-1 : Int32) then
        some ((0 : Int32), r11.2, Sb)
      else
        (pX6_catchThing Sb r3.1 r11.1).bind fun r14 =>
        some ((1 : Int32), r11.2, r14)
    else
      (pX8_refuse r3.2 (4 : Int32)).bind fun r16 =>
      gd (z01 r16.1) (some (r16.1, r16.2, Sb))
def pX4_readPerson (S : Ob) (Sa : Ob)   : Option (Int32 × Ob × Ob) :=
  if oI S 4 < (6 : Int32) then
    (pX8_advance Sa).bind fun r2 =>
    (pX4_isNewName S r2).bind fun r4 =>
    if r4.1 = 0 then
      some ((0 : Int32), S, r4.2)
    else
      gd (inB (oI S 4) 6) (
        (pX8_advance r4.2).bind fun r8 =>
        (pX8_takeNumber r8 (1 : Int32) (99 : Int32)).bind fun r10 =>
        if r10.1 = (-1 : Int32) then
          some ((0 : Int32), sJ S 5 (va_up (oJ S 5) ((oI S 4).toNatClampNeg) (oL r4.2 7)), r10.2)
        else
          gd (inB (oI (sJ S 5 (va_up (oJ S 5) ((oI S 4).toNatClampNeg) (oL r4.2 7))) 4) 6) (some ((1 : Int32), sI (sA (sJ S 5 (va_up (oJ S 5) ((oI S 4).toNatClampNeg) (oL r4.2 7))) 6 (va_up (oA (sJ S 5 (va_up (oJ S 5) ((oI S 4).toNatClampNeg) (oL r4.2 7))) 6) ((oI (sJ S 5 (va_up (oJ S 5) ((oI S 4).toNatClampNeg) (oL r4.2 7))) 4).toNatClampNeg) r10.1)) 4 ((oI (sA (sJ S 5 (va_up (oJ S 5) ((oI S 4).toNatClampNeg) (oL r4.2 7))) 6 (va_up (oA (sJ S 5 (va_up (oJ S 5) ((oI S 4).toNatClampNeg) (oL r4.2 7))) 6) ((oI (sJ S 5 (va_up (oJ S 5) ((oI S 4).toNatClampNeg) (oL r4.2 7))) 4).toNatClampNeg) r10.1)) 4) + (1 : Int32)), r10.2)))
  else
    (pX8_refuse Sa (4 : Int32)).bind fun r14 =>
    gd (z01 r14.1) (some (r14.1, S, r14.2))
def pX4_readThing (S : Ob) (Sa : Ob)   : Option (Int32 × Ob × Ob) :=
  if oI S 0 < (8 : Int32) then
    (pX8_advance Sa).bind fun r2 =>
    (pX4_isNewName S r2).bind fun r4 =>
    if r4.1 = 0 then
      some ((0 : Int32), S, r4.2)
    else
      gd (inB (oI S 0) 8) (
        (pX8_advance r4.2).bind fun r8 =>
        (pX8_takeNumber r8 (1 : Int32) (9 : Int32)).bind fun r10 =>
        if r10.1 = (-1 : Int32) then
          some ((0 : Int32), sJ S 1 (va_up (oJ S 1) ((oI S 0).toNatClampNeg) (oL r4.2 7)), r10.2)
        else
          (pX8_takeNumber r10.2 (0 : Int32) (9 : Int32)).bind fun r13 =>
          if r13.1 = (-1 : Int32) then
            some ((0 : Int32), sJ S 1 (va_up (oJ S 1) ((oI S 0).toNatClampNeg) (oL r4.2 7)), r13.2)
          else
            gd (inB (oI (sJ S 1 (va_up (oJ S 1) ((oI S 0).toNatClampNeg) (oL r4.2 7))) 0) 8) (gd (inB (oI (sA (sJ S 1 (va_up (oJ S 1) ((oI S 0).toNatClampNeg) (oL r4.2 7))) 2 (va_up (oA (sJ S 1 (va_up (oJ S 1) ((oI S 0).toNatClampNeg) (oL r4.2 7))) 2) ((oI (sJ S 1 (va_up (oJ S 1) ((oI S 0).toNatClampNeg) (oL r4.2 7))) 0).toNatClampNeg) r10.1)) 0) 8) (some ((1 : Int32), sI (sA (sA (sJ S 1 (va_up (oJ S 1) ((oI S 0).toNatClampNeg) (oL r4.2 7))) 2 (va_up (oA (sJ S 1 (va_up (oJ S 1) ((oI S 0).toNatClampNeg) (oL r4.2 7))) 2) ((oI (sJ S 1 (va_up (oJ S 1) ((oI S 0).toNatClampNeg) (oL r4.2 7))) 0).toNatClampNeg) r10.1)) 3 (va_up (oA (sA (sJ S 1 (va_up (oJ S 1) ((oI S 0).toNatClampNeg) (oL r4.2 7))) 2 (va_up (oA (sJ S 1 (va_up (oJ S 1) ((oI S 0).toNatClampNeg) (oL r4.2 7))) 2) ((oI (sJ S 1 (va_up (oJ S 1) ((oI S 0).toNatClampNeg) (oL r4.2 7))) 0).toNatClampNeg) r10.1)) 3) ((oI (sA (sJ S 1 (va_up (oJ S 1) ((oI S 0).toNatClampNeg) (oL r4.2 7))) 2 (va_up (oA (sJ S 1 (va_up (oJ S 1) ((oI S 0).toNatClampNeg) (oL r4.2 7))) 2) ((oI (sJ S 1 (va_up (oJ S 1) ((oI S 0).toNatClampNeg) (oL r4.2 7))) 0).toNatClampNeg) r10.1)) 0).toNatClampNeg) r13.1)) 0 ((oI (sA (sA (sJ S 1 (va_up (oJ S 1) ((oI S 0).toNatClampNeg) (oL r4.2 7))) 2 (va_up (oA (sJ S 1 (va_up (oJ S 1) ((oI S 0).toNatClampNeg) (oL r4.2 7))) 2) ((oI (sJ S 1 (va_up (oJ S 1) ((oI S 0).toNatClampNeg) (oL r4.2 7))) 0).toNatClampNeg) r10.1)) 3 (va_up (oA (sA (sJ S 1 (va_up (oJ S 1) ((oI S 0).toNatClampNeg) (oL r4.2 7))) 2 (va_up (oA (sJ S 1 (va_up (oJ S 1) ((oI S 0).toNatClampNeg) (oL r4.2 7))) 2) ((oI (sJ S 1 (va_up (oJ S 1) ((oI S 0).toNatClampNeg) (oL r4.2 7))) 0).toNatClampNeg) r10.1)) 3) ((oI (sA (sJ S 1 (va_up (oJ S 1) ((oI S 0).toNatClampNeg) (oL r4.2 7))) 2 (va_up (oA (sJ S 1 (va_up (oJ S 1) ((oI S 0).toNatClampNeg) (oL r4.2 7))) 2) ((oI (sJ S 1 (va_up (oJ S 1) ((oI S 0).toNatClampNeg) (oL r4.2 7))) 0).toNatClampNeg) r10.1)) 0).toNatClampNeg) r13.1)) 0) + (1 : Int32)), r13.2))))
  else
    (pX8_refuse Sa (4 : Int32)).bind fun r18 =>
    gd (z01 r18.1) (some (r18.1, S, r18.2))
def pX4_readLine (S : Ob) (Sa : Ob) (Sb : Ob)   : Option (Int32 × Ob × Ob × Ob) :=
  gd (wOk (oW Sa 8)) (
    if oW Sa 8 = some 0 then
      (pX4_readThing S Sa).bind fun r31 =>
      gd (z01 r31.1) (some (r31.1, r31.2.1, r31.2.2, Sb))
    else
      gd (wOk (oW Sa 8)) (
        if oW Sa 8 = some 1 then
          (pX4_readPerson S Sa).bind fun r28 =>
          gd (z01 r28.1) (some (r28.1, r28.2.1, r28.2.2, Sb))
        else
          gd (wOk (oW Sa 8)) (
            if oW Sa 8 = some 2 then
              (pX4_readCaught S Sa Sb).bind fun r25 =>
              gd (z01 r25.1) (some (r25.1, S, r25.2.1, r25.2.2))
            else
              gd (wOk (oW Sa 8)) (
                if oW Sa 8 = some 3 then
                  (pX4_readDaily S Sa).bind fun r22 =>
                  gd (z01 r22.1) (some (r22.1, r22.2.1, r22.2.2, Sb))
                else
                  gd (wOk (oW Sa 8)) (
                    if oW Sa 8 = some 4 then
                      (pX4_readBed S Sa).bind fun r19 =>
                      gd (z01 r19.1) (some (r19.1, r19.2.1, r19.2.2, Sb))
                    else
                      gd (wOk (oW Sa 8)) (
                        if oW Sa 8 = some 5 then
                          (pX4_readComb S Sa).bind fun r16 =>
                          gd (z01 r16.1) (some (r16.1, r16.2.1, r16.2.2, Sb))
                        else
                          (pX8_refuse Sa (1 : Int32)).bind fun r13 =>
                          gd (z01 r13.1) (some (r13.1, S, r13.2, Sb))))))))
def pX4_readFrom_l44  : Nat → Int32 → Ob → Ob → Ob → Option (Int32 × Ob × Ob × Ob)
  | 0, _, _, _, _ => none
  | n + 1, l3, S, Sa, Sb =>
    if oI Sa 4 = 0 then
      some (l3, S, Sa, Sb)
    else
      if (900 : Int32) ≤ l3 then
        some (l3, S, Sa, Sb)
      else
        (pX4_readLine S Sa Sb).bind fun r7 =>
        if r7.1 = 0 then
          some ((-1 : Int32), r7.2.1, r7.2.2.1, r7.2.2.2)
        else
          (pX8_takeSign r7.2.2.1 (59 : Int32)).bind fun r10 =>
          if r10.1 = 0 then
            some ((-1 : Int32), r7.2.1, r10.2, r7.2.2.2)
          else
            (pX4_readFrom_l44   n) (l3 + (1 : Int32)) r7.2.1 r10.2 r7.2.2.2
def pX4_readFrom (S : Ob) (Sa : Ob) (Sb : Ob)   : Option (Int32 × Ob × Ob × Ob) :=
  (pX6_clear Sb).bind fun r1 =>
  (pX8_open Sa (900 : Int32)).bind fun r3 =>
  pX4_readFrom_l44 fu (0 : Int32) (sI (sI (sI (sI (sI (sI S 0 (0 : Int32)) 4 (0 : Int32)) 7 (0 : Int32)) 11 (0 : Int32)) 14 (9 : Int32)) 15 (0 : Int32)) r3 r1
def pX5_forget (S : Ob)   : Option (Ob) :=
  some (sI (sI S 3 (0 : Int32)) 4 (0 : Int32))
def pX5_addStep (S : Ob)  (a : Option Nat) (b : Int32) (c : Int32) : Option (Ob) :=
  if (40 : Int32) ≤ oI S 3 then
    some S
  else
    gd (wOk a) (gd (inB (oI S 3) 40) (gd (inB (oI (sX S 0 (va_up (oX S 0) ((oI S 3).toNatClampNeg) a)) 3) 40) (gd (inB (oI (sA (sX S 0 (va_up (oX S 0) ((oI S 3).toNatClampNeg) a)) 1 (va_up (oA (sX S 0 (va_up (oX S 0) ((oI S 3).toNatClampNeg) a)) 1) ((oI (sX S 0 (va_up (oX S 0) ((oI S 3).toNatClampNeg) a)) 3).toNatClampNeg) b)) 3) 40) (some (sI (sA (sA (sX S 0 (va_up (oX S 0) ((oI S 3).toNatClampNeg) a)) 1 (va_up (oA (sX S 0 (va_up (oX S 0) ((oI S 3).toNatClampNeg) a)) 1) ((oI (sX S 0 (va_up (oX S 0) ((oI S 3).toNatClampNeg) a)) 3).toNatClampNeg) b)) 2 (va_up (oA (sA (sX S 0 (va_up (oX S 0) ((oI S 3).toNatClampNeg) a)) 1 (va_up (oA (sX S 0 (va_up (oX S 0) ((oI S 3).toNatClampNeg) a)) 1) ((oI (sX S 0 (va_up (oX S 0) ((oI S 3).toNatClampNeg) a)) 3).toNatClampNeg) b)) 2) ((oI (sA (sX S 0 (va_up (oX S 0) ((oI S 3).toNatClampNeg) a)) 1 (va_up (oA (sX S 0 (va_up (oX S 0) ((oI S 3).toNatClampNeg) a)) 1) ((oI (sX S 0 (va_up (oX S 0) ((oI S 3).toNatClampNeg) a)) 3).toNatClampNeg) b)) 3).toNatClampNeg) c)) 3 ((oI (sA (sA (sX S 0 (va_up (oX S 0) ((oI S 3).toNatClampNeg) a)) 1 (va_up (oA (sX S 0 (va_up (oX S 0) ((oI S 3).toNatClampNeg) a)) 1) ((oI (sX S 0 (va_up (oX S 0) ((oI S 3).toNatClampNeg) a)) 3).toNatClampNeg) b)) 2 (va_up (oA (sA (sX S 0 (va_up (oX S 0) ((oI S 3).toNatClampNeg) a)) 1 (va_up (oA (sX S 0 (va_up (oX S 0) ((oI S 3).toNatClampNeg) a)) 1) ((oI (sX S 0 (va_up (oX S 0) ((oI S 3).toNatClampNeg) a)) 3).toNatClampNeg) b)) 2) ((oI (sA (sX S 0 (va_up (oX S 0) ((oI S 3).toNatClampNeg) a)) 1 (va_up (oA (sX S 0 (va_up (oX S 0) ((oI S 3).toNatClampNeg) a)) 1) ((oI (sX S 0 (va_up (oX S 0) ((oI S 3).toNatClampNeg) a)) 3).toNatClampNeg) b)) 3).toNatClampNeg) c)) 3) + (1 : Int32)))))))
def pX5_isMeasured   (a : Option Nat) : Option (Int32) :=
  gd (wOk a) (
    if a = some 2 then
      some (1 : Int32)
    else
      gd (wOk a) (
        if a = some 19 then
          some (1 : Int32)
        else
          gd (wOk a) (
            if a = some 20 then
              some (1 : Int32)
            else
              gd (wOk a) (
                if a = some 21 then
                  some (1 : Int32)
                else
                  some (0 : Int32)))))
def pX5_readPlain_j131 (S : Ob) (Sa : Ob) (Sb : Ob) (l3 : Option Nat) (l4 : Int32) : Option (Int32 × Ob × Ob) :=
  (pX8_advance Sa).bind fun r9 =>
  (pX8_takeNumber r9 (0 : Int32) (999 : Int32)).bind fun r11 =>
  (pX5_addStep S l3 l4 r11.1).bind fun r13 =>
  if r11.1 = (-1 : Int32) then
    some ((0 : Int32), r13, r11.2)
  else
    some ((1 : Int32), r13, r11.2)
def pX5_readPlain (S : Ob) (Sa : Ob) (Sb : Ob)  (c : Option Nat) : Option (Int32 × Ob × Ob) :=
  gd (wOk c) (
    if c = some 17 then
      (pX8_takeName Sa (oJ Sb 1) 8 (oI Sb 0)).bind fun r28 =>
      (pX5_addStep S c (0 : Int32) r28.1).bind fun r30 =>
      if r28.1 = (-1 : Int32) then
        some ((0 : Int32), r30, r28.2)
      else
        some ((1 : Int32), r30, r28.2)
    else
      gd (wOk c) (
        if c = some 18 then
          (pX8_takeName Sa (oJ Sb 5) 6 (oI Sb 4)).bind fun r23 =>
          (pX5_addStep S c (0 : Int32) r23.1).bind fun r25 =>
          if r23.1 = (-1 : Int32) then
            some ((0 : Int32), r25, r23.2)
          else
            some ((1 : Int32), r25, r23.2)
        else
          (pX5_isMeasured c).bind fun r5 =>
          if r5 = 0 then
            (pX5_addStep S c (0 : Int32) (0 : Int32)).bind fun r21 =>
            some ((1 : Int32), r21, Sa)
          else
            if oI Sa 4 = (60 : Int32) then
              pX5_readPlain_j131 S Sa Sb c (oI Sa 4)
            else
              if oI Sa 4 = (61 : Int32) then
                pX5_readPlain_j131 S Sa Sb c (oI Sa 4)
              else
                if oI Sa 4 = (62 : Int32) then
                  pX5_readPlain_j131 S Sa Sb c (oI Sa 4)
                else
                  (pX8_refuse Sa (1 : Int32)).bind fun r18 =>
                  gd (z01 r18.1) (some (r18.1, S, r18.2))))
def pX5_beginsOne   (a : Option Nat) : Option (Int32) :=
  gd (wOk a) (
    if a = some 13 then
      some (1 : Int32)
    else
      gd (wOk a) (
        if a = some 14 then
          some (1 : Int32)
        else
          gd (wOk a) (
            if a = some 15 then
              some (1 : Int32)
            else
              gd (wOk a) (
                if a = some 16 then
                  some (1 : Int32)
                else
                  gd (wOk a) (
                    if a = some 17 then
                      some (1 : Int32)
                    else
                      gd (wOk a) (
                        if a = some 18 then
                          some (1 : Int32)
                        else
                          (pX5_isMeasured a).bind fun r13 =>
                          if r13 = 0 then
                            some (0 : Int32)
                          else
                            some (1 : Int32)))))))
def pX5_readCondF_j98 (rc ro : Ob → Ob → Ob → Int32 → Option (Int32 × Ob × Ob)) (rec : Int32 → Int32 → Int32 → Ob → Ob → Option (Int32 × Int32 × Ob × Ob)) (S : Ob) (Sa : Ob) (Sb : Ob) (l3 : Int32) (l4 : Int32) (l5 : Int32) (l6 : Int32) (l7 : Int32) (s0 : Int32) : Option (Int32 × Int32 × Ob × Ob) :=
  (pX8_advance Sa).bind fun r11 =>
  (ro S r11 Sb l3).bind fun r13 =>
  if l7 = 0 then
    rec r13.1 s0 (l6 + (1 : Int32)) r13.2.1 r13.2.2
  else
    (pX5_addStep r13.2.1 (some 12) (0 : Int32) (0 : Int32)).bind fun r16 =>
    rec r13.1 s0 (l6 + (1 : Int32)) r16 r13.2.2
def pX5_readCondF_j93 (rc ro : Ob → Ob → Ob → Int32 → Option (Int32 × Ob × Ob)) (rec : Int32 → Int32 → Int32 → Ob → Ob → Option (Int32 × Int32 × Ob × Ob)) (S : Ob) (Sa : Ob) (Sb : Ob) (l3 : Int32) (l4 : Int32) (l5 : Int32) (l6 : Int32) (l7 : Int32) : Option (Int32 × Int32 × Ob × Ob) :=
  pX5_readCondF_j98 rc ro rec S Sa Sb l3 l4 l5 l6 l7 (1 : Int32)
def pX5_readCondF_j83 (rc ro : Ob → Ob → Ob → Int32 → Option (Int32 × Ob × Ob)) (rec : Int32 → Int32 → Int32 → Ob → Ob → Option (Int32 × Int32 × Ob × Ob)) (S : Ob) (Sa : Ob) (Sb : Ob) (l3 : Int32) (l4 : Int32) (l5 : Int32) (l6 : Int32) (l7 : Int32) : Option (Int32 × Int32 × Ob × Ob) :=
  if l5 = 0 then
    if l7 = 0 then
      pX5_readCondF_j93 rc ro rec S Sa Sb l3 l4 l5 l6 l7
    else
      pX5_readCondF_j98 rc ro rec S Sa Sb l3 l4 l5 l6 l7 (0 : Int32)
  else
    pX5_readCondF_j93 rc ro rec S Sa Sb l3 l4 l5 l6 l7
def pX5_readCondF_j62 (rc ro : Ob → Ob → Ob → Int32 → Option (Int32 × Ob × Ob)) (rec : Int32 → Int32 → Int32 → Ob → Ob → Option (Int32 × Int32 × Ob × Ob)) (S : Ob) (Sa : Ob) (Sb : Ob) (l3 : Int32) (l4 : Int32) (l5 : Int32) (l6 : Int32) (s0 : Int32) : Option (Int32 × Int32 × Ob × Ob) :=
  if s0 = 0 then
    if l5 = 0 then
      pX5_readCondF_j83 rc ro rec S Sa Sb l3 l4 l5 l6 s0
    else
      (pX5_addStep S (some 11) (0 : Int32) (0 : Int32)).bind fun r20 =>
      pX5_readCondF_j83 rc ro rec r20 Sa Sb l3 l4 l5 l6 s0
  else
    pX5_readCondF_j83 rc ro rec S Sa Sb l3 l4 l5 l6 s0
def pX5_readCondF_j47 (rc ro : Ob → Ob → Ob → Int32 → Option (Int32 × Ob × Ob)) (rec : Int32 → Int32 → Int32 → Ob → Ob → Option (Int32 × Int32 × Ob × Ob)) (S : Ob) (Sa : Ob) (Sb : Ob) (l3 : Int32) (l4 : Int32) (l5 : Int32) (l6 : Int32) : Option (Int32 × Int32 × Ob × Ob) :=
  gd (wOk (oW Sa 8)) (
    if oW Sa 8 = some 12 then
      pX5_readCondF_j62 rc ro rec S Sa Sb l3 l4 l5 l6 (1 : Int32)
    else
      pX5_readCondF_j62 rc ro rec S Sa Sb l3 l4 l5 l6 (0 : Int32))
def pX5_readCondF_l15 (rc ro : Ob → Ob → Ob → Int32 → Option (Int32 × Ob × Ob)) (Sb : Ob) (l3 : Int32) : Nat → Int32 → Int32 → Int32 → Ob → Ob → Option (Int32 × Int32 × Ob × Ob)
  | 0, _, _, _, _, _ => none
  | n + 1, l4, l5, l6, S, Sa =>
    if (20 : Int32) ≤ l6 then
      some (l4, l5, S, Sa)
    else
      if l4 = 0 then
        some (l4, l5, S, Sa)
      else
        gd (wOk (oW Sa 8)) (
          if oW Sa 8 = some 12 then
            pX5_readCondF_j47 rc ro (pX5_readCondF_l15  rc ro Sb l3 n) S Sa Sb l3 l4 l5 l6
          else
            gd (wOk (oW Sa 8)) (
              if oW Sa 8 = some 11 then
                pX5_readCondF_j47 rc ro (pX5_readCondF_l15  rc ro Sb l3 n) S Sa Sb l3 l4 l5 l6
              else
                some (l4, l5, S, Sa)))
def pX5_readCondF (rc ro : Ob → Ob → Ob → Int32 → Option (Int32 × Ob × Ob)) (S : Ob) (Sa : Ob) (Sb : Ob)  (c : Int32) : Option (Int32 × Ob × Ob) :=
  (ro S Sa Sb c).bind fun r1 =>
  (pX5_readCondF_l15 rc ro Sb c fu r1.1 (0 : Int32) (0 : Int32) r1.2.1 r1.2.2).bind fun r24 =>
  if r24.2.1 = 0 then
    gd (z01 r24.1) (some (r24.1, r24.2.2.1, r24.2.2.2))
  else
    (pX5_addStep r24.2.2.1 (some 11) (0 : Int32) (0 : Int32)).bind fun r28 =>
    gd (z01 r24.1) (some (r24.1, r28, r24.2.2.2))
def pX5_readOneF_j40 (rc ro : Ob → Ob → Ob → Int32 → Option (Int32 × Ob × Ob)) (S : Ob) (Sa : Ob) (Sb : Ob) : Option (Int32 × Ob × Ob) :=
  (pX8_refuse Sa (4 : Int32)).bind fun r3 =>
  gd (z01 r3.1) (some (r3.1, S, r3.2))
def pX5_readOneF_j70 (rc ro : Ob → Ob → Ob → Int32 → Option (Int32 × Ob × Ob)) (S : Ob) (Sa : Ob) (Sb : Ob) (l3 : Int32) (s0 : Int32) : Option (Int32 × Ob × Ob) :=
  (pX8_advance Sa).bind fun r8 =>
  if s0 = 0 then
    gd (wOk (oW Sa 8)) (
      if oW Sa 8 = some 13 then
        (ro S r8 Sb (l3 + (1 : Int32))).bind fun r16 =>
        (pX5_addStep r16.2.1 (some 13) (0 : Int32) (0 : Int32)).bind fun r18 =>
        gd (z01 r16.1) (some (r16.1, r18, r16.2.2))
      else
        (pX5_readPlain S r8 Sb (oW Sa 8)).bind fun r13 =>
        gd (z01 r13.1) (some (r13.1, r13.2.1, r13.2.2)))
  else
    (rc S r8 Sb (l3 + (1 : Int32))).bind fun r21 =>
    if r21.1 = 0 then
      some ((0 : Int32), r21.2.1, r21.2.2)
    else
      (pX8_takeSign r21.2.2 (41 : Int32)).bind fun r24 =>
      if r24.1 = 0 then
        some ((0 : Int32), r21.2.1, r24.2)
      else
        some ((1 : Int32), r21.2.1, r24.2)
def pX5_readOneF_j25 (rc ro : Ob → Ob → Ob → Int32 → Option (Int32 × Ob × Ob)) (S : Ob) (Sa : Ob) (Sb : Ob) (l3 : Int32) : Option (Int32 × Ob × Ob) :=
  if (20 : Int32) ≤ oI S 4 then
    pX5_readOneF_j40 rc ro S Sa Sb
  else
    if l3 ≤ (8 : Int32) then
      if oI Sa 4 = (40 : Int32) then
        pX5_readOneF_j70 rc ro (sI S 4 ((oI S 4) + (1 : Int32))) Sa Sb l3 (1 : Int32)
      else
        pX5_readOneF_j70 rc ro (sI S 4 ((oI S 4) + (1 : Int32))) Sa Sb l3 (0 : Int32)
    else
      pX5_readOneF_j40 rc ro S Sa Sb
def pX5_readOneF (rc ro : Ob → Ob → Ob → Int32 → Option (Int32 × Ob × Ob)) (S : Ob) (Sa : Ob) (Sb : Ob)  (c : Int32) : Option (Int32 × Ob × Ob) :=
  if oI Sa 4 = (40 : Int32) then
    pX5_readOneF_j25 rc ro S Sa Sb c
  else
    (pX5_beginsOne (oW Sa 8)).bind fun r27 =>
    if r27 = 0 then
      (pX8_refuse Sa (1 : Int32)).bind fun r30 =>
      gd (z01 r30.1) (some (r30.1, S, r30.2))
    else
      pX5_readOneF_j25 rc ro S Sa Sb c
def pX5_rd : Nat → (Ob → Ob → Ob → Int32 → Option (Int32 × Ob × Ob)) × (Ob → Ob → Ob → Int32 → Option (Int32 × Ob × Ob))
  | 0 => (fun _ _ _ _ => none, fun _ _ _ _ => none)
  | n + 1 => (fun S Sa Sb c => pX5_readCondF (pX5_rd n).1 (pX5_rd n).2 S Sa Sb c, fun S Sa Sb c => pX5_readOneF (pX5_rd n).1 (pX5_rd n).2 S Sa Sb c)
def pX5_readCond (S Sa Sb : Ob) (c : Int32) : Option (Int32 × Ob × Ob) := (pX5_rd 40).1 S Sa Sb c

def pX5_readFrom (S : Ob) (Sa : Ob) (Sb : Ob)   : Option (Ob × Ob) :=
  (pX5_forget S).bind fun r1 =>
  (pX8_open Sa (200 : Int32)).bind fun r3 =>
  (pX5_readCond r1 r3 Sb (1 : Int32)).bind fun r5 =>
  if r5.1 = 0 then
    some (r5.2.1, r5.2.2)
  else
    if oI r5.2.2 4 = 0 then
      some (r5.2.1, r5.2.2)
    else
      (pX8_refuse r5.2.2 (1 : Int32)).bind fun r9 =>
      some (r5.2.1, r9.2)
def pX6_knotsOf_l4 (S : Ob) (l1 : Int32) : Nat → Int32 → Int32 → Option (Int32)
  | 0, _, _ => none
  | n + 1, l2, l3 =>
    gd (inB l1 6) (
      if oA S 1 l1.toNatClampNeg ≤ l3 then
        some l2
      else
        (pX6_layerAt S l1 l3).bind fun r3 =>
        (pX6_layerAt S l1 (l3 - (1 : Int32))).bind fun r5 =>
        if r3 = r5 then
          (pX6_knotsOf_l4  S l1 n) l2 (l3 + (1 : Int32))
        else
          (pX6_knotsOf_l4  S l1 n) (l2 + (1 : Int32)) (l3 + (1 : Int32)))
def pX6_knotsOf (S : Ob)  (a : Int32) : Option (Int32) :=
  (pX6_knotsOf_l4 S a fu (0 : Int32) (0 : Int32)).bind fun r8 =>
  some r8
def pX5_measureOf (Sb : Ob)  (a : Option Nat) (c : Int32) : Option (Int32) :=
  gd (wOk a) (
    if a = some 2 then
      gd (inB c 6) (some (oA Sb 1 c.toNatClampNeg))
    else
      gd (wOk a) (
        if a = some 19 then
          (pX6_knotsOf Sb c).bind fun r8 =>
          some r8
        else
          gd (wOk a) (
            if a = some 20 then
              gd (inB c 6) (some (oA Sb 2 c.toNatClampNeg))
            else
              some c)))
def pX6_alike_l19 (S : Ob) (l1 : Int32) (l2 : Int32) : Nat → Int32 → Option (Int32)
  | 0, _ => none
  | n + 1, l3 =>
    gd (inB l1 6) (
      if oA S 1 l1.toNatClampNeg ≤ l3 then
        some (1 : Int32)
      else
        (pX6_layerAt S l1 l3).bind fun r6 =>
        (pX6_layerAt S l2 l3).bind fun r8 =>
        if r6 = r8 then
          (pX6_alike_l19  S l1 l2 n) (l3 + (1 : Int32))
        else
          some (0 : Int32))
def pX6_alike (S : Ob)  (a : Int32) (b : Int32) : Option (Int32) :=
  gd (inB a 6) (
    gd (inB b 6) (
      if oA S 1 a.toNatClampNeg = oA S 1 b.toNatClampNeg then
        pX6_alike_l19 S a b fu (0 : Int32)
      else
        some (0 : Int32)))
def pX6_has_l2 (S : Ob) (l1 : Int32) (l2 : Int32) : Nat → Int32 → Option (Int32)
  | 0, _ => none
  | n + 1, l3 =>
    gd (inB l1 6) (
      if oA S 1 l1.toNatClampNeg ≤ l3 then
        some (0 : Int32)
      else
        (pX6_layerAt S l1 l3).bind fun r3 =>
        if r3 = l2 then
          some (1 : Int32)
        else
          (pX6_has_l2  S l1 l2 n) (l3 + (1 : Int32)))
def pX6_has (S : Ob)  (a : Int32) (b : Int32) : Option (Int32) :=
  pX6_has_l2 S a b fu (0 : Int32)
def pX5_isPlainTrue (S : Ob) (Sa : Ob) (Sb : Ob)  (c : Int32) (d : Int32) : Option (Int32) :=
  gd (inB d 40) (
    gd (wOk (oX S 0 d.toNatClampNeg)) (
      if oX S 0 d.toNatClampNeg = some 14 then
        gd (inB c 6) (
          if oA Sb 1 c.toNatClampNeg = 0 then
            some (1 : Int32)
          else
            some (0 : Int32))
      else
        gd (wOk (oX S 0 d.toNatClampNeg)) (
          if oX S 0 d.toNatClampNeg = some 15 then
            (pX6_isNest Sb c).bind fun r35 =>
            gd (z01 r35) (some r35)
          else
            gd (wOk (oX S 0 d.toNatClampNeg)) (
              if oX S 0 d.toNatClampNeg = some 16 then
                gd (inB c 6) (
                  gd (inB c 6) (
                    if oA Sb 2 c.toNatClampNeg < oA Sa 6 c.toNatClampNeg then
                      some (0 : Int32)
                    else
                      some (1 : Int32)))
              else
                gd (wOk (oX S 0 d.toNatClampNeg)) (
                  if oX S 0 d.toNatClampNeg = some 17 then
                    gd (inB d 40) (
                      (pX6_has Sb c (oA S 2 d.toNatClampNeg)).bind fun r29 =>
                      gd (z01 r29) (some r29))
                  else
                    gd (wOk (oX S 0 d.toNatClampNeg)) (
                      if oX S 0 d.toNatClampNeg = some 18 then
                        gd (inB d 40) (
                          (pX6_alike Sb c (oA S 2 d.toNatClampNeg)).bind fun r25 =>
                          gd (z01 r25) (some r25))
                      else
                        (pX5_measureOf Sb (oX S 0 d.toNatClampNeg) c).bind fun r12 =>
                        gd (inB d 40) (
                          if oA S 1 d.toNatClampNeg = (60 : Int32) then
                            gd (inB d 40) (
                              if oA S 2 d.toNatClampNeg ≤ r12 then
                                some (0 : Int32)
                              else
                                some (1 : Int32))
                          else
                            gd (inB d 40) (
                              if oA S 1 d.toNatClampNeg = (61 : Int32) then
                                gd (inB d 40) (
                                  if r12 = oA S 2 d.toNatClampNeg then
                                    some (1 : Int32)
                                  else
                                    some (0 : Int32))
                              else
                                gd (inB d 40) (
                                  if r12 ≤ oA S 2 d.toNatClampNeg then
                                    some (0 : Int32)
                                  else
                                    some (1 : Int32))))))))))
