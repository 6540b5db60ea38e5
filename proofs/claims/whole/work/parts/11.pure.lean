def pX6_knotBelow_l12 (S : Ob) (l1 : Int32) (l2 : Int32) (l4 : Int32) : Nat → Int32 → Option (Int32)
  | 0, _ => none
  | n + 1, l3 =>
    if l2 ≤ l3 then
      some l3
    else
      gd (inB l1 6) (
        if oA S 1 l1.toNatClampNeg < l2 then
          some l3
        else
          gd (inB (l4 - l3) 48) (
            gd (inB l4 48) (
              if oA S 0 (l4 - l3).toNatClampNeg = oA S 0 l4.toNatClampNeg then
                (pX6_knotBelow_l12 S l1 l2 l4 n) (l3 + (1 : Int32))
              else
                some l3)))
def pX6_knotBelow (S : Ob)  (a : Int32) (b : Int32) : Option (Int32) :=
  (pX6_knotBelow_l12 S a b (((a * (8 : Int32)) + b) - (1 : Int32)) fu (0 : Int32)).bind fun r7 =>
  some r7
def pX6_layerAt (S : Ob)  (a : Int32) (b : Int32) : Option (Int32) :=
  if b < 0 then
    some (-1 : Int32)
  else
    gd (inB a 6) (
      if b < oA S 1 a.toNatClampNeg then
        gd (inB ((a * (8 : Int32)) + b) 48) (some (oA S 0 ((a * (8 : Int32)) + b).toNatClampNeg))
      else
        some (-1 : Int32))
def pX6_holdAt (S : Ob) (Sa : Ob)  (b : Int32) (c : Int32) : Option (Int32) :=
  (pX6_layerAt S b c).bind fun r1 =>
  if r1 < 0 then
    some (0 : Int32)
  else
    if r1 < (8 : Int32) then
      gd (inB r1 8) (some (oA Sa 2 r1.toNatClampNeg))
    else
      some (0 : Int32)
def pX6_outsideHolds (S : Ob) (Sa : Ob)  (b : Int32) : Option (Int32) :=
  gd (inB b 6) (
    (pX6_knotBelow S b (oA S 1 b.toNatClampNeg)).bind fun r2 =>
    gd (inB b 6) (
      (pX6_holdAt S Sa b ((oA S 1 b.toNatClampNeg) - (1 : Int32))).bind fun r5 =>
      some (r2 * r5)))
def pX6_layerFromOutside (S : Ob)  (a : Int32) (b : Int32) : Option (Int32) :=
  gd (inB a 6) (
    (pX6_layerAt S a (((oA S 1 a.toNatClampNeg) - (1 : Int32)) - b)).bind fun r2 =>
    some r2)
def pX6_putOutsideKnotIntoBag (S : Ob)  (a : Int32) : Option (Ob) :=
  gd (inB a 6) (
    (pX6_knotBelow S a (oA S 1 a.toNatClampNeg)).bind fun r2 =>
    (pX6_layerFromOutside S a (0 : Int32)).bind fun r4 =>
    if r4 < 0 then
      some S
    else
      if r4 < (8 : Int32) then
        gd (inB r4 8) (gd (inB r4 8) (gd (inB a 6) (gd (inB a 6) (some (sA (sI (sI (sA S 3 (va_up (oA S 3) r4.toNatClampNeg ((oA S 3 r4.toNatClampNeg) + (if ((10 : Int32) - (oI S 7)) < r2 then ((10 : Int32) - (oI S 7)) else r2)))) 7 ((oI (sA S 3 (va_up (oA S 3) r4.toNatClampNeg ((oA S 3 r4.toNatClampNeg) + (if ((10 : Int32) - (oI S 7)) < r2 then ((10 : Int32) - (oI S 7)) else r2)))) 7) + (if ((10 : Int32) - (oI S 7)) < r2 then ((10 : Int32) - (oI S 7)) else r2))) 11 ((oI (sI (sA S 3 (va_up (oA S 3) r4.toNatClampNeg ((oA S 3 r4.toNatClampNeg) + (if ((10 : Int32) - (oI S 7)) < r2 then ((10 : Int32) - (oI S 7)) else r2)))) 7 ((oI (sA S 3 (va_up (oA S 3) r4.toNatClampNeg ((oA S 3 r4.toNatClampNeg) + (if ((10 : Int32) - (oI S 7)) < r2 then ((10 : Int32) - (oI S 7)) else r2)))) 7) + (if ((10 : Int32) - (oI S 7)) < r2 then ((10 : Int32) - (oI S 7)) else r2))) 11) + (r2 - (if ((10 : Int32) - (oI S 7)) < r2 then ((10 : Int32) - (oI S 7)) else r2)))) 1 (va_up (oA (sI (sI (sA S 3 (va_up (oA S 3) r4.toNatClampNeg ((oA S 3 r4.toNatClampNeg) + (if ((10 : Int32) - (oI S 7)) < r2 then ((10 : Int32) - (oI S 7)) else r2)))) 7 ((oI (sA S 3 (va_up (oA S 3) r4.toNatClampNeg ((oA S 3 r4.toNatClampNeg) + (if ((10 : Int32) - (oI S 7)) < r2 then ((10 : Int32) - (oI S 7)) else r2)))) 7) + (if ((10 : Int32) - (oI S 7)) < r2 then ((10 : Int32) - (oI S 7)) else r2))) 11 ((oI (sI (sA S 3 (va_up (oA S 3) r4.toNatClampNeg ((oA S 3 r4.toNatClampNeg) + (if ((10 : Int32) - (oI S 7)) < r2 then ((10 : Int32) - (oI S 7)) else r2)))) 7 ((oI (sA S 3 (va_up (oA S 3) r4.toNatClampNeg ((oA S 3 r4.toNatClampNeg) + (if ((10 : Int32) - (oI S 7)) < r2 then ((10 : Int32) - (oI S 7)) else r2)))) 7) + (if ((10 : Int32) - (oI S 7)) < r2 then ((10 : Int32) - (oI S 7)) else r2))) 11) + (r2 - (if ((10 : Int32) - (oI S 7)) < r2 then ((10 : Int32) - (oI S 7)) else r2)))) 1) a.toNatClampNeg ((oA (sI (sI (sA S 3 (va_up (oA S 3) r4.toNatClampNeg ((oA S 3 r4.toNatClampNeg) + (if ((10 : Int32) - (oI S 7)) < r2 then ((10 : Int32) - (oI S 7)) else r2)))) 7 ((oI (sA S 3 (va_up (oA S 3) r4.toNatClampNeg ((oA S 3 r4.toNatClampNeg) + (if ((10 : Int32) - (oI S 7)) < r2 then ((10 : Int32) - (oI S 7)) else r2)))) 7) + (if ((10 : Int32) - (oI S 7)) < r2 then ((10 : Int32) - (oI S 7)) else r2))) 11 ((oI (sI (sA S 3 (va_up (oA S 3) r4.toNatClampNeg ((oA S 3 r4.toNatClampNeg) + (if ((10 : Int32) - (oI S 7)) < r2 then ((10 : Int32) - (oI S 7)) else r2)))) 7 ((oI (sA S 3 (va_up (oA S 3) r4.toNatClampNeg ((oA S 3 r4.toNatClampNeg) + (if ((10 : Int32) - (oI S 7)) < r2 then ((10 : Int32) - (oI S 7)) else r2)))) 7) + (if ((10 : Int32) - (oI S 7)) < r2 then ((10 : Int32) - (oI S 7)) else r2))) 11) + (r2 - (if ((10 : Int32) - (oI S 7)) < r2 then ((10 : Int32) - (oI S 7)) else r2)))) 1 a.toNatClampNeg) - r2)))))))
      else
        some S)
def pX6_comb_l6 (Sa : Ob) (l2 : Int32) (l3 : Int32) : Nat → Int32 → Int32 → Ob → Option (Ob)
  | 0, _, _, _ => none
  | n + 1, l4, l5, S =>
    if (8 : Int32) ≤ l5 then
      some S
    else
      gd (inB l2 6) (
        if oA S 1 l2.toNatClampNeg ≤ 0 then
          some S
        else
          (pX6_outsideHolds S Sa l2).bind fun r4 =>
          if l4 < r4 then
            some S
          else
            (pX6_outsideHolds S Sa l2).bind fun r7 =>
            (pX6_putOutsideKnotIntoBag S l2).bind fun r9 =>
            (pX6_comb_l6 Sa l2 l3 n) (l4 - r7) (l5 + (1 : Int32)) r9)
def pX6_comb (S : Ob) (Sa : Ob)  (b : Int32) (c : Int32) : Option (Ob) :=
  (pX6_comb_l6 Sa b c fu c (0 : Int32) S).bind fun r11 =>
  gd (inB b 6) (gd (inB b 6) (some (sI (sA r11 2 (va_up (oA r11 2) b.toNatClampNeg ((oA r11 2 b.toNatClampNeg) + c))) 9 ((oI (sA r11 2 (va_up (oA r11 2) b.toNatClampNeg ((oA r11 2 b.toNatClampNeg) + c))) 9) + (1 : Int32)))))
