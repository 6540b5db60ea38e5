def pX11_laysBag_l12 (l2 : Int32) : Nat → Int32 → Int32 → Ob → Option (Int32 × Ob)
  | 0, _, _, _ => none
  | n + 1, l1, l3, S =>
    gd (inB ((185 : Int32) + l2) 390) (
      if oA S 6 ((185 : Int32) + l2).toNatClampNeg ≤ l3 then
        some (l1, S)
      else
        gd (inB ((13 : Int32) + l2) 390) (gd (inB l1 10) ((pX11_laysBag_l12  l2 n) (l1 + (1 : Int32)) (l3 + (1 : Int32)) (sA S 28 (va_up (oA S 28) l1.toNatClampNeg (oA S 6 ((13 : Int32) + l2).toNatClampNeg))))))
def pX11_laysBag_l4  : Nat → Int32 → Int32 → Ob → Option (Int32 × Ob)
  | 0, _, _, _ => none
  | n + 1, l1, l2, S =>
    if (8 : Int32) ≤ l2 then
      some (l1, S)
    else
      (pX11_laysBag_l12 l2 fu l1 (0 : Int32) S).bind fun r6 =>
      (pX11_laysBag_l4   n) r6.1 (l2 + (1 : Int32)) r6.2
def pX11_laysBag_l74 (l1 : Int32) (l2 : Int32) : Nat → Int32 → Ob → Option (Ob)
  | 0, _, _ => none
  | n + 1, l3, S =>
    if l1 ≤ l3 then
      some S
    else
      gd (inB l2 1024) (
        (pX11_bitOf l2 l3).bind fun r14 =>
        if r14 = 0 then
          gd (inB l2 1024) ((pX11_laysBag_l74  l1 l2 n) (l3 + (1 : Int32)) (sA S 27 (va_up (oA S 27) l2.toNatClampNeg ((oA S 27 l2.toNatClampNeg) + (0 : Int32)))))
        else
          gd (inB l3 10) (gd (inB l2 1024) ((pX11_laysBag_l74  l1 l2 n) (l3 + (1 : Int32)) (sA S 27 (va_up (oA S 27) l2.toNatClampNeg ((oA S 27 l2.toNatClampNeg) + (oA S 28 l3.toNatClampNeg)))))))
def pX11_laysBag_l58 (l1 : Int32) : Nat → Int32 → Ob → Option (Ob)
  | 0, _, _ => none
  | n + 1, l2, S =>
    if (1 : Int32) <<< (l1 &&& 31) ≤ l2 then
      some S
    else
      gd (inB l2 1024) (
        (pX11_laysBag_l74 l1 l2 fu (0 : Int32) (sA S 27 (va_up (oA S 27) l2.toNatClampNeg (0 : Int32)))).bind fun r20 =>
        (pX11_laysBag_l58  l1 n) (l2 + (1 : Int32)) r20)
def pX11_laysBag (S : Ob)   : Option (Int32 × Ob) :=
  (pX11_laysBag_l4 fu (0 : Int32) (0 : Int32) S).bind fun r8 =>
  (pX11_laysBag_l58 r8.1 fu (0 : Int32) r8.2).bind fun r22 =>
  some (r8.1, r22)
def pX11_fills_l2 (S : Ob) (l1 : Int32) (l2 : Int32) : Nat → Int32 → Option (Int32)
  | 0, _ => none
  | n + 1, l3 =>
    (pX11_bitOf l1 l3).bind fun r1 =>
    if r1 = 0 then
      (pX11_fills_l2  S l1 l2 n) (l3 + (-1 : Int32))
    else
      some l3
def pX11_fills_j109 (rec : Int32 → Int32 → Option (Int32)) (S : Ob) (l1 : Int32) (l2 : Int32) (l3 : Int32) (l4 : Int32) (l5 : Int32) (l6 : Int32) (l7 : Int32) (l8 : Int32) (s0 : Int32) : Option (Int32) :=
  rec s0 ((l8 - (1 : Int32)) &&& l6)
def pX11_fills_j108 (rec : Int32 → Int32 → Option (Int32)) (S : Ob) (l1 : Int32) (l2 : Int32) (l3 : Int32) (l4 : Int32) (l5 : Int32) (l6 : Int32) (l7 : Int32) (l8 : Int32) : Option (Int32) :=
  pX11_fills_j109 rec S l1 l2 l3 l4 l5 l6 l7 l8 (0 : Int32)
def pX11_fills_l59 (S : Ob) (l1 : Int32) (l2 : Int32) (l3 : Int32) (l4 : Int32) (l5 : Int32) (l6 : Int32) : Nat → Int32 → Int32 → Option (Int32)
  | 0, _, _ => none
  | n + 1, l7, l8 =>
    if l8 ≤ 0 then
      some l7
    else
      if l7 = 0 then
        gd (inB l8 1024) (
          if oA S 27 l8.toNatClampNeg < l4 then
            pX11_fills_j108 (pX11_fills_l59  S l1 l2 l3 l4 l5 l6 n) S l1 l2 l3 l4 l5 l6 l7 l8
          else
            gd (inB (((1024 : Int32) * (l1 ^^^ ((1 : Int32) <<< (l3 &&& 31)))) + (l6 ^^^ l8)) 16384) (
              if oA S 26 (((1024 : Int32) * (l1 ^^^ ((1 : Int32) <<< (l3 &&& 31)))) + (l6 ^^^ l8)).toNatClampNeg = 0 then
                pX11_fills_j108 (pX11_fills_l59  S l1 l2 l3 l4 l5 l6 n) S l1 l2 l3 l4 l5 l6 l7 l8
              else
                pX11_fills_j109 (pX11_fills_l59  S l1 l2 l3 l4 l5 l6 n) S l1 l2 l3 l4 l5 l6 l7 l8 (1 : Int32)))
      else
        some l7
def pX11_fills_j148 (rec : Int32 → Int32 → Ob → Option (Int32 × Ob)) (S : Ob) (l1 : Int32) (l2 : Int32) (l3 : Int32) (l4 : Int32) (l5 : Int32) (l6 : Int32) : Option (Int32 × Ob) :=
  rec (1 : Int32) (l6 + (1 : Int32)) S
def pX11_fills_l44 (l1 : Int32) (l2 : Int32) (l3 : Int32) (l4 : Int32) : Nat → Int32 → Int32 → Ob → Option (Int32 × Ob)
  | 0, _, _, _ => none
  | n + 1, l5, l6, S =>
    if (1 : Int32) <<< (l2 &&& 31) ≤ l6 then
      some (l5, S)
    else
      (pX11_fills_l59 S l1 l2 l3 l4 l5 l6 fu (0 : Int32) l6).bind fun r15 =>
      gd (z01 r15) (
        gd (inB (((1024 : Int32) * l1) + l6) 16384) (
          if l5 = 0 then
            if r15 = 0 then
              (pX11_fills_l44  l1 l2 l3 l4 n) (0 : Int32) (l6 + (1 : Int32)) (sA S 26 (va_up (oA S 26) ((((1024 : Int32) * l1) + l6).toNatClampNeg) r15))
            else
              pX11_fills_j148 (pX11_fills_l44  l1 l2 l3 l4 n) (sA S 26 (va_up (oA S 26) ((((1024 : Int32) * l1) + l6).toNatClampNeg) r15)) l1 l2 l3 l4 l5 l6
          else
            pX11_fills_j148 (pX11_fills_l44  l1 l2 l3 l4 n) (sA S 26 (va_up (oA S 26) ((((1024 : Int32) * l1) + l6).toNatClampNeg) r15)) l1 l2 l3 l4 l5 l6))
def pX11_fills (S : Ob)  (a : Int32) (b : Int32) : Option (Int32 × Ob) :=
  (pX11_fills_l2 S a b fu (3 : Int32)).bind fun r4 =>
  gd (inB ((117 : Int32) + r4) 390) (
    gd (inB ((193 : Int32) + r4) 390) (
      (pX11_fills_l44 a b r4 ((oA S 6 ((117 : Int32) + r4).toNatClampNeg) - (oA S 6 ((193 : Int32) + r4).toNatClampNeg)) fu (0 : Int32) (0 : Int32) S).bind fun r21 =>
      gd (z01 r21.1) (some (r21.1, r21.2))))
def pX11_beds_l20 (l1 : Int32) (l2 : Int32) (l3 : Int32) : Nat → Int32 → Ob → Option (Ob)
  | 0, _, _ => none
  | n + 1, l4, S =>
    if (1 : Int32) <<< (l1 &&& 31) ≤ l4 then
      some S
    else
      if l4 = 0 then
        gd (inB l4 16384) ((pX11_beds_l20  l1 l2 l3 n) (l4 + (1 : Int32)) (sA S 26 (va_up (oA S 26) l4.toNatClampNeg (1 : Int32))))
      else
        gd (inB l4 16384) ((pX11_beds_l20  l1 l2 l3 n) (l4 + (1 : Int32)) (sA S 26 (va_up (oA S 26) l4.toNatClampNeg (0 : Int32))))
def pX11_beds_l54 (l1 : Int32) (l2 : Int32) : Nat → Int32 → Int32 → Ob → Option (Int32 × Ob)
  | 0, _, _, _ => none
  | n + 1, l3, l4, S =>
    if (1 : Int32) <<< ((oA S 6 3) &&& 31) ≤ l4 then
      some (l3, S)
    else
      if l4 &&& l2 = 0 then
        (pX11_fills S l4 l1).bind fun r13 =>
        if r13.1 = 0 then
          (pX11_beds_l54  l1 l2 n) l3 (l4 + (1 : Int32)) r13.2
        else
          (pX11_bits (l4 ||| l2)).bind fun r16 =>
          (pX11_bits l3).bind fun r18 =>
          if r18 < r16 then
            (pX11_beds_l54  l1 l2 n) (l4 ||| l2) (l4 + (1 : Int32)) r13.2
          else
            (pX11_bits (l4 ||| l2)).bind fun r21 =>
            (pX11_bits l3).bind fun r23 =>
            if r21 = r23 then
              if l3 ≤ l4 ||| l2 then
                (pX11_beds_l54  l1 l2 n) l3 (l4 + (1 : Int32)) r13.2
              else
                (pX11_beds_l54  l1 l2 n) (l4 ||| l2) (l4 + (1 : Int32)) r13.2
            else
              (pX11_beds_l54  l1 l2 n) l3 (l4 + (1 : Int32)) r13.2
      else
        (pX11_beds_l54  l1 l2 n) l3 (l4 + (1 : Int32)) S
def pX11_beds (S : Ob)   : Option (Int32 × Ob) :=
  (pX11_laysBag (sI S 0 (0 : Int32))).bind fun r1 =>
  (pX11_sleptOn r1.2).bind fun r3 =>
  (pX11_beds_l20 r1.1 r3 r3 fu (0 : Int32) r1.2).bind fun r9 =>
  (pX11_beds_l54 r1.1 r3 fu r3 (1 : Int32) r9).bind fun r27 =>
  (pX11_bits r27.1).bind fun r29 =>
  some (r29, sI (sI r27.2 30 (1 : Int32)) 29 r27.1)
def pX11_bedded (S : Ob)   : Option (Int32 × Ob) :=
  if oI (sI S 0 (0 : Int32)) 30 = 0 then
    some ((-1 : Int32), sI S 0 (0 : Int32))
  else
    some (oI (sI S 0 (0 : Int32)) 29, sI S 0 (0 : Int32))
def pX11_isFit_l24 (S : Ob) (l1 : Int32) : Nat → Int32 → Int32 → Option (Int32)
  | 0, _, _ => none
  | n + 1, l2, l3 =>
    if oI S 3 ≤ l3 then
      some l2
    else
      if l2 = 0 then
        some l2
      else
        (pX11_fromOutside S l1 (((oI S 3) - (1 : Int32)) - l3)).bind fun r5 =>
        (pX11_octet S l3).bind fun r7 =>
        if r5 = r7 then
          (pX11_isFit_l24  S l1 n) (1 : Int32) (l3 + (1 : Int32))
        else
          (pX11_isFit_l24  S l1 n) (0 : Int32) (l3 + (1 : Int32))
def pX11_isFit_j21 (S : Ob) (l1 : Int32) (s0 : Int32) : Option (Int32) :=
  (pX11_isFit_l24 S l1 fu s0 (0 : Int32)).bind fun r10 =>
  gd (z01 r10) (some r10)
def pX11_isFit (S : Ob)  (a : Int32) : Option (Int32) :=
  gd (inB ((125 : Int32) + a) 390) (
    if oA S 6 ((125 : Int32) + a).toNatClampNeg < oI S 3 then
      pX11_isFit_j21 S a (0 : Int32)
    else
      pX11_isFit_j21 S a (1 : Int32))
def pX11_leftBy_j60 (rec : Int32 → Int32 → Option (Int32)) (S : Ob) (l1 : Int32) (l2 : Int32) (l3 : Int32) (l4 : Int32) (l5 : Int32) (l6 : Int32) (s0 : Int32) : Option (Int32) :=
  rec (s0 + (0 : Int32)) (l6 + (1 : Int32))
def pX11_leftBy_l22 (S : Ob) (l1 : Int32) (l2 : Int32) (l3 : Int32) (l4 : Int32) : Nat → Int32 → Int32 → Option (Int32)
  | 0, _, _ => none
  | n + 1, l5, l6 =>
    if oA S 6 1 ≤ l6 then
      some l5
    else
      (pX11_bitOf l1 l6).bind fun r3 =>
      if r3 = 0 then
        pX11_leftBy_j60 (pX11_leftBy_l22  S l1 l2 l3 l4 n) S l1 l2 l3 l4 l5 l6 l5
      else
        (pX11_fromOutside S l6 l2).bind fun r6 =>
        if r6 = l4 then
          (pX11_leftBy_l22  S l1 l2 l3 l4 n) (l5 + (1 : Int32)) (l6 + (1 : Int32))
        else
          pX11_leftBy_j60 (pX11_leftBy_l22  S l1 l2 l3 l4 n) S l1 l2 l3 l4 l5 l6 l5
def pX11_leftBy_l5 (S : Ob) (l1 : Int32) (l2 : Int32) : Nat → Int32 → Int32 → Option (Int32)
  | 0, _, _ => none
  | n + 1, l3, l4 =>
    if oA S 6 0 ≤ l4 then
      some l3
    else
      (pX11_leftBy_l22 S l1 l2 l3 l4 fu (0 : Int32) (0 : Int32)).bind fun r9 =>
      (pX11_greater l3 r9).bind fun r11 =>
      (pX11_leftBy_l5  S l1 l2 n) r11 (l4 + (1 : Int32))
def pX11_leftBy (S : Ob)  (a : Int32) (b : Int32) : Option (Int32) :=
  (pX11_leftBy_l5 S a b fu (0 : Int32) (-1 : Int32)).bind fun r13 =>
  some r13
def pX11_fits_l61 (S : Ob) : Nat → Int32 → Int32 → Option (Int32)
  | 0, _, _ => none
  | n + 1, l1, l2 =>
    if oA S 6 1 ≤ l2 then
      some l1
    else
      (pX11_isFit S l2).bind fun r8 =>
      if r8 = 0 then
        (pX11_fits_l61  S n) (l1 ||| (0 : Int32)) (l2 + (1 : Int32))
      else
        (pX11_fits_l61  S n) (l1 ||| ((1 : Int32) <<< (l2 &&& 31))) (l2 + (1 : Int32))
def pX11_fits_l113 (l1 : Int32) : Nat → Int32 → Ob → Option (Ob)
  | 0, _, _ => none
  | n + 1, l2, S =>
    if (8 : Int32) ≤ l2 then
      some S
    else
      (pX11_leftBy S l1 l2).bind fun r15 =>
      (pX11_leftBy S l1 (oI S 31)).bind fun r17 =>
      if r17 ≤ r15 then
        (pX11_fits_l113  l1 n) (l2 + (1 : Int32)) S
      else
        (pX11_fits_l113  l1 n) (l2 + (1 : Int32)) (sI S 31 l2)
def pX11_fits_l29 (S : Ob) : Nat → Int32 → Option (Int32 × Ob)
  | 0, _ => none
  | n + 1, l1 =>
    if oI S 3 ≤ l1 then
      (pX11_fits_l61 S fu (0 : Int32) (0 : Int32)).bind fun r11 =>
      if r11 = 0 then
        some ((0 : Int32), S)
      else
        (pX11_fits_l113 r11 fu (1 : Int32) (sI (sI S 32 (1 : Int32)) 31 (0 : Int32))).bind fun r20 =>
        some (r11, r20)
    else
      (pX11_octet S l1).bind fun r22 =>
      (pX11_isThing S r22).bind fun r24 =>
      if r24 = 0 then
        some ((-1 : Int32), S)
      else
        (pX11_fits_l29  S n) (l1 + (1 : Int32))
def pX11_fits (S : Ob)   : Option (Int32 × Ob) :=
  (pX11_taken (sI S 0 (0 : Int32)) (940 : Int32)).bind fun r1 =>
  (pX11_isIn (oI r1 3) (1 : Int32) (8 : Int32)).bind fun r3 =>
  if r3 = 0 then
    some ((-1 : Int32), r1)
  else
    pX11_fits_l29 r1 fu (0 : Int32)
def pX11_ask (S : Ob)   : Option (Int32 × Ob) :=
  if oI (sI S 0 (0 : Int32)) 32 = 0 then
    some ((-1 : Int32), sI S 0 (0 : Int32))
  else
    some (oI (sI S 0 (0 : Int32)) 31, sI S 0 (0 : Int32))
def pX11_isLike_l30 (S : Ob) (l1 : Int32) (l2 : Int32) : Nat → Int32 → Int32 → Option (Int32)
  | 0, _, _ => none
  | n + 1, l3, l4 =>
    gd (inB ((125 : Int32) + l1) 390) (
      if oA S 6 ((125 : Int32) + l1).toNatClampNeg ≤ l4 then
        some l3
      else
        if l3 = 0 then
          some l3
        else
          gd (inB (((131 : Int32) + ((8 : Int32) * l1)) + l4) 390) (
            gd (inB (((131 : Int32) + ((8 : Int32) * l2)) + l4) 390) (
              if oA S 6 (((131 : Int32) + ((8 : Int32) * l1)) + l4).toNatClampNeg = oA S 6 (((131 : Int32) + ((8 : Int32) * l2)) + l4).toNatClampNeg then
                (pX11_isLike_l30  S l1 l2 n) (1 : Int32) (l4 + (1 : Int32))
              else
                (pX11_isLike_l30  S l1 l2 n) (0 : Int32) (l4 + (1 : Int32)))))
def pX11_isLike_j26 (S : Ob) (l1 : Int32) (l2 : Int32) (s0 : Int32) : Option (Int32) :=
  (pX11_isLike_l30 S l1 l2 fu s0 (0 : Int32)).bind fun r10 =>
  gd (z01 r10) (some r10)
def pX11_isLike (S : Ob)  (a : Int32) (b : Int32) : Option (Int32) :=
  gd (inB ((125 : Int32) + a) 390) (
    gd (inB ((125 : Int32) + b) 390) (
      if oA S 6 ((125 : Int32) + a).toNatClampNeg = oA S 6 ((125 : Int32) + b).toNatClampNeg then
        pX11_isLike_j26 S a b (1 : Int32)
      else
        pX11_isLike_j26 S a b (0 : Int32)))
def pX11_like_j50 (rec : Int32 → Int32 → Option (Int32)) (S : Ob) (l1 : Int32) (l2 : Int32) (l3 : Int32) (s0 : Int32) : Option (Int32) :=
  rec (s0 ||| (0 : Int32)) (l3 + (1 : Int32))
def pX11_like_l19 (S : Ob) (l1 : Int32) : Nat → Int32 → Int32 → Option (Int32)
  | 0, _, _ => none
  | n + 1, l2, l3 =>
    if oA S 6 1 ≤ l3 then
      some l2
    else
      if l3 = l1 then
        pX11_like_j50 (pX11_like_l19  S l1 n) S l1 l2 l3 l2
      else
        (pX11_isLike S l1 l3).bind fun r6 =>
        if r6 = 0 then
          pX11_like_j50 (pX11_like_l19  S l1 n) S l1 l2 l3 l2
        else
          (pX11_like_l19  S l1 n) (l2 ||| ((1 : Int32) <<< (l3 &&& 31))) (l3 + (1 : Int32))
def pX11_like (S : Ob)  (a : Int32) : Option (Int32 × Ob) :=
  (pX11_isPerson (sI S 0 (0 : Int32)) a).bind fun r1 =>
  if r1 = 0 then
    some ((-1 : Int32), sI S 0 (0 : Int32))
  else
    (pX11_like_l19 (sI S 0 (0 : Int32)) a fu (0 : Int32) (0 : Int32)).bind fun r9 =>
    some (r9, sI S 0 (0 : Int32))
def pX11_hardest_l9 (S : Ob) : Nat → Int32 → Int32 → Option (Int32)
  | 0, _, _ => none
  | n + 1, l1, l2 =>
    if oA S 6 1 ≤ l2 then
      some l1
    else
      if l1 < 0 then
        (pX11_hardest_l9  S n) l2 (l2 + (1 : Int32))
      else
        (pX11_holdsOf S l2).bind fun r3 =>
        (pX11_holdsOf S l1).bind fun r5 =>
        if r3 ≤ r5 then
          (pX11_hardest_l9  S n) l1 (l2 + (1 : Int32))
        else
          (pX11_hardest_l9  S n) l2 (l2 + (1 : Int32))
def pX11_hardest (S : Ob)   : Option (Int32 × Ob) :=
  (pX11_hardest_l9 (sI S 0 (0 : Int32)) fu (-1 : Int32) (0 : Int32)).bind fun r8 =>
  some (r8, sI S 0 (0 : Int32))
def pX11_mean_l56 (S : Ob) (l1 : Int32) (l2 : Int32) : Nat → Int32 → Int32 → Option (Int32)
  | 0, _, _ => none
  | n + 1, l3, l4 =>
    if l4 = 0 then
      some l3
    else
      gd (decide (¬ l4 = 0)) ((pX11_mean_l56  S l1 l2 n) l4 (l3 - l3 / l4 * l4))
def pX11_mean_j35 (S : Ob) (l1 : Int32) (l2 : Int32) (s1 : Int32) : Option (Int32 × Ob) :=
  (pX11_throwsIf S s1).bind fun r4 =>
  if r4.1 = 0 then
    (pX11_knotsOf r4.2 l1).bind fun r7 =>
    (pX11_holdsOf r4.2 l1).bind fun r9 =>
    (pX11_mean_l56 r4.2 l1 l2 fu r7 r9).bind fun r13 =>
    if l2 = 0 then
      (pX11_holdsOf r4.2 l1).bind fun r19 =>
      gd (decide (¬ r13 = 0)) (some (r19 / r13, r4.2))
    else
      (pX11_knotsOf r4.2 l1).bind fun r16 =>
      gd (decide (¬ r13 = 0)) (some (r16 / r13, r4.2))
  else
    some ((0 : Int32), r4.2)
def pX11_mean_j30 (S : Ob) (l1 : Int32) (l2 : Int32) : Option (Int32 × Ob) :=
  pX11_mean_j35 S l1 l2 (1 : Int32)
def pX11_mean (S : Ob)  (a : Int32) (b : Int32) : Option (Int32 × Ob) :=
  (pX11_isPerson S a).bind fun r1 =>
  if r1 = 0 then
    pX11_mean_j30 S a b
  else
    (pX11_isIn b (0 : Int32) (1 : Int32)).bind fun r22 =>
    if r22 = 0 then
      pX11_mean_j30 S a b
    else
      gd (inB ((125 : Int32) + a) 390) (
        if oA S 6 ((125 : Int32) + a).toNatClampNeg = 0 then
          pX11_mean_j30 S a b
        else
          pX11_mean_j35 S a b (0 : Int32))
def pX11_lays (S : Ob)  (a : Int32) : Option (Ob) :=
  gd (inB (oI S 34) 88) (some (sI (sA S 33 (va_up (oA S 33) ((oI S 34).toNatClampNeg) a.toInt8.toInt32.toInt8.toInt32)) 34 ((oI (sA S 33 (va_up (oA S 33) ((oI S 34).toNatClampNeg) a.toInt8.toInt32.toInt8.toInt32)) 34) + (1 : Int32))))
def pX11_spells_l3 (l1 : Int64) : Nat → Int32 → Ob → Option (Ob)
  | 0, _, _ => none
  | n + 1, l3, S =>
    if l3 < 0 then
      some S
    else
      if lg_cmp ((l1 >>> (l3.toInt64 &&& 63)) &&& (255 : Int64)) (0 : Int64) = 0 then
        (pX11_spells_l3  l1 n) (l3 + (-8 : Int32)) S
      else
        (pX11_lays S (((l1 >>> (l3.toInt64 &&& 63)) &&& (255 : Int64)).toInt32)).bind fun r3 =>
        (pX11_spells_l3  l1 n) (l3 + (-8 : Int32)) r3
def pX11_spells (S : Ob)  (a : Int64) : Option (Ob) :=
  (pX11_spells_l3 a fu (56 : Int32) S).bind fun r5 =>
  some r5
def pX11_says (S : Ob)  (a : Int64) : Option (Ob) :=
  (pX11_lays S (32 : Int32)).bind fun r1 =>
  (pX11_spells r1 a).bind fun r3 =>
  some r3
def pX11_tag_l86 (S : Ob) (l1 : Int32) (l3 : Int32) : Nat → Int32 → Int32 → Option (Int32 × Int32)
  | 0, _, _ => none
  | n + 1, l2, l4 =>
    gd (inB ((125 : Int32) + l1) 390) (
      if oA S 6 ((125 : Int32) + l1).toNatClampNeg ≤ l2 then
        some (l2, l4)
      else
        gd (inB (((131 : Int32) + ((8 : Int32) * l1)) + l2) 390) (
          if oA S 6 (((131 : Int32) + ((8 : Int32) * l1)) + l2).toNatClampNeg = l3 then
            (pX11_tag_l86  S l1 l3 n) (l2 + (1 : Int32)) (l4 + (1 : Int32))
          else
            some (l2, l4)))
def pX11_tag_l54 (l1 : Int32) : Nat → Int32 → Ob → Option (Ob)
  | 0, _, _ => none
  | n + 1, l2, S =>
    gd (inB ((125 : Int32) + l1) 390) (
      if oA S 6 ((125 : Int32) + l1).toNatClampNeg ≤ l2 then
        some S
      else
        gd (inB (((131 : Int32) + ((8 : Int32) * l1)) + l2) 390) (
          (pX11_tag_l86 S l1 (oA S 6 (((131 : Int32) + ((8 : Int32) * l1)) + l2).toNatClampNeg) fu l2 (0 : Int32)).bind fun r16 =>
          gd (inB (oA S 6 (((131 : Int32) + ((8 : Int32) * l1)) + l2).toNatClampNeg) 36) (
            (pX11_says S (oJ S 9 (oA S 6 (((131 : Int32) + ((8 : Int32) * l1)) + l2).toNatClampNeg).toNatClampNeg)).bind fun r19 =>
            if r16.2 ≤ (1 : Int32) then
              (pX11_tag_l54  l1 n) r16.1 r19
            else
              (pX11_lays r19 ((48 : Int32) + r16.2)).bind fun r22 =>
              (pX11_tag_l54  l1 n) r16.1 r22)))
def pX11_tag_j52 (S : Ob) (l1 : Int32) : Option (Int32 × Ob) :=
  (pX11_tag_l54 l1 fu (0 : Int32) S).bind fun r24 =>
  some (oI r24 34, r24)
def pX11_tag (S : Ob)  (a : Int32) : Option (Int32 × Ob) :=
  (pX11_isPerson (sI S 0 (0 : Int32)) a).bind fun r1 =>
  if r1 = 0 then
    some ((-1 : Int32), sI S 0 (0 : Int32))
  else
    gd (inB ((8 : Int32) + a) 36) (
      (pX11_spells (sI (sI S 0 (0 : Int32)) 34 (0 : Int32)) (oJ (sI (sI S 0 (0 : Int32)) 34 (0 : Int32)) 9 ((8 : Int32) + a).toNatClampNeg)).bind fun r5 =>
      gd (inB ((125 : Int32) + a) 390) (
        if oA r5 6 ((125 : Int32) + a).toNatClampNeg = 0 then
          (pX11_says r5 (1650553445 : Int64)).bind fun r26 =>
          pX11_tag_j52 r26 a
        else
          pX11_tag_j52 r5 a))
def pX11_byteAt (S : Ob)  (a : Int32) : Option (Int32 × Ob) :=
  (pX11_isIn a (0 : Int32) ((oI (sI S 0 (0 : Int32)) 34) - (1 : Int32))).bind fun r1 =>
  if r1 = 0 then
    some ((-1 : Int32), sI S 0 (0 : Int32))
  else
    gd (inB a 88) (some (oA (sI S 0 (0 : Int32)) 33 a.toNatClampNeg, sI S 0 (0 : Int32)))
def pX11_chance (S : Ob)  (a : Int32) : Option (Int32 × Ob) :=
  gd (decide (¬ a = 0)) (some ((ushr32 (oI (sI S 35 (((oI S 35) * (1103515245 : Int32)) + (12345 : Int32))) 35) (8 : Int32)) - (ushr32 (oI (sI S 35 (((oI S 35) * (1103515245 : Int32)) + (12345 : Int32))) 35) (8 : Int32)) / a * a, sI S 35 (((oI S 35) * (1103515245 : Int32)) + (12345 : Int32))))
def pX11_chanceOf_j49 (S : Ob) (l1 : Int32) (l2 : Int32) : Option (Ob) :=
  if l2 = (2 : Int32) then
    (pX11_chance S (20 : Int32)).bind fun r10 =>
    (pX11_whyStroke r10.2 l1 (r10.1 + (1 : Int32))).bind fun r12 =>
    if r12 = 0 then
      (pX11_strokes r10.2 l1 (r10.1 + (1 : Int32))).bind fun r15 =>
      some r15
    else
      some r10.2
  else
    if l2 = (3 : Int32) then
      gd (inB ((125 : Int32) + l1) 390) (
        if oA S 6 ((125 : Int32) + l1).toNatClampNeg ≤ 0 then
          some S
        else
          (pX11_cuts S l1).bind fun r8 =>
          some r8)
    else
      some S
def pX11_chanceOf (S : Ob)  (a : Int32) : Option (Ob) :=
  (pX11_chance S (6 : Int32)).bind fun r1 =>
  if (2 : Int32) ≤ r1.1 then
    pX11_chanceOf_j49 r1.2 a r1.1
  else
    if oA r1.2 6 0 ≤ 0 then
      pX11_chanceOf_j49 r1.2 a r1.1
    else
      (pX11_chance r1.2 (oA r1.2 6 0)).bind fun r18 =>
      (pX11_isNest r18.2 a).bind fun r20 =>
      if r20 = 0 then
        (pX11_catches r18.2 a r18.1).bind fun r23 =>
        some r23
      else
        some r18.2
def pX11_chances_l28 (l1 : Int32) (l3 : Int32) : Nat → Int32 → Ob → Option (Ob)
  | 0, _, _ => none
  | n + 1, l4, S =>
    if oA S 6 1 ≤ l4 then
      some S
    else
      (pX11_chanceOf S l4).bind fun r4 =>
      (pX11_chances_l28  l1 l3 n) (l4 + (1 : Int32)) r4
def pX11_chances_l7 (l1 : Int32) : Nat → Int32 → Ob → Option (Int32 × Ob)
  | 0, _, _ => none
  | n + 1, l3, S =>
    if l1 ≤ l3 then
      some (l3, S)
    else
      if (400 : Int32) ≤ oA S 6 121 then
        some (l3, S)
      else
        (pX11_chances_l28 l1 l3 fu (0 : Int32) S).bind fun r6 =>
        (pX11_day r6).bind fun r8 =>
        (pX11_chances_l7  l1 n) (l3 + (1 : Int32)) r8
def pX11_chances (S : Ob)  (a : Int32) (b : Int32) : Option (Int32 × Ob) :=
  (pX11_chances_l7 a fu (0 : Int32) (sI S 35 b)).bind fun r10 =>
  some (r10.1, r10.2)
def pX11_drawn_j34 (S : Ob) (l1 : Int32) (l2 : Int32) : Option (Int32 × Ob) :=
  (pX11_chances S l1 l2).bind fun r5 =>
  some (r5.1, r5.2)
def pX11_drawn (S : Ob)  (a : Int32) (b : Int32) : Option (Int32 × Ob) :=
  (pX11_isIn a (1 : Int32) (60 : Int32)).bind fun r1 =>
  if r1 = 0 then
    some ((-1 : Int32), sI S 0 (0 : Int32))
  else
    if (400 : Int32) ≤ oA (sI S 0 (0 : Int32)) 6 121 then
      pX11_drawn_j34 (sI S 0 (0 : Int32)) a b
    else
      (pX11_keep (sI S 0 (0 : Int32))).bind fun r7 =>
      pX11_drawn_j34 r7 a b
def pX11_odds_j67 (rec : Int32 → Int32 → Ob → Option (Int32 × Ob)) (S : Ob) (l1 : Int32) (l2 : Int32) (l3 : Int32) (l4 : Int32) (l5 : Int32) (s0 : Int32) (s1 : Int32) : Option (Int32 × Ob) :=
  (pX11_back S).bind fun r15 =>
  rec (s0 + s1) (l5 + (1 : Int32)) r15
def pX11_odds_l35 (l1 : Int32) (l2 : Int32) (l3 : Int32) : Nat → Int32 → Int32 → Ob → Option (Int32 × Ob)
  | 0, _, _, _ => none
  | n + 1, l4, l5, S =>
    if l2 ≤ l5 then
      some (l4, S)
    else
      (pX11_chances S (10 : Int32) (l3 + l5)).bind fun r10 =>
      (pX11_isNest r10.2 l1).bind fun r12 =>
      if r12 = 0 then
        pX11_odds_j67 (pX11_odds_l35  l1 l2 l3 n) r10.2 l1 l2 l3 l4 l5 l4 (0 : Int32)
      else
        pX11_odds_j67 (pX11_odds_l35  l1 l2 l3 n) r10.2 l1 l2 l3 l4 l5 l4 (1 : Int32)
def pX11_odds (S : Ob)  (a : Int32) (b : Int32) (c : Int32) : Option (Int32 × Ob) :=
  (pX11_isPerson (sI S 0 (0 : Int32)) a).bind fun r1 =>
  if r1 = 0 then
    some ((-1 : Int32), sI S 0 (0 : Int32))
  else
    (pX11_isIn b (1 : Int32) (30 : Int32)).bind fun r4 =>
    if r4 = 0 then
      some ((-1 : Int32), sI S 0 (0 : Int32))
    else
      (pX11_tries (sI S 0 (0 : Int32))).bind fun r7 =>
      (pX11_odds_l35 a b c fu (0 : Int32) (0 : Int32) r7).bind fun r17 =>
      some (r17.1, r17.2)
def pX11_bookLine_j292 (S : Ob) (l1 : Int32) (s0 : Int32) : Option (Int32 × Ob) :=
  gd (inB (l1 + (2 : Int32)) 135) (gd (z01 s0) (some (s0, sA S 8 (va_up (oA S 8) ((l1 + (2 : Int32)).toNatClampNeg) (oI S 18)))))
def pX11_bookLine_j223 (S : Ob) (l1 : Int32) (l4 : Int32) (s0 : Int32) : Option (Int32 × Ob) :=
  if 0 ≤ s0 then
    (pX11_next S).bind fun r21 =>
    gd (inB l1 135) (
      gd (inB (l1 + (1 : Int32)) 135) (
        if s0 = (1 : Int32) then
          some ((1 : Int32), sA (sA r21 8 (va_up (oA r21 8) l1.toNatClampNeg s0)) 8 (va_up (oA (sA r21 8 (va_up (oA r21 8) l1.toNatClampNeg s0)) 8) ((l1 + (1 : Int32)).toNatClampNeg) l4))
        else
          if s0 = 0 then
            (pX11_takes (sA (sA r21 8 (va_up (oA r21 8) l1.toNatClampNeg s0)) 8 (va_up (oA (sA r21 8 (va_up (oA r21 8) l1.toNatClampNeg s0)) 8) ((l1 + (1 : Int32)).toNatClampNeg) l4)) (1 : Int32) (20 : Int32)).bind fun r31 =>
            pX11_bookLine_j292 r31.2 l1 r31.1
          else
            (pX11_takesName (sA (sA r21 8 (va_up (oA r21 8) l1.toNatClampNeg s0)) 8 (va_up (oA (sA r21 8 (va_up (oA r21 8) l1.toNatClampNeg s0)) 8) ((l1 + (1 : Int32)).toNatClampNeg) l4)) (0 : Int32) (oA (sA (sA r21 8 (va_up (oA r21 8) l1.toNatClampNeg s0)) 8 (va_up (oA (sA r21 8 (va_up (oA r21 8) l1.toNatClampNeg s0)) 8) ((l1 + (1 : Int32)).toNatClampNeg) l4)) 6 0)).bind fun r27 =>
            pX11_bookLine_j292 r27.2 l1 r27.1))
  else
    (pX11_bad S (1 : Int32)).bind fun r33 =>
    gd (z01 r33.1) (some (r33.1, r33.2))
def pX11_bookLine_j48 (S : Ob) (l1 : Int32) (l2 : Int32) (l3 : Int32) : Option (Int32 × Ob) :=
  if oI S 36 = (40 : Int32) then
    (pX11_bad S (4 : Int32)).bind fun r50 =>
    gd (z01 r50.1) (some (r50.1, r50.2))
  else
    (pX11_next S).bind fun r7 =>
    if l2 = 0 then
      if l3 = 0 then
        (pX11_isWord r7 (126943973305189 : Int64)).bind fun r11 =>
        if r11 = 0 then
          (pX11_isWord r7 (6518132 : Int64)).bind fun r14 =>
          if r14 = 0 then
            (pX11_isWord r7 (27973175206241651 : Int64)).bind fun r17 =>
            if r17 = 0 then
              pX11_bookLine_j223 r7 l1 (oI S 18) (-1 : Int32)
            else
              pX11_bookLine_j223 r7 l1 (oI S 18) (2 : Int32)
          else
            pX11_bookLine_j223 r7 l1 (oI S 18) (1 : Int32)
        else
          pX11_bookLine_j223 r7 l1 (oI S 18) (0 : Int32)
      else
        gd (inB l1 135) (
          (pX11_takesName (sA r7 8 (va_up (oA r7 8) l1.toNatClampNeg (3 : Int32))) (14 : Int32) (oA (sA r7 8 (va_up (oA r7 8) l1.toNatClampNeg (3 : Int32))) 6 3)).bind fun r37 =>
          if r37.1 = 0 then
            some ((0 : Int32), r37.2)
          else
            gd (inB (l1 + (1 : Int32)) 135) (
              (pX11_takesName (sA r37.2 8 (va_up (oA r37.2 8) ((l1 + (1 : Int32)).toNatClampNeg) (oI r37.2 18))) (0 : Int32) (oA (sA r37.2 8 (va_up (oA r37.2 8) ((l1 + (1 : Int32)).toNatClampNeg) (oI r37.2 18))) 6 0)).bind fun r41 =>
              if r41.1 = 0 then
                some ((0 : Int32), r41.2)
              else
                gd (inB (l1 + (2 : Int32)) 135) (some ((1 : Int32), sA r41.2 8 (va_up (oA r41.2 8) ((l1 + (2 : Int32)).toNatClampNeg) (oI r41.2 18))))))
    else
      gd (inB l1 135) (
        (pX11_takes (sA r7 8 (va_up (oA r7 8) l1.toNatClampNeg (4 : Int32))) (1 : Int32) (60 : Int32)).bind fun r46 =>
        if r46.1 = 0 then
          some ((0 : Int32), r46.2)
        else
          gd (inB (l1 + (1 : Int32)) 135) (some ((1 : Int32), sA r46.2 8 (va_up (oA r46.2 8) ((l1 + (1 : Int32)).toNatClampNeg) (oI r46.2 18)))))
def pX11_bookLine (S : Ob)   : Option (Int32 × Ob) :=
  (pX11_isWord S (6578553 : Int64)).bind fun r1 =>
  (pX11_isWord S (495875090022 : Int64)).bind fun r3 =>
  if r1 = 0 then
    if r3 = 0 then
      (pX11_looksAt S (8 : Int32) (oA S 6 1)).bind fun r54 =>
      if r54.1 = 0 then
        some ((0 : Int32), r54.2)
      else
        pX11_bookLine_j48 r54.2 ((3 : Int32) * (oI S 36)) r1 r3
    else
      pX11_bookLine_j48 S ((3 : Int32) * (oI S 36)) r1 r3
  else
    pX11_bookLine_j48 S ((3 : Int32) * (oI S 36)) r1 r3
def pX11_does_j186 (S : Ob) (l1 : Int32) (l4 : Int32) : Option (Int32 × Ob) :=
  if l4 ≤ 0 then
    some ((0 : Int32), S)
  else
    some (((10 : Int32) * l1) + l4, S)
def pX11_does_j75 (S : Ob) (l1 : Int32) (l2 : Int32) (s0 : Int32) : Option (Int32 × Ob) :=
  if s0 = 0 then
    (pX11_cuts S l2).bind fun r14 =>
    pX11_does_j186 r14 l1 s0
  else
    pX11_does_j186 S l1 s0
def pX11_does_j103 (S : Ob) (l1 : Int32) (l2 : Int32) (l3 : Int32) (s0 : Int32) : Option (Int32 × Ob) :=
  if s0 = 0 then
    (pX11_catches S l2 l3).bind fun r20 =>
    pX11_does_j186 r20 l1 s0
  else
    pX11_does_j186 S l1 s0
def pX11_does_j137 (S : Ob) (l1 : Int32) (l2 : Int32) (l3 : Int32) (s0 : Int32) : Option (Int32 × Ob) :=
  if s0 = 0 then
    (pX11_stuffs S l2 l3).bind fun r25 =>
    pX11_does_j186 r25 l1 s0
  else
    pX11_does_j186 S l1 s0
def pX11_does_j173 (S : Ob) (l1 : Int32) (l2 : Int32) (s0 : Int32) : Option (Int32 × Ob) :=
  if s0 = 0 then
    (pX11_goesOn S l2).bind fun r29 =>
    pX11_does_j186 r29.2 l1 s0
  else
    pX11_does_j186 S l1 s0
def pX11_does (S : Ob)  (a : Int32) (b : Int32) (c : Int32) : Option (Int32 × Ob) :=
  if a = (0 : Int32) then
    (pX11_whyStroke S b c).bind fun r5 =>
    if r5 = 0 then
      (pX11_strokes S b c).bind fun r9 =>
      pX11_does_j186 r9 a r5
    else
      pX11_does_j186 S a r5
  else
  if a = (1 : Int32) then
    gd (inB ((125 : Int32) + b) 390) (
      if oA S 6 ((125 : Int32) + b).toNatClampNeg = 0 then
        pX11_does_j75 S a b (1 : Int32)
      else
        pX11_does_j75 S a b (0 : Int32))
  else
  if a = (2 : Int32) then
    (pX11_isNest S b).bind fun r16 =>
    if r16 = 0 then
      pX11_does_j103 S a b c (0 : Int32)
    else
      pX11_does_j103 S a b c (1 : Int32)
  else
  if a = (3 : Int32) then
    gd (inB ((185 : Int32) + c) 390) (
      if oA S 6 ((185 : Int32) + c).toNatClampNeg = 0 then
        pX11_does_j137 S a b c (1 : Int32)
      else
        pX11_does_j137 S a b c (0 : Int32))
  else
    if (oA S 6 121) + b ≤ (400 : Int32) then
      pX11_does_j173 S a b (0 : Int32)
    else
      pX11_does_j173 S a b (1 : Int32)
def pX11_book_l89 (l1 : Int32) : Nat → Int32 → Ob → Option (Ob)
  | 0, _, _ => none
  | n + 1, l2, S =>
    if (4 : Int32) ≤ l2 then
      some S
    else
      gd (inB l2 4) ((pX11_book_l89  l1 n) (l2 + (1 : Int32)) (sA S 37 (va_up (oA S 37) l2.toNatClampNeg (0 : Int32))))
def pX11_book_l111 (l1 : Int32) : Nat → Int32 → Int32 → Ob → Option (Int32 × Ob)
  | 0, _, _, _ => none
  | n + 1, l2, l3, S =>
    if oI S 36 ≤ l3 then
      some (l2, S)
    else
      if 0 ≤ l2 then
        some (l2, S)
      else
        gd (inB ((3 : Int32) * l3) 135) (
          gd (inB (((3 : Int32) * l3) + (1 : Int32)) 135) (
            gd (inB (((3 : Int32) * l3) + (2 : Int32)) 135) (
              (pX11_does S (oA S 8 ((3 : Int32) * l3).toNatClampNeg) (oA S 8 (((3 : Int32) * l3) + (1 : Int32)).toNatClampNeg) (oA S 8 (((3 : Int32) * l3) + (2 : Int32)).toNatClampNeg)).bind fun r20 =>
              if oA (sA r20.2 37 (va_up (oA r20.2 37) 0 r20.1)) 37 0 ≤ 0 then
                (pX11_book_l111  l1 n) l2 (l3 + (1 : Int32)) (sA (sA r20.2 37 (va_up (oA r20.2 37) 0 r20.1)) 37 (va_up (oA (sA r20.2 37 (va_up (oA r20.2 37) 0 r20.1)) 37) 1 ((oA (sA r20.2 37 (va_up (oA r20.2 37) 0 r20.1)) 37 1) + (1 : Int32))))
              else
                (pX11_book_l111  l1 n) l3 (l3 + (1 : Int32)) (sA r20.2 37 (va_up (oA r20.2 37) 0 r20.1)))))
def pX11_book_j273 (S : Ob) (l1 : Int32) (l2 : Int32) : Option (Int32 × Ob) :=
  if l1 = 0 then
    (pX11_back S).bind fun r29 =>
    some (l2, r29)
  else
    some (l2, S)
def pX11_book_l239 (l1 : Int32) (l2 : Int32) : Nat → Int32 → Ob → Option (Ob)
  | 0, _, _ => none
  | n + 1, l3, S =>
    if (88 : Int32) ≤ l3 then
      some S
    else
      gd (inB l3 88) (gd (inB (((88 : Int32) * ((oI S 23) - (1 : Int32))) + l3) 704) ((pX11_book_l239  l1 l2 n) (l3 + (1 : Int32)) (sA S 21 (va_up (oA S 21) ((((88 : Int32) * ((oI S 23) - (1 : Int32))) + l3).toNatClampNeg) (oA S 22 l3.toNatClampNeg)))))
def pX11_book_l39 (l1 : Int32) : Nat → Ob → Option (Int32 × Ob)
  | 0, _ => none
  | n + 1, S =>
    if oI S 11 = 0 then
      (pX11_tries S).bind fun r9 =>
      (pX11_book_l89 l1 fu (0 : Int32) r9).bind fun r13 =>
      (pX11_book_l111 l1 fu (-1 : Int32) (0 : Int32) r13).bind fun r23 =>
      (pX11_bagged (sA r23.2 37 (va_up (oA r23.2 37) 2 (oA r23.2 6 121)))).bind fun r25 =>
      if l1 = (1 : Int32) then
        if oA (sI (sA (sA r23.2 37 (va_up (oA r23.2 37) 2 (oA r23.2 6 121))) 37 (va_up (oA (sA r23.2 37 (va_up (oA r23.2 37) 2 (oA r23.2 6 121))) 37) 3 r25)) 38 (1 : Int32)) 37 1 ≤ 0 then
          pX11_book_j273 (sI (sA (sA r23.2 37 (va_up (oA r23.2 37) 2 (oA r23.2 6 121))) 37 (va_up (oA (sA r23.2 37 (va_up (oA r23.2 37) 2 (oA r23.2 6 121))) 37) 3 r25)) 38 (1 : Int32)) l1 r23.1
        else
          (pX11_keep (sI (sA (sA r23.2 37 (va_up (oA r23.2 37) 2 (oA r23.2 6 121))) 37 (va_up (oA (sA r23.2 37 (va_up (oA r23.2 37) 2 (oA r23.2 6 121))) 37) 3 r25)) 38 (1 : Int32))).bind fun r32 =>
          (pX11_book_l239 l1 r23.1 fu (0 : Int32) r32).bind fun r37 =>
          if l1 = 0 then
            (pX11_back r37).bind fun r40 =>
            some (r23.1, r40)
          else
            some (r23.1, r37)
      else
        pX11_book_j273 (sI (sA (sA r23.2 37 (va_up (oA r23.2 37) 2 (oA r23.2 6 121))) 37 (va_up (oA (sA r23.2 37 (va_up (oA r23.2 37) 2 (oA r23.2 6 121))) 37) 3 r25)) 38 (1 : Int32)) l1 r23.1
    else
      (pX11_bookLine S).bind fun r42 =>
      if r42.1 = 0 then
        some ((-2 : Int32) - (oI r42.2 16), r42.2)
      else
        (pX11_sign r42.2 (59 : Int32)).bind fun r45 =>
        if r45.1 = 0 then
          some ((-2 : Int32) - (oI r45.2 16), r45.2)
        else
          (pX11_book_l39  l1 n) (sI r45.2 36 ((oI r45.2 36) + (1 : Int32)))
def pX11_book (S : Ob)  (a : Int32) : Option (Int32 × Ob) :=
  (pX11_isIn a (0 : Int32) (1 : Int32)).bind fun r1 =>
  if r1 = 0 then
    some ((-1000 : Int32), sI S 0 (0 : Int32))
  else
    (pX11_taken (sI S 0 (0 : Int32)) (400 : Int32)).bind fun r4 =>
    (pX11_next (sI (sI r4 15 (0 : Int32)) 36 (0 : Int32))).bind fun r6 =>
    pX11_book_l39 a fu r6
def pX11_told (S : Ob)  (a : Int32) : Option (Int32 × Ob) :=
  if oI (sI S 0 (0 : Int32)) 38 = 0 then
    some ((-1 : Int32), sI S 0 (0 : Int32))
  else
    (pX11_isIn a (0 : Int32) (3 : Int32)).bind fun r2 =>
    if r2 = 0 then
      some ((-1 : Int32), sI S 0 (0 : Int32))
    else
      gd (inB a 4) (some (oA (sI S 0 (0 : Int32)) 37 a.toNatClampNeg, sI S 0 (0 : Int32)))
def pX11_code (S : Ob)  (a : Int32) (b : Int32) (c : Int32) : Option (Ob) :=
  gd (inB ((3 : Int32) * (oI S 40)) 135) (gd (inB (((3 : Int32) * (oI (sA S 8 (va_up (oA S 8) (((3 : Int32) * (oI S 40)).toNatClampNeg) a)) 40)) + (1 : Int32)) 135) (gd (inB (((3 : Int32) * (oI (sA (sA S 8 (va_up (oA S 8) (((3 : Int32) * (oI S 40)).toNatClampNeg) a)) 8 (va_up (oA (sA S 8 (va_up (oA S 8) (((3 : Int32) * (oI S 40)).toNatClampNeg) a)) 8) ((((3 : Int32) * (oI (sA S 8 (va_up (oA S 8) (((3 : Int32) * (oI S 40)).toNatClampNeg) a)) 40)) + (1 : Int32)).toNatClampNeg) b)) 40)) + (2 : Int32)) 135) (some (sI (sA (sA (sA S 8 (va_up (oA S 8) (((3 : Int32) * (oI S 40)).toNatClampNeg) a)) 8 (va_up (oA (sA S 8 (va_up (oA S 8) (((3 : Int32) * (oI S 40)).toNatClampNeg) a)) 8) ((((3 : Int32) * (oI (sA S 8 (va_up (oA S 8) (((3 : Int32) * (oI S 40)).toNatClampNeg) a)) 40)) + (1 : Int32)).toNatClampNeg) b)) 8 (va_up (oA (sA (sA S 8 (va_up (oA S 8) (((3 : Int32) * (oI S 40)).toNatClampNeg) a)) 8 (va_up (oA (sA S 8 (va_up (oA S 8) (((3 : Int32) * (oI S 40)).toNatClampNeg) a)) 8) ((((3 : Int32) * (oI (sA S 8 (va_up (oA S 8) (((3 : Int32) * (oI S 40)).toNatClampNeg) a)) 40)) + (1 : Int32)).toNatClampNeg) b)) 8) ((((3 : Int32) * (oI (sA (sA S 8 (va_up (oA S 8) (((3 : Int32) * (oI S 40)).toNatClampNeg) a)) 8 (va_up (oA (sA S 8 (va_up (oA S 8) (((3 : Int32) * (oI S 40)).toNatClampNeg) a)) 8) ((((3 : Int32) * (oI (sA S 8 (va_up (oA S 8) (((3 : Int32) * (oI S 40)).toNatClampNeg) a)) 40)) + (1 : Int32)).toNatClampNeg) b)) 40)) + (2 : Int32)).toNatClampNeg) c)) 40 ((oI (sA (sA (sA S 8 (va_up (oA S 8) (((3 : Int32) * (oI S 40)).toNatClampNeg) a)) 8 (va_up (oA (sA S 8 (va_up (oA S 8) (((3 : Int32) * (oI S 40)).toNatClampNeg) a)) 8) ((((3 : Int32) * (oI (sA S 8 (va_up (oA S 8) (((3 : Int32) * (oI S 40)).toNatClampNeg) a)) 40)) + (1 : Int32)).toNatClampNeg) b)) 8 (va_up (oA (sA (sA S 8 (va_up (oA S 8) (((3 : Int32) * (oI S 40)).toNatClampNeg) a)) 8 (va_up (oA (sA S 8 (va_up (oA S 8) (((3 : Int32) * (oI S 40)).toNatClampNeg) a)) 8) ((((3 : Int32) * (oI (sA S 8 (va_up (oA S 8) (((3 : Int32) * (oI S 40)).toNatClampNeg) a)) 40)) + (1 : Int32)).toNatClampNeg) b)) 8) ((((3 : Int32) * (oI (sA (sA S 8 (va_up (oA S 8) (((3 : Int32) * (oI S 40)).toNatClampNeg) a)) 8 (va_up (oA (sA S 8 (va_up (oA S 8) (((3 : Int32) * (oI S 40)).toNatClampNeg) a)) 8) ((((3 : Int32) * (oI (sA S 8 (va_up (oA S 8) (((3 : Int32) * (oI S 40)).toNatClampNeg) a)) 40)) + (1 : Int32)).toNatClampNeg) b)) 40)) + (2 : Int32)).toNatClampNeg) c)) 40) + (1 : Int32))))))
def pX11_joins_j45 (rec : Ob → Option (Ob)) (S : Ob) (l1 : Int32) : Option (Ob) :=
  gd (inB (oI (sI S 42 ((oI S 42) - (1 : Int32))) 42) 45) (
    (pX11_code (sI S 42 ((oI S 42) - (1 : Int32))) (oA (sI S 42 ((oI S 42) - (1 : Int32))) 39 (oI (sI S 42 ((oI S 42) - (1 : Int32))) 42).toNatClampNeg) (0 : Int32) (0 : Int32)).bind fun r5 =>
    rec r5)
def pX11_joins_l0 (l1 : Int32) : Nat → Ob → Option (Ob)
  | 0, _ => none
  | n + 1, S =>
    if oI S 42 ≤ 0 then
      some S
    else
      gd (inB ((oI S 42) - (1 : Int32)) 45) (
        if oA S 39 ((oI S 42) - (1 : Int32)).toNatClampNeg = (21 : Int32) then
          pX11_joins_j45 (pX11_joins_l0  l1 n) S l1
        else
          gd (inB ((oI S 42) - (1 : Int32)) 45) (
            if oA S 39 ((oI S 42) - (1 : Int32)).toNatClampNeg = (22 : Int32) then
              if l1 = (22 : Int32) then
                pX11_joins_j45 (pX11_joins_l0  l1 n) S l1
              else
                some S
            else
              some S))
def pX11_joins (S : Ob)  (a : Int32) : Option (Ob) :=
  (pX11_joins_l0 a fu S).bind fun r10 =>
  some r10
def pX11_nots_l0  : Nat → Ob → Option (Ob)
  | 0, _ => none
  | n + 1, S =>
    if oI S 42 ≤ 0 then
      some S
    else
      gd (inB ((oI S 42) - (1 : Int32)) 45) (
        if oA S 39 ((oI S 42) - (1 : Int32)).toNatClampNeg = (20 : Int32) then
          (pX11_code (sI (sI S 42 ((oI S 42) - (1 : Int32))) 43 ((oI (sI S 42 ((oI S 42) - (1 : Int32))) 43) - (1 : Int32))) (20 : Int32) (0 : Int32) (0 : Int32)).bind fun r4 =>
          (pX11_nots_l0   n) r4
        else
          some S)
def pX11_nots (S : Ob)   : Option (Ob) :=
  (pX11_nots_l0 fu S).bind fun r6 =>
  some r6
def pX11_leafOf (S : Ob)   : Option (Int32) :=
  (pX11_isWord S (1650553445 : Int64)).bind fun r1 =>
  if r1 = 0 then
    (pX11_isWord S (1852142452 : Int64)).bind fun r4 =>
    if r4 = 0 then
      (pX11_isWord S (1936683621 : Int64)).bind fun r7 =>
      if r7 = 0 then
        (pX11_isWord S (6840691 : Int64)).bind fun r10 =>
        if r10 = 0 then
          (pX11_isWord S (1818848101 : Int64)).bind fun r13 =>
          if r13 = 0 then
            (pX11_isWord S (109270232688756 : Int64)).bind fun r16 =>
            if r16 = 0 then
              (pX11_isWord S (461414298739 : Int64)).bind fun r19 =>
              if r19 = 0 then
                (pX11_isWord S (1885432174 : Int64)).bind fun r22 =>
                if r22 = 0 then
                  (pX11_isWord S (121450625394034 : Int64)).bind fun r25 =>
                  if r25 = 0 then
                    some (-1 : Int32)
                  else
                    some (8 : Int32)
                else
                  some (7 : Int32)
              else
                some (6 : Int32)
            else
              some (5 : Int32)
          else
            some (4 : Int32)
        else
          some (3 : Int32)
      else
        some (2 : Int32)
    else
      some (1 : Int32)
  else
    some (0 : Int32)
def pX11_operand_j56 (S : Ob) : Option (Int32 × Ob) :=
  (pX11_bad S (4 : Int32)).bind fun r9 =>
  gd (z01 r9.1) (some (r9.1, r9.2))
def pX11_operand_j103 (S : Ob) (s1 : Int32) (s2 : Int32) : Option (Int32 × Ob) :=
  gd (inB s1 45) (some ((1 : Int32), sI (sI (sA S 39 (va_up (oA S 39) s1.toNatClampNeg s2)) 42 ((oI (sA S 39 (va_up (oA S 39) s1.toNatClampNeg s2)) 42) + (1 : Int32))) 43 ((oI (sI (sA S 39 (va_up (oA S 39) s1.toNatClampNeg s2)) 42 ((oI (sA S 39 (va_up (oA S 39) s1.toNatClampNeg s2)) 42) + (1 : Int32))) 43) + (1 : Int32))))
def pX11_operand_j84 (S : Ob) (l1 : Int32) : Option (Int32 × Ob) :=
  if l1 = 0 then
    pX11_operand_j103 S (oI S 42) (23 : Int32)
  else
    pX11_operand_j103 S (oI S 42) (20 : Int32)
def pX11_operand_j232 (S : Ob) : Option (Int32 × Ob) :=
  (pX11_bad S (1 : Int32)).bind fun r22 =>
  gd (z01 r22.1) (some (r22.1, r22.2))
def pX11_operand_j181 (S : Ob) (l3 : Int32) (s0 : Int32) : Option (Int32 × Ob) :=
  if s0 = 0 then
    some ((0 : Int32), S)
  else
    (pX11_code S l3 (0 : Int32) (oI S 18)).bind fun r41 =>
    (pX11_next r41).bind fun r43 =>
    some ((1 : Int32), r43)
def pX11_operand_j38 (S : Ob) (l1 : Int32) (l2 : Int32) (l3 : Int32) : Option (Int32 × Ob) :=
  if oI S 41 = (20 : Int32) then
    pX11_operand_j56 S
  else
    if oI S 43 ≤ (8 : Int32) then
      (pX11_next (sI S 41 ((oI S 41) + (1 : Int32)))).bind fun r13 =>
      if l1 = 0 then
        if l2 = 0 then
          if (3 : Int32) ≤ l3 then
            if (5 : Int32) ≤ l3 then
              if oI (sI r13 44 (1 : Int32)) 11 = (3 : Int32) then
                if oI (sI r13 44 (1 : Int32)) 14 < (60 : Int32) then
                  pX11_operand_j232 (sI r13 44 (1 : Int32))
                else
                  if oI (sI r13 44 (1 : Int32)) 14 ≤ (62 : Int32) then
                    (pX11_next (sI r13 44 (1 : Int32))).bind fun r27 =>
                    if oI r27 11 = (2 : Int32) then
                      (pX11_code r27 l3 (oI (sI r13 44 (1 : Int32)) 14) (oI r27 14)).bind fun r30 =>
                      (pX11_next r30).bind fun r32 =>
                      some ((1 : Int32), r32)
                    else
                      (pX11_bad r27 (1 : Int32)).bind fun r34 =>
                      gd (z01 r34.1) (some (r34.1, r34.2))
                  else
                    pX11_operand_j232 (sI r13 44 (1 : Int32))
              else
                pX11_operand_j232 (sI r13 44 (1 : Int32))
            else
              if l3 = (3 : Int32) then
                (pX11_looksAt (sI r13 44 (1 : Int32)) (0 : Int32) (oA (sI r13 44 (1 : Int32)) 6 0)).bind fun r45 =>
                pX11_operand_j181 r45.2 l3 r45.1
              else
                (pX11_looksAt (sI r13 44 (1 : Int32)) (8 : Int32) (oA (sI r13 44 (1 : Int32)) 6 1)).bind fun r38 =>
                pX11_operand_j181 r38.2 l3 r38.1
          else
            (pX11_code (sI r13 44 (1 : Int32)) l3 (0 : Int32) (0 : Int32)).bind fun r47 =>
            some ((1 : Int32), r47)
        else
          pX11_operand_j84 r13 l1
      else
        pX11_operand_j84 r13 l1
    else
      pX11_operand_j56 S
def pX11_operand (S : Ob)   : Option (Int32 × Ob) :=
  (pX11_isWord S (7237492 : Int64)).bind fun r1 =>
  (pX11_isSign S (40 : Int32)).bind fun r3 =>
  (pX11_leafOf S).bind fun r5 =>
  if r1 = 0 then
    if r3 = 0 then
      if 0 ≤ r5 then
        pX11_operand_j38 S r1 r3 r5
      else
        (pX11_bad S (1 : Int32)).bind fun r51 =>
        gd (z01 r51.1) (some (r51.1, r51.2))
    else
      pX11_operand_j38 S r1 r3 r5
  else
    pX11_operand_j38 S r1 r3 r5
def pX11_behind_j70 (S : Ob) (s1 : Int32) (s2 : Int32) : Option (Int32 × Ob) :=
  gd (inB s1 45) (
    (pX11_next (sI (sI (sA S 39 (va_up (oA S 39) s1.toNatClampNeg s2)) 42 ((oI (sA S 39 (va_up (oA S 39) s1.toNatClampNeg s2)) 42) + (1 : Int32))) 44 (0 : Int32))).bind fun r15 =>
    some ((1 : Int32), r15))
def pX11_behind_j42 (S : Ob) (s1 : Int32) : Option (Int32 × Ob) :=
  (pX11_joins S s1).bind fun r9 =>
  (pX11_isWord r9 (6385252 : Int64)).bind fun r11 =>
  if r11 = 0 then
    pX11_behind_j70 r9 (oI r9 42) (22 : Int32)
  else
    pX11_behind_j70 r9 (oI r9 42) (21 : Int32)
def pX11_behind_j24 (S : Ob) : Option (Int32 × Ob) :=
  (pX11_isWord S (6385252 : Int64)).bind fun r6 =>
  if r6 = 0 then
    pX11_behind_j42 S (22 : Int32)
  else
    pX11_behind_j42 S (21 : Int32)
def pX11_behind_j114 (S : Ob) : Option (Int32 × Ob) :=
  (pX11_bad S (1 : Int32)).bind fun r25 =>
  gd (z01 r25.1) (some (r25.1, r25.2))
def pX11_behind (S : Ob)   : Option (Int32 × Ob) :=
  (pX11_nots S).bind fun r1 =>
  (pX11_isWord r1 (6385252 : Int64)).bind fun r3 =>
  if r3 = 0 then
    (pX11_isWord r1 (28530 : Int64)).bind fun r17 =>
    if r17 = 0 then
      (pX11_joins r1 (22 : Int32)).bind fun r20 =>
      (pX11_isSign r20 (41 : Int32)).bind fun r22 =>
      if r22 = 0 then
        pX11_behind_j114 r20
      else
        if oI r20 42 = 0 then
          pX11_behind_j114 r20
        else
          (pX11_next (sI (sI r20 42 ((oI r20 42) - (1 : Int32))) 43 ((oI (sI r20 42 ((oI r20 42) - (1 : Int32))) 43) - (1 : Int32)))).bind fun r29 =>
          some ((1 : Int32), r29)
    else
      pX11_behind_j24 r1
  else
    pX11_behind_j24 r1
def pX11_sentence_l146  : Nat → Int32 → Ob → Option (Ob)
  | 0, _, _ => none
  | n + 1, l2, S =>
    if (3 : Int32) * (oI S 40) ≤ l2 then
      some S
    else
      gd (inB l2 135) (gd (inB ((210 : Int32) + l2) 390) ((pX11_sentence_l146   n) (l2 + (1 : Int32)) (sA S 6 (va_up (oA S 6) (((210 : Int32) + l2).toNatClampNeg) (oA S 8 l2.toNatClampNeg)))))
def pX11_sentence_j101 (rec : Int32 → Ob → Option (Int32 × Ob)) (S : Ob) (l1 : Int32) : Option (Int32 × Ob) :=
  if oI S 44 = 0 then
    (pX11_operand S).bind fun r13 =>
    if r13.1 = 0 then
      some ((-1 : Int32) - (oI r13.2 16), r13.2)
    else
      rec l1 r13.2
  else
    (pX11_behind S).bind fun r16 =>
    if r16.1 = 0 then
      some ((-1 : Int32) - (oI r16.2 16), r16.2)
    else
      rec l1 r16.2
def pX11_sentence_l48  : Nat → Int32 → Ob → Option (Int32 × Ob)
  | 0, _, _ => none
  | n + 1, l1, S =>
    if l1 = 0 then
      (pX11_sentence_l146 fu (0 : Int32) (sA S 6 (va_up (oA S 6) 209 (oI S 40)))).bind fun r9 =>
      some (oI r9 41, r9)
    else
      if oI S 44 = 0 then
        pX11_sentence_j101 (pX11_sentence_l48   n) S l1
      else
        if oI S 11 = 0 then
          (pX11_nots S).bind fun r20 =>
          (pX11_joins r20 (22 : Int32)).bind fun r22 =>
          if oI r22 42 ≤ 0 then
            (pX11_sentence_l48   n) (0 : Int32) r22
          else
            (pX11_bad r22 (1 : Int32)).bind fun r25 =>
            some ((-1 : Int32) - (oI r25.2 16), r25.2)
        else
          pX11_sentence_j101 (pX11_sentence_l48   n) S l1
def pX11_sentence (S : Ob)   : Option (Int32 × Ob) :=
  (pX11_taken (sI S 0 (0 : Int32)) (200 : Int32)).bind fun r1 =>
  (pX11_next (sI (sI (sI (sI (sI (sI r1 15 (0 : Int32)) 40 (0 : Int32)) 41 (0 : Int32)) 42 (0 : Int32)) 43 (1 : Int32)) 44 (0 : Int32))).bind fun r3 =>
  pX11_sentence_l48 fu (1 : Int32) r3
def pX11_isLeaf_j155 (S : Ob) (l3 : Int32) (l4 : Int32) (s0 : Int32) : Option (Int32) :=
  if l3 = (60 : Int32) then
    if l4 ≤ s0 then
      some (0 : Int32)
    else
      some (1 : Int32)
  else
    if l3 = (61 : Int32) then
      if s0 = l4 then
        some (1 : Int32)
      else
        some (0 : Int32)
    else
      if s0 ≤ l4 then
        some (0 : Int32)
      else
        some (1 : Int32)
def pX11_isLeaf (S : Ob)  (a : Int32) (b : Int32) (c : Int32) (d : Int32) : Option (Int32) :=
  if b = (0 : Int32) then
    gd (inB ((125 : Int32) + a) 390) (
      if oA S 6 ((125 : Int32) + a).toNatClampNeg = 0 then
        some (1 : Int32)
      else
        some (0 : Int32))
  else
  if b = (1 : Int32) then
    (pX11_isNest S a).bind fun r8 =>
    gd (z01 r8) (some r8)
  else
  if b = (2 : Int32) then
    gd (inB ((179 : Int32) + a) 390) (
      gd (inB ((21 : Int32) + a) 390) (
        if oA S 6 ((179 : Int32) + a).toNatClampNeg < oA S 6 ((21 : Int32) + a).toNatClampNeg then
          some (0 : Int32)
        else
          some (1 : Int32)))
  else
  if b = (3 : Int32) then
    (pX11_hasThing S a d).bind fun r14 =>
    gd (z01 r14) (some r14)
  else
  if b = (4 : Int32) then
    (pX11_isLike S a d).bind fun r17 =>
    gd (z01 r17) (some r17)
  else
    if b = (5 : Int32) then
      gd (inB ((125 : Int32) + a) 390) (pX11_isLeaf_j155 S c d (oA S 6 ((125 : Int32) + a).toNatClampNeg))
    else
      if b = (6 : Int32) then
        (pX11_knotsOf S a).bind fun r29 =>
        pX11_isLeaf_j155 S c d r29
      else
        if b = (7 : Int32) then
          gd (inB ((179 : Int32) + a) 390) (pX11_isLeaf_j155 S c d (oA S 6 ((179 : Int32) + a).toNatClampNeg))
        else
          pX11_isLeaf_j155 S c d a
def pX11_isSaid_j158 (rec : Int32 → Int32 → Ob → Option (Ob)) (S : Ob) (l1 : Int32) (l2 : Int32) (l3 : Int32) (s1 : Int32) : Option (Ob) :=
  gd (inB s1 45) (rec l2 (l3 + (1 : Int32)) (sA S 45 (va_up (oA S 45) s1.toNatClampNeg (1 : Int32))))
def pX11_isSaid_j134 (rec : Int32 → Int32 → Ob → Option (Ob)) (S : Ob) (l1 : Int32) (l2 : Int32) (l3 : Int32) (s1 : Int32) : Option (Ob) :=
  gd (inB s1 45) (rec l2 (l3 + (1 : Int32)) (sA S 45 (va_up (oA S 45) s1.toNatClampNeg (0 : Int32))))
def pX11_isSaid_j88 (rec : Int32 → Int32 → Ob → Option (Ob)) (S : Ob) (l1 : Int32) (l2 : Int32) (l3 : Int32) (l4 : Int32) : Option (Ob) :=
  gd (inB l4 390) (
    if oA S 6 l4.toNatClampNeg = (21 : Int32) then
      gd (inB ((l2 + (-1 : Int32)) - (1 : Int32)) 45) (
        if oA S 45 ((l2 + (-1 : Int32)) - (1 : Int32)).toNatClampNeg = 0 then
          pX11_isSaid_j134 rec S l1 (l2 + (-1 : Int32)) l3 ((l2 + (-1 : Int32)) - (1 : Int32))
        else
          gd (inB (l2 + (-1 : Int32)) 45) (
            if oA S 45 (l2 + (-1 : Int32)).toNatClampNeg = 0 then
              pX11_isSaid_j134 rec S l1 (l2 + (-1 : Int32)) l3 ((l2 + (-1 : Int32)) - (1 : Int32))
            else
              gd (inB ((l2 + (-1 : Int32)) - (1 : Int32)) 45) (rec (l2 + (-1 : Int32)) (l3 + (1 : Int32)) (sA S 45 (va_up (oA S 45) (((l2 + (-1 : Int32)) - (1 : Int32)).toNatClampNeg) (1 : Int32))))))
    else
      gd (inB ((l2 + (-1 : Int32)) - (1 : Int32)) 45) (
        if oA S 45 ((l2 + (-1 : Int32)) - (1 : Int32)).toNatClampNeg = 0 then
          gd (inB (l2 + (-1 : Int32)) 45) (
            if oA S 45 (l2 + (-1 : Int32)).toNatClampNeg = 0 then
              gd (inB ((l2 + (-1 : Int32)) - (1 : Int32)) 45) (rec (l2 + (-1 : Int32)) (l3 + (1 : Int32)) (sA S 45 (va_up (oA S 45) (((l2 + (-1 : Int32)) - (1 : Int32)).toNatClampNeg) (0 : Int32))))
            else
              pX11_isSaid_j158 rec S l1 (l2 + (-1 : Int32)) l3 ((l2 + (-1 : Int32)) - (1 : Int32)))
        else
          pX11_isSaid_j158 rec S l1 (l2 + (-1 : Int32)) l3 ((l2 + (-1 : Int32)) - (1 : Int32))))
def pX11_isSaid_l4 (l1 : Int32) : Nat → Int32 → Int32 → Ob → Option (Ob)
  | 0, _, _, _ => none
  | n + 1, l2, l3, S =>
    if oA S 6 209 ≤ l3 then
      some S
    else
      gd (inB ((210 : Int32) + ((3 : Int32) * l3)) 390) (
        if oA S 6 ((210 : Int32) + ((3 : Int32) * l3)).toNatClampNeg = (20 : Int32) then
          gd (inB (l2 - (1 : Int32)) 45) (
            if oA S 45 (l2 - (1 : Int32)).toNatClampNeg = 0 then
              gd (inB (l2 - (1 : Int32)) 45) ((pX11_isSaid_l4  l1 n) l2 (l3 + (1 : Int32)) (sA S 45 (va_up (oA S 45) ((l2 - (1 : Int32)).toNatClampNeg) (1 : Int32))))
            else
              gd (inB (l2 - (1 : Int32)) 45) ((pX11_isSaid_l4  l1 n) l2 (l3 + (1 : Int32)) (sA S 45 (va_up (oA S 45) ((l2 - (1 : Int32)).toNatClampNeg) (0 : Int32)))))
        else
          gd (inB ((210 : Int32) + ((3 : Int32) * l3)) 390) (
            if oA S 6 ((210 : Int32) + ((3 : Int32) * l3)).toNatClampNeg = (21 : Int32) then
              pX11_isSaid_j88 (pX11_isSaid_l4  l1 n) S l1 l2 l3 ((210 : Int32) + ((3 : Int32) * l3))
            else
              gd (inB ((210 : Int32) + ((3 : Int32) * l3)) 390) (
                if oA S 6 ((210 : Int32) + ((3 : Int32) * l3)).toNatClampNeg = (22 : Int32) then
                  pX11_isSaid_j88 (pX11_isSaid_l4  l1 n) S l1 l2 l3 ((210 : Int32) + ((3 : Int32) * l3))
                else
                  gd (inB ((210 : Int32) + ((3 : Int32) * l3)) 390) (
                    gd (inB (((210 : Int32) + ((3 : Int32) * l3)) + (1 : Int32)) 390) (
                      gd (inB (((210 : Int32) + ((3 : Int32) * l3)) + (2 : Int32)) 390) (
                        (pX11_isLeaf S l1 (oA S 6 ((210 : Int32) + ((3 : Int32) * l3)).toNatClampNeg) (oA S 6 (((210 : Int32) + ((3 : Int32) * l3)) + (1 : Int32)).toNatClampNeg) (oA S 6 (((210 : Int32) + ((3 : Int32) * l3)) + (2 : Int32)).toNatClampNeg)).bind fun r25 =>
                        gd (z01 r25) (gd (inB l2 45) ((pX11_isSaid_l4  l1 n) (l2 + (1 : Int32)) (l3 + (1 : Int32)) (sA S 45 (va_up (oA S 45) l2.toNatClampNeg r25))))))))))
def pX11_isSaid (S : Ob)  (a : Int32) : Option (Int32 × Ob) :=
  (pX11_isSaid_l4 a fu (0 : Int32) (0 : Int32) S).bind fun r33 =>
  gd (z01 (oA r33 45 0)) (some (oA r33 45 0, r33))
def pX11_said_l27 (l1 : Int32) : Nat → Int32 → Int32 → Ob → Option (Int32 × Ob)
  | 0, _, _, _ => none
  | n + 1, l2, l3, S =>
    if oA S 6 1 ≤ l3 then
      if l1 = (-1 : Int32) then
        some (l2, S)
      else
        some ((-1 : Int32), S)
    else
      (pX11_isSaid S l3).bind fun r5 =>
      if r5.1 = 0 then
        (pX11_said_l27  l1 n) l2 (l3 + (1 : Int32)) r5.2
      else
        if l2 = l1 then
          some (l3, r5.2)
        else
          (pX11_said_l27  l1 n) (l2 + (1 : Int32)) (l3 + (1 : Int32)) r5.2
def pX11_said (S : Ob)  (a : Int32) : Option (Int32 × Ob) :=
  if oA (sI S 0 (0 : Int32)) 6 209 = 0 then
    some ((-1 : Int32), sI S 0 (0 : Int32))
  else
    if (-1 : Int32) ≤ a then
      pX11_said_l27 a fu (0 : Int32) (0 : Int32) (sI S 0 (0 : Int32))
    else
      some ((-1 : Int32), sI S 0 (0 : Int32))
def pX11_image_l18 (l1 : Int32) : Nat → Int32 → Ob → Option (Ob)
  | 0, _, _ => none
  | n + 1, l2, S =>
    if (390 : Int32) ≤ l2 then
      some S
    else
      gd (inB l2 390) (gd (inB (((390 : Int32) * l1) + l2) 780) ((pX11_image_l18  l1 n) (l2 + (1 : Int32)) (sA S 46 (va_up (oA S 46) ((((390 : Int32) * l1) + l2).toNatClampNeg) (oA S 6 l2.toNatClampNeg)))))
def pX11_image_l51 (l1 : Int32) : Nat → Int32 → Ob → Option (Ob)
  | 0, _, _ => none
  | n + 1, l2, S =>
    if (18 : Int32) ≤ l2 then
      some S
    else
      gd (inB l2 36) (gd (inB (((18 : Int32) * l1) + l2) 36) ((pX11_image_l51  l1 n) (l2 + (1 : Int32)) (sJ S 47 (va_up (oJ S 47) ((((18 : Int32) * l1) + l2).toNatClampNeg) (oJ S 9 l2.toNatClampNeg)))))
def pX11_image (S : Ob)  (a : Int32) : Option (Int32 × Ob) :=
  (pX11_isIn a (0 : Int32) (1 : Int32)).bind fun r1 =>
  if r1 = 0 then
    some ((0 : Int32), sI S 0 (0 : Int32))
  else
    (pX11_image_l18 a fu (0 : Int32) (sI S 0 (0 : Int32))).bind fun r7 =>
    (pX11_image_l51 a fu (0 : Int32) r7).bind fun r12 =>
    gd (inB a 2) (some ((1 : Int32), sA r12 48 (va_up (oA r12 48) a.toNatClampNeg (1 : Int32))))
def pX11_restore_l27 (l1 : Int32) : Nat → Int32 → Ob → Option (Ob)
  | 0, _, _ => none
  | n + 1, l2, S =>
    if (390 : Int32) ≤ l2 then
      some S
    else
      gd (inB (((390 : Int32) * l1) + l2) 780) (gd (inB l2 390) ((pX11_restore_l27  l1 n) (l2 + (1 : Int32)) (sA S 6 (va_up (oA S 6) l2.toNatClampNeg (oA S 46 (((390 : Int32) * l1) + l2).toNatClampNeg)))))
def pX11_restore_l60 (l1 : Int32) : Nat → Int32 → Ob → Option (Ob)
  | 0, _, _ => none
  | n + 1, l2, S =>
    if (18 : Int32) ≤ l2 then
      some S
    else
      gd (inB (((18 : Int32) * l1) + l2) 36) (gd (inB l2 36) ((pX11_restore_l60  l1 n) (l2 + (1 : Int32)) (sJ S 9 (va_up (oJ S 9) l2.toNatClampNeg (oJ S 47 (((18 : Int32) * l1) + l2).toNatClampNeg)))))
def pX11_restore (S : Ob)  (a : Int32) : Option (Int32 × Ob) :=
  (pX11_isIn a (0 : Int32) (1 : Int32)).bind fun r1 =>
  if r1 = 0 then
    some ((0 : Int32), sI S 0 (0 : Int32))
  else
    gd (inB a 2) (
      if oA (sI S 0 (0 : Int32)) 48 a.toNatClampNeg = 0 then
        some ((0 : Int32), sI S 0 (0 : Int32))
      else
        (pX11_restore_l27 a fu (0 : Int32) (sI S 0 (0 : Int32))).bind fun r9 =>
        (pX11_restore_l60 a fu (0 : Int32) r9).bind fun r14 =>
        some ((1 : Int32), sI r14 23 (0 : Int32)))
def pX11_count (S : Ob)  (a : Int32) : Option (Int32 × Ob) :=
  if a = (5 : Int32) then
    some (oI (sI S 0 (0 : Int32)) 2, sI S 0 (0 : Int32))
  else
    (pX11_isIn a (0 : Int32) (4 : Int32)).bind fun r2 =>
    if r2 = 0 then
      some ((-1 : Int32), sI S 0 (0 : Int32))
    else
      gd (inB a 390) (some (oA (sI S 0 (0 : Int32)) 6 a.toNatClampNeg, sI S 0 (0 : Int32)))
