def pX11_thrown (S : Ob)   : Option (Int32) :=
  some (oI S 0)
def pX11_throwsIf (S : Ob)  (a : Int32) : Option (Int32 × Ob) :=
  if a = 0 then
    gd (z01 a) (some (a, sI S 0 (0 : Int32)))
  else
    gd (z01 a) (some (a, sI S 0 (1 : Int32)))
def pX11_four_l3 (l1 : Int32) : Nat → Int32 → Ob → Option (Ob)
  | 0, _, _ => none
  | n + 1, l2, S =>
    if l2 < 0 then
      some S
    else
      gd (inB (oI S 2) 940) ((pX11_four_l3  l1 n) (l2 + (-8 : Int32)) (sI (sA S 1 (va_up (oA S 1) ((oI S 2).toNatClampNeg) (((l1 >>> (l2 &&& 31)).toInt8.toInt32).toInt8.toInt32))) 2 ((oI (sA S 1 (va_up (oA S 1) ((oI S 2).toNatClampNeg) (((l1 >>> (l2 &&& 31)).toInt8.toInt32).toInt8.toInt32))) 2) + (1 : Int32))))
def pX11_four (S : Ob)  (a : Int32) : Option (Ob) :=
  (pX11_four_l3 a fu (24 : Int32) S).bind fun r3 =>
  some r3
def pX11_feed (S : Ob)  (a : Int32) (b : Int32) (c : Int32) (d : Int32) (e : Int32) : Option (Int32 × Ob) :=
  if (oI (sI S 0 (0 : Int32)) 2) + (20 : Int32) ≤ (940 : Int32) then
    (pX11_four (sI S 0 (0 : Int32)) a).bind fun r2 =>
    (pX11_four r2 b).bind fun r4 =>
    (pX11_four r4 c).bind fun r6 =>
    (pX11_four r6 d).bind fun r8 =>
    (pX11_four r8 e).bind fun r10 =>
    some (oI r10 2, r10)
  else
    some ((-1 : Int32), sI S 0 (0 : Int32))
def pX11_end (S : Ob)  (a : Int32) : Option (Int32 × Ob) :=
  if a < 0 then
    some ((0 : Int32), sI S 0 (0 : Int32))
  else
    if a ≤ oI (sI S 0 (0 : Int32)) 2 then
      some ((1 : Int32), sI (sI S 0 (0 : Int32)) 2 a)
    else
      some ((0 : Int32), sI S 0 (0 : Int32))
def pX11_taken (S : Ob)  (a : Int32) : Option (Ob) :=
  some (sI (sI (sI (sI S 3 (oI S 2)) 2 (0 : Int32)) 4 (0 : Int32)) 5 a)
def pX11_isIn   (a : Int32) (b : Int32) (c : Int32) : Option (Int32) :=
  if a < b then
    some (0 : Int32)
  else
    if c < a then
      some (0 : Int32)
    else
      some (1 : Int32)
def pX11_bitOf   (a : Int32) (b : Int32) : Option (Int32) :=
  if (a >>> (b &&& 31)) &&& (1 : Int32) = (1 : Int32) then
    some (1 : Int32)
  else
    some (0 : Int32)
def pX11_lesser   (a : Int32) (b : Int32) : Option (Int32) :=
  if b ≤ a then
    some b
  else
    some a
def pX11_greater   (a : Int32) (b : Int32) : Option (Int32) :=
  if a ≤ b then
    some b
  else
    some a
def pX11_bits_l4  : Nat → Int32 → Int32 → Option (Int32)
  | 0, _, _ => none
  | n + 1, l1, l2 =>
    if l2 = 0 then
      some l1
    else
      (pX11_bits_l4   n) (l1 + (1 : Int32)) (l2 &&& (l2 - (1 : Int32)))
def pX11_bits   (a : Int32) : Option (Int32) :=
  (pX11_bits_l4 fu (0 : Int32) a).bind fun r2 =>
  some r2
def pX11_octet (S : Ob)  (a : Int32) : Option (Int32) :=
  gd (inB a 940) (some ((oA S 1 a.toNatClampNeg) &&& (255 : Int32)))
def pX11_clears_l2  : Nat → Int32 → Ob → Option (Ob)
  | 0, _, _ => none
  | n + 1, l1, S =>
    if (121 : Int32) ≤ l1 then
      some S
    else
      gd (inB l1 121) ((pX11_clears_l2   n) (l1 + (1 : Int32)) (sA S 7 (va_up (oA S 7) l1.toNatClampNeg (0 : Int32))))
def pX11_clears (S : Ob)   : Option (Ob) :=
  (pX11_clears_l2 fu (0 : Int32) S).bind fun r3 =>
  some (sA r3 7 (va_up (oA r3 7) 4 (9 : Int32)))
def pX11_peek (S : Ob)   : Option (Int32) :=
  if oI S 3 ≤ oI S 4 then
    some (-1 : Int32)
  else
    gd (inB (oI S 4) 940) (some ((oA S 1 (oI S 4).toNatClampNeg) &&& (255 : Int32)))
def pX11_isSmall   (a : Int32) : Option (Int32) :=
  if a < (97 : Int32) then
    some (0 : Int32)
  else
    if (122 : Int32) < a then
      some (0 : Int32)
    else
      some (1 : Int32)
def pX11_isDigit   (a : Int32) : Option (Int32) :=
  if a < (48 : Int32) then
    some (0 : Int32)
  else
    if (57 : Int32) < a then
      some (0 : Int32)
    else
      some (1 : Int32)
def pX11_next_j18 (rec : Ob → Option (Ob)) (S : Ob) : Option (Ob) :=
  rec (sI S 4 ((oI S 4) + (1 : Int32)))
def pX11_next_l0  : Nat → Ob → Option (Ob)
  | 0, _ => none
  | n + 1, S =>
    (pX11_peek S).bind fun r1 =>
    if r1 = (32 : Int32) then
      pX11_next_j18 (pX11_next_l0   n) S
    else
      (pX11_peek S).bind fun r4 =>
      if r4 = (10 : Int32) then
        pX11_next_j18 (pX11_next_l0   n) S
      else
        some S
def pX11_next_j275 (rec : Int32 → Ob → Option (Int32 × Ob)) (S : Ob) (l2 : Int32) (l3 : Int32) : Option (Int32 × Ob) :=
  rec l3 (sI (sI S 13 ((oI S 13) + (1 : Int32))) 4 ((oI (sI S 13 ((oI S 13) + (1 : Int32))) 4) + (1 : Int32)))
def pX11_next_j248 (rec : Int32 → Ob → Option (Int32 × Ob)) (S : Ob) (l2 : Int32) (l3 : Int32) : Option (Int32 × Ob) :=
  if (3 : Int32) ≤ oI S 13 then
    pX11_next_j275 rec S l2 l3
  else
    (pX11_peek S).bind fun r26 =>
    pX11_next_j275 rec (sI S 14 ((((10 : Int32) * (oI S 14)) + r26) - (48 : Int32))) l2 l3
def pX11_next_j221 (rec : Int32 → Ob → Option (Int32 × Ob)) (S : Ob) (l2 : Int32) (l3 : Int32) (s0 : Int32) : Option (Int32 × Ob) :=
  if (7 : Int32) ≤ oI S 13 then
    pX11_next_j248 rec S l2 s0
  else
    (pX11_peek S).bind fun r28 =>
    pX11_next_j248 rec (sL S 17 (((oL S 17) <<< ((8 : Int32).toInt64 &&& 63)) ||| r28.toInt64)) l2 s0
def pX11_next_j220 (rec : Int32 → Ob → Option (Int32 × Ob)) (S : Ob) (l2 : Int32) (l3 : Int32) : Option (Int32 × Ob) :=
  pX11_next_j221 rec S l2 l3 (0 : Int32)
def pX11_next_j201 (rec : Int32 → Ob → Option (Int32 × Ob)) (S : Ob) (l2 : Int32) (l3 : Int32) : Option (Int32 × Ob) :=
  if l3 = 0 then
    pX11_next_j220 rec S l2 l3
  else
    (pX11_peek S).bind fun r30 =>
    (pX11_isSmall r30).bind fun r32 =>
    if r32 = l2 then
      pX11_next_j221 rec S l2 l3 (1 : Int32)
    else
      pX11_next_j220 rec S l2 l3
def pX11_next_l181 (l2 : Int32) : Nat → Int32 → Ob → Option (Int32 × Ob)
  | 0, _, _ => none
  | n + 1, l3, S =>
    (pX11_peek S).bind fun r18 =>
    (pX11_isSmall r18).bind fun r20 =>
    if r20 = 0 then
      (pX11_peek S).bind fun r35 =>
      (pX11_isDigit r35).bind fun r37 =>
      if r37 = 0 then
        some (l3, S)
      else
        pX11_next_j201 (pX11_next_l181  l2 n) S l2 l3
    else
      pX11_next_j201 (pX11_next_l181  l2 n) S l2 l3
def pX11_next_j317 (S : Ob) (l2 : Int32) (s1 : Int32) (s2 : Int32) : Option (Ob) :=
  if s1 ≤ s2 then
    if l2 = 0 then
      some (sI S 11 (2 : Int32))
    else
      some (sI S 11 (1 : Int32))
  else
    some (sI S 11 (4 : Int32))
def pX11_next_j164 (S : Ob) (l1 : Int32) : Option (Ob) :=
  (pX11_isSmall l1).bind fun r16 =>
  (pX11_next_l181 r16 fu (1 : Int32) (sI (sL S 17 (0 : Int64)) 14 (0 : Int32))).bind fun r40 =>
  if r40.1 = 0 then
    some (sI r40.2 11 (4 : Int32))
  else
    if r16 = 0 then
      pX11_next_j317 r40.2 r16 (oI r40.2 13) (3 : Int32)
    else
      pX11_next_j317 r40.2 r16 (oI r40.2 13) (7 : Int32)
def pX11_next_j145 (S : Ob) (l1 : Int32) (s1 : Int32) : Option (Ob) :=
  some (sI (sI (sI S 11 s1) 14 l1) 4 ((oI (sI (sI S 11 s1) 14 l1) 4) + (1 : Int32)))
def pX11_next_j140 (S : Ob) (l1 : Int32) : Option (Ob) :=
  pX11_next_j145 S l1 (3 : Int32)
def pX11_next_j144 (S : Ob) (l1 : Int32) : Option (Ob) :=
  pX11_next_j145 S l1 (4 : Int32)
def pX11_next_j80 (S : Ob) : Option (Ob) :=
  (pX11_peek S).bind fun r10 =>
  if 0 ≤ r10 then
    (pX11_isSmall r10).bind fun r13 =>
    if r13 = 0 then
      (pX11_isDigit r10).bind fun r46 =>
      if r46 = 0 then
        if r10 = (59 : Int32) then
          pX11_next_j140 S r10
        else
          if r10 = (40 : Int32) then
            pX11_next_j140 S r10
          else
            if r10 = (41 : Int32) then
              pX11_next_j140 S r10
            else
              if r10 < (60 : Int32) then
                pX11_next_j144 S r10
              else
                if (62 : Int32) < r10 then
                  pX11_next_j144 S r10
                else
                  pX11_next_j140 S r10
      else
        pX11_next_j164 S r10
    else
      pX11_next_j164 S r10
  else
    some (sI S 11 (0 : Int32))
def pX11_next (S : Ob)   : Option (Ob) :=
  (pX11_next_l0 fu S).bind fun r7 =>
  if oI (sI (sI r7 12 (oI r7 4)) 13 (0 : Int32)) 3 ≤ oI (sI (sI r7 12 (oI r7 4)) 13 (0 : Int32)) 5 then
    pX11_next_j80 (sI (sI r7 12 (oI r7 4)) 13 (0 : Int32))
  else
    if oI (sI (sI r7 12 (oI r7 4)) 13 (0 : Int32)) 4 < oI (sI (sI r7 12 (oI r7 4)) 13 (0 : Int32)) 5 then
      pX11_next_j80 (sI (sI r7 12 (oI r7 4)) 13 (0 : Int32))
    else
      some (sI (sI (sI (sI r7 12 (oI r7 4)) 13 (0 : Int32)) 12 (oI (sI (sI r7 12 (oI r7 4)) 13 (0 : Int32)) 5)) 11 (4 : Int32))
def pX11_bad (S : Ob)  (a : Int32) : Option (Int32 × Ob) :=
  some ((0 : Int32), sI (sI S 15 a) 16 (oI (sI S 15 a) 12))
def pX11_isWord (S : Ob)  (a : Int64) : Option (Int32) :=
  if oI S 11 = (1 : Int32) then
    if lg_cmp (oL S 17) a = 0 then
      some (1 : Int32)
    else
      some (0 : Int32)
  else
    some (0 : Int32)
def pX11_isSign (S : Ob)  (a : Int32) : Option (Int32) :=
  if oI S 11 = (3 : Int32) then
    if oI S 14 = a then
      some (1 : Int32)
    else
      some (0 : Int32)
  else
    some (0 : Int32)
def pX11_sign (S : Ob)  (a : Int32) : Option (Int32 × Ob) :=
  (pX11_isSign S a).bind fun r1 =>
  if r1 = 0 then
    (pX11_bad S (1 : Int32)).bind fun r6 =>
    gd (z01 r6.1) (some (r6.1, r6.2))
  else
    (pX11_next S).bind fun r4 =>
    some ((1 : Int32), r4)
def pX11_isName_l16 (S : Ob) : Nat → Int32 → Int32 → Option (Int32)
  | 0, _, _ => none
  | n + 1, l1, l2 =>
    if (22 : Int32) ≤ l2 then
      some l1
    else
      if l1 = 0 then
        (pX11_isName_l16  S n) (0 : Int32) (l2 + (1 : Int32))
      else
        gd (inB l2 22) (
          if lg_cmp (oL S 17) (oJ S 10 l2.toNatClampNeg) = 0 then
            (pX11_isName_l16  S n) (0 : Int32) (l2 + (1 : Int32))
          else
            (pX11_isName_l16  S n) (1 : Int32) (l2 + (1 : Int32)))
def pX11_isName_j13 (S : Ob) (s0 : Int32) : Option (Int32) :=
  (pX11_isName_l16 S fu s0 (0 : Int32)).bind fun r6 =>
  gd (z01 r6) (some r6)
def pX11_isName (S : Ob)   : Option (Int32) :=
  if oI S 11 = (1 : Int32) then
    pX11_isName_j13 S (1 : Int32)
  else
    pX11_isName_j13 S (0 : Int32)
def pX11_takes (S : Ob)  (a : Int32) (b : Int32) : Option (Int32 × Ob) :=
  if oI S 11 = (2 : Int32) then
    (pX11_isIn (oI S 14) a b).bind fun r2 =>
    if r2 = 0 then
      (pX11_bad S (2 : Int32)).bind fun r7 =>
      gd (z01 r7.1) (some (r7.1, r7.2))
    else
      (pX11_next (sI S 18 (oI S 14))).bind fun r5 =>
      some ((1 : Int32), r5)
  else
    (pX11_bad S (1 : Int32)).bind fun r10 =>
    gd (z01 r10.1) (some (r10.1, r10.2))
def pX11_puts (S : Ob)  (a : Int32) (b : Int32) (c : Int32) : Option (Int32 × Ob) :=
  (pX11_takes S b c).bind fun r1 =>
  if r1.1 = 0 then
    some ((0 : Int32), r1.2)
  else
    gd (inB a 121) (some ((1 : Int32), sA r1.2 7 (va_up (oA r1.2 7) a.toNatClampNeg (oI r1.2 18))))
def pX11_seek_l2 (S : Ob) (l1 : Int32) (l2 : Int32) : Nat → Int32 → Option (Int32)
  | 0, _ => none
  | n + 1, l3 =>
    if l2 ≤ l3 then
      some (-1 : Int32)
    else
      gd (inB (l1 + l3) 36) (
        if lg_cmp (oJ S 9 (l1 + l3).toNatClampNeg) (oL S 17) = 0 then
          some l3
        else
          (pX11_seek_l2  S l1 l2 n) (l3 + (1 : Int32)))
def pX11_seek (S : Ob)  (a : Int32) (b : Int32) : Option (Int32) :=
  pX11_seek_l2 S a b fu (0 : Int32)
def pX11_fresh_j58 (S : Ob) : Option (Int32 × Ob) :=
  (pX11_bad S (3 : Int32)).bind fun r7 =>
  gd (z01 r7.1) (some (r7.1, r7.2))
def pX11_fresh (S : Ob)  (a : Int32) : Option (Int32 × Ob) :=
  (pX11_isName S).bind fun r1 =>
  if r1 = 0 then
    (pX11_bad S (1 : Int32)).bind fun r19 =>
    gd (z01 r19.1) (some (r19.1, r19.2))
  else
    (pX11_seek S (18 : Int32) (oA S 7 0)).bind fun r4 =>
    if 0 ≤ r4 then
      pX11_fresh_j58 S
    else
      (pX11_seek S (26 : Int32) (oA S 7 1)).bind fun r10 =>
      if 0 ≤ r10 then
        pX11_fresh_j58 S
      else
        (pX11_seek S (32 : Int32) (oA S 7 3)).bind fun r13 =>
        if r13 < 0 then
          gd (inB a 36) (
            (pX11_next (sJ S 9 (va_up (oJ S 9) a.toNatClampNeg (oL S 17)))).bind fun r17 =>
            some ((1 : Int32), r17))
        else
          pX11_fresh_j58 S
def pX11_looksAt (S : Ob)  (a : Int32) (b : Int32) : Option (Int32 × Ob) :=
  (pX11_isName S).bind fun r1 =>
  if r1 = 0 then
    (pX11_bad S (1 : Int32)).bind fun r10 =>
    gd (z01 r10.1) (some (r10.1, r10.2))
  else
    (pX11_seek S a b).bind fun r4 =>
    if 0 ≤ oI (sI S 18 r4) 18 then
      some ((1 : Int32), sI S 18 r4)
    else
      (pX11_bad (sI S 18 r4) (3 : Int32)).bind fun r7 =>
      if r7.1 = 0 then
        some ((0 : Int32), r7.2)
      else
        some ((1 : Int32), r7.2)
def pX11_takesName (S : Ob)  (a : Int32) (b : Int32) : Option (Int32 × Ob) :=
  (pX11_looksAt S a b).bind fun r1 =>
  if r1.1 = 0 then
    some ((0 : Int32), r1.2)
  else
    (pX11_next r1.2).bind fun r4 =>
    some ((1 : Int32), r4)
def pX11_readBed (S : Ob)   : Option (Int32 × Ob) :=
  if oA S 7 3 = (4 : Int32) then
    (pX11_bad S (4 : Int32)).bind fun r10 =>
    gd (z01 r10.1) (some (r10.1, r10.2))
  else
    (pX11_next S).bind fun r2 =>
    (pX11_fresh r2 ((32 : Int32) + (oA S 7 3))).bind fun r4 =>
    if r4.1 = 0 then
      some ((0 : Int32), r4.2)
    else
      (pX11_puts r4.2 ((117 : Int32) + (oA S 7 3)) (1 : Int32) (99 : Int32)).bind fun r7 =>
      if r7.1 = 0 then
        some ((0 : Int32), r7.2)
      else
        some ((1 : Int32), sA r7.2 7 (va_up (oA r7.2 7) 3 ((oA r7.2 7 3) + (1 : Int32))))
def pX11_readDaily (S : Ob)   : Option (Int32 × Ob) :=
  if oA S 7 2 = (12 : Int32) then
    (pX11_bad S (4 : Int32)).bind fun r15 =>
    gd (z01 r15.1) (some (r15.1, r15.2))
  else
    (pX11_next S).bind fun r2 =>
    (pX11_takesName r2 (26 : Int32) (oA r2 7 1)).bind fun r4 =>
    if r4.1 = 0 then
      some ((0 : Int32), r4.2)
    else
      gd (inB ((81 : Int32) + (oA S 7 2)) 121) (
        (pX11_takesName (sA r4.2 7 (va_up (oA r4.2 7) (((81 : Int32) + (oA S 7 2)).toNatClampNeg) (oI r4.2 18))) (18 : Int32) (oA (sA r4.2 7 (va_up (oA r4.2 7) (((81 : Int32) + (oA S 7 2)).toNatClampNeg) (oI r4.2 18))) 7 0)).bind fun r8 =>
        if r8.1 = 0 then
          some ((0 : Int32), r8.2)
        else
          gd (inB ((93 : Int32) + (oA S 7 2)) 121) (
            (pX11_puts (sA r8.2 7 (va_up (oA r8.2 7) (((93 : Int32) + (oA S 7 2)).toNatClampNeg) (oI r8.2 18))) ((105 : Int32) + (oA S 7 2)) (1 : Int32) (9 : Int32)).bind fun r12 =>
            if r12.1 = 0 then
              some ((0 : Int32), r12.2)
            else
              some ((1 : Int32), sA r12.2 7 (va_up (oA r12.2 7) 2 ((oA r12.2 7 2) + (1 : Int32))))))
def pX11_readCaught (S : Ob)   : Option (Int32 × Ob) :=
  (pX11_next S).bind fun r1 =>
  (pX11_looksAt r1 (26 : Int32) (oA r1 7 1)).bind fun r3 =>
  if r3.1 = 0 then
    some ((0 : Int32), r3.2)
  else
    gd (inB ((27 : Int32) + (oI r3.2 18)) 121) (
      if oA r3.2 7 ((27 : Int32) + (oI r3.2 18)).toNatClampNeg = (8 : Int32) then
        (pX11_bad r3.2 (4 : Int32)).bind fun r17 =>
        gd (z01 r17.1) (some (r17.1, r17.2))
      else
        (pX11_next r3.2).bind fun r8 =>
        (pX11_takesName r8 (18 : Int32) (oA r8 7 0)).bind fun r10 =>
        if r10.1 = 0 then
          some ((0 : Int32), r10.2)
        else
          gd (inB ((27 : Int32) + (oI r3.2 18)) 121) (gd (inB (((33 : Int32) + ((8 : Int32) * (oI r3.2 18))) + (oA r10.2 7 ((27 : Int32) + (oI r3.2 18)).toNatClampNeg)) 121) (gd (inB ((27 : Int32) + (oI r3.2 18)) 121) (gd (inB ((27 : Int32) + (oI r3.2 18)) 121) (some ((1 : Int32), sA (sA r10.2 7 (va_up (oA r10.2 7) ((((33 : Int32) + ((8 : Int32) * (oI r3.2 18))) + (oA r10.2 7 ((27 : Int32) + (oI r3.2 18)).toNatClampNeg)).toNatClampNeg) (oI r10.2 18))) 7 (va_up (oA (sA r10.2 7 (va_up (oA r10.2 7) ((((33 : Int32) + ((8 : Int32) * (oI r3.2 18))) + (oA r10.2 7 ((27 : Int32) + (oI r3.2 18)).toNatClampNeg)).toNatClampNeg) (oI r10.2 18))) 7) (((27 : Int32) + (oI r3.2 18)).toNatClampNeg) ((oA (sA r10.2 7 (va_up (oA r10.2 7) ((((33 : Int32) + ((8 : Int32) * (oI r3.2 18))) + (oA r10.2 7 ((27 : Int32) + (oI r3.2 18)).toNatClampNeg)).toNatClampNeg) (oI r10.2 18))) 7 ((27 : Int32) + (oI r3.2 18)).toNatClampNeg) + (1 : Int32)))))))))
def pX11_readPerson (S : Ob)   : Option (Int32 × Ob) :=
  if oA S 7 1 = (6 : Int32) then
    (pX11_bad S (4 : Int32)).bind fun r10 =>
    gd (z01 r10.1) (some (r10.1, r10.2))
  else
    (pX11_next S).bind fun r2 =>
    (pX11_fresh r2 ((26 : Int32) + (oA S 7 1))).bind fun r4 =>
    if r4.1 = 0 then
      some ((0 : Int32), r4.2)
    else
      (pX11_puts r4.2 ((21 : Int32) + (oA S 7 1)) (1 : Int32) (99 : Int32)).bind fun r7 =>
      if r7.1 = 0 then
        some ((0 : Int32), r7.2)
      else
        some ((1 : Int32), sA r7.2 7 (va_up (oA r7.2 7) 1 ((oA r7.2 7 1) + (1 : Int32))))
def pX11_readThing (S : Ob)   : Option (Int32 × Ob) :=
  if oA S 7 0 = (8 : Int32) then
    (pX11_bad S (4 : Int32)).bind fun r13 =>
    gd (z01 r13.1) (some (r13.1, r13.2))
  else
    (pX11_next S).bind fun r2 =>
    (pX11_fresh r2 ((18 : Int32) + (oA S 7 0))).bind fun r4 =>
    if r4.1 = 0 then
      some ((0 : Int32), r4.2)
    else
      (pX11_puts r4.2 ((5 : Int32) + (oA S 7 0)) (1 : Int32) (9 : Int32)).bind fun r7 =>
      if r7.1 = 0 then
        some ((0 : Int32), r7.2)
      else
        (pX11_puts r7.2 ((13 : Int32) + (oA S 7 0)) (0 : Int32) (9 : Int32)).bind fun r10 =>
        if r10.1 = 0 then
          some ((0 : Int32), r10.2)
        else
          some ((1 : Int32), sA r10.2 7 (va_up (oA r10.2 7) 0 ((oA r10.2 7 0) + (1 : Int32))))
def pX11_readLine (S : Ob)   : Option (Int32 × Ob) :=
  (pX11_isWord S (499967946343 : Int64)).bind fun r1 =>
  if r1 = 0 then
    (pX11_isWord S (123581014175598 : Int64)).bind fun r4 =>
    if r4 = 0 then
      (pX11_isWord S (109270232688756 : Int64)).bind fun r7 =>
      if r7 = 0 then
        (pX11_isWord S (431131028601 : Int64)).bind fun r10 =>
        if r10 = 0 then
          (pX11_isWord S (6448484 : Int64)).bind fun r13 =>
          if r13 = 0 then
            (pX11_isWord S (1668246882 : Int64)).bind fun r16 =>
            if r16 = 0 then
              (pX11_bad S (1 : Int32)).bind fun r28 =>
              gd (z01 r28.1) (some (r28.1, r28.2))
            else
              if oI S 20 = 0 then
                (pX11_next (sI S 20 (1 : Int32))).bind fun r20 =>
                (pX11_puts r20 (4 : Int32) (1 : Int32) (20 : Int32)).bind fun r22 =>
                gd (z01 r22.1) (some (r22.1, r22.2))
              else
                (pX11_bad S (3 : Int32)).bind fun r25 =>
                gd (z01 r25.1) (some (r25.1, r25.2))
          else
            (pX11_readBed S).bind fun r31 =>
            gd (z01 r31.1) (some (r31.1, r31.2))
        else
          (pX11_readDaily S).bind fun r34 =>
          gd (z01 r34.1) (some (r34.1, r34.2))
      else
        (pX11_readCaught S).bind fun r37 =>
        gd (z01 r37.1) (some (r37.1, r37.2))
    else
      (pX11_readPerson S).bind fun r40 =>
      gd (z01 r40.1) (some (r40.1, r40.2))
  else
    (pX11_readThing S).bind fun r43 =>
    gd (z01 r43.1) (some (r43.1, r43.2))
def pX11_quarter_l80  : Nat → Int32 → Ob → Option (Ob)
  | 0, _, _ => none
  | n + 1, l1, S =>
    if (390 : Int32) ≤ l1 then
      some S
    else
      if (121 : Int32) ≤ l1 then
        gd (inB l1 390) ((pX11_quarter_l80   n) (l1 + (1 : Int32)) (sA S 6 (va_up (oA S 6) l1.toNatClampNeg (0 : Int32))))
      else
        gd (inB l1 121) (gd (inB l1 390) ((pX11_quarter_l80   n) (l1 + (1 : Int32)) (sA S 6 (va_up (oA S 6) l1.toNatClampNeg (oA S 7 l1.toNatClampNeg)))))
def pX11_quarter_l117  : Nat → Int32 → Ob → Option (Ob)
  | 0, _, _ => none
  | n + 1, l1, S =>
    if (18 : Int32) ≤ l1 then
      some S
    else
      gd (inB ((18 : Int32) + l1) 36) (gd (inB l1 36) ((pX11_quarter_l117   n) (l1 + (1 : Int32)) (sJ S 9 (va_up (oJ S 9) l1.toNatClampNeg (oJ S 9 ((18 : Int32) + l1).toNatClampNeg)))))
def pX11_quarter_l146  : Nat → Int32 → Ob → Option (Ob)
  | 0, _, _ => none
  | n + 1, l1, S =>
    if (6 : Int32) ≤ l1 then
      some S
    else
      gd (inB ((27 : Int32) + l1) 390) (gd (inB ((125 : Int32) + l1) 390) ((pX11_quarter_l146   n) (l1 + (1 : Int32)) (sA S 6 (va_up (oA S 6) (((125 : Int32) + l1).toNatClampNeg) (oA S 6 ((27 : Int32) + l1).toNatClampNeg)))))
def pX11_quarter_l178  : Nat → Int32 → Ob → Option (Ob)
  | 0, _, _ => none
  | n + 1, l1, S =>
    if (48 : Int32) ≤ l1 then
      some S
    else
      gd (inB ((33 : Int32) + l1) 390) (gd (inB ((131 : Int32) + l1) 390) ((pX11_quarter_l178   n) (l1 + (1 : Int32)) (sA S 6 (va_up (oA S 6) (((131 : Int32) + l1).toNatClampNeg) (oA S 6 ((33 : Int32) + l1).toNatClampNeg)))))
def pX11_quarter_l35  : Nat → Ob → Option (Int32 × Ob)
  | 0, _ => none
  | n + 1, S =>
    if oI S 11 = 0 then
      (pX11_quarter_l80 fu (0 : Int32) S).bind fun r13 =>
      (pX11_quarter_l117 fu (0 : Int32) r13).bind fun r18 =>
      (pX11_quarter_l146 fu (0 : Int32) r18).bind fun r23 =>
      (pX11_quarter_l178 fu (0 : Int32) r23).bind fun r28 =>
      some (oI (sI r28 23 (0 : Int32)) 19, sI r28 23 (0 : Int32))
    else
      (pX11_readLine S).bind fun r30 =>
      if r30.1 = 0 then
        some ((-1 : Int32) - (oI r30.2 16), r30.2)
      else
        (pX11_sign r30.2 (59 : Int32)).bind fun r33 =>
        if r33.1 = 0 then
          some ((-1 : Int32) - (oI r33.2 16), r33.2)
        else
          (pX11_quarter_l35   n) (sI r33.2 19 ((oI r33.2 19) + (1 : Int32)))
def pX11_quarter (S : Ob)   : Option (Int32 × Ob) :=
  (pX11_taken (sI S 0 (0 : Int32)) (900 : Int32)).bind fun r1 =>
  (pX11_clears (sI (sI (sI r1 15 (0 : Int32)) 19 (0 : Int32)) 20 (0 : Int32))).bind fun r3 =>
  (pX11_next r3).bind fun r5 =>
  pX11_quarter_l35 fu r5
def pX11_fault (S : Ob)   : Option (Int32 × Ob) :=
  some (oI (sI S 0 (0 : Int32)) 15, sI S 0 (0 : Int32))
def pX11_isPerson (S : Ob)  (a : Int32) : Option (Int32) :=
  (pX11_isIn a (0 : Int32) ((oA S 6 1) - (1 : Int32))).bind fun r1 =>
  gd (z01 r1) (some r1)
def pX11_isThing (S : Ob)  (a : Int32) : Option (Int32) :=
  (pX11_isIn a (0 : Int32) ((oA S 6 0) - (1 : Int32))).bind fun r1 =>
  gd (z01 r1) (some r1)
def pX11_isBed (S : Ob)  (a : Int32) : Option (Int32) :=
  (pX11_isIn a (0 : Int32) ((oA S 6 3) - (1 : Int32))).bind fun r1 =>
  gd (z01 r1) (some r1)
def pX11_fromOutside (S : Ob)  (a : Int32) (b : Int32) : Option (Int32) :=
  gd (inB ((125 : Int32) + a) 390) (
    if oA S 6 ((125 : Int32) + a).toNatClampNeg ≤ b then
      some (-1 : Int32)
    else
      gd (inB ((125 : Int32) + a) 390) (gd (inB (((((131 : Int32) + ((8 : Int32) * a)) + (oA S 6 ((125 : Int32) + a).toNatClampNeg)) - (1 : Int32)) - b) 390) (some (oA S 6 (((((131 : Int32) + ((8 : Int32) * a)) + (oA S 6 ((125 : Int32) + a).toNatClampNeg)) - (1 : Int32)) - b).toNatClampNeg))))
def pX11_knotAt_l2 (S : Ob) (l1 : Int32) (l2 : Int32) : Nat → Int32 → Option (Int32)
  | 0, _ => none
  | n + 1, l3 =>
    gd (inB ((125 : Int32) + l1) 390) (
      if oA S 6 ((125 : Int32) + l1).toNatClampNeg ≤ l2 + l3 then
        some l3
      else
        (pX11_fromOutside S l1 (l2 + l3)).bind fun r3 =>
        (pX11_fromOutside S l1 l2).bind fun r5 =>
        if r3 = r5 then
          (pX11_knotAt_l2  S l1 l2 n) (l3 + (1 : Int32))
        else
          some l3)
def pX11_knotAt (S : Ob)  (a : Int32) (b : Int32) : Option (Int32) :=
  (pX11_knotAt_l2 S a b fu (0 : Int32)).bind fun r8 =>
  some r8
def pX11_knotHolds (S : Ob)  (a : Int32) (b : Int32) : Option (Int32) :=
  gd (inB ((125 : Int32) + a) 390) (
    if oA S 6 ((125 : Int32) + a).toNatClampNeg ≤ b then
      some (0 : Int32)
    else
      (pX11_knotAt S a b).bind fun r3 =>
      (pX11_fromOutside S a b).bind fun r5 =>
      gd (inB ((5 : Int32) + r5) 390) (some (r3 * (oA S 6 ((5 : Int32) + r5).toNatClampNeg))))
def pX11_knotsOf_l4 (S : Ob) (l1 : Int32) : Nat → Int32 → Int32 → Option (Int32)
  | 0, _, _ => none
  | n + 1, l2, l3 =>
    gd (inB ((125 : Int32) + l1) 390) (
      if oA S 6 ((125 : Int32) + l1).toNatClampNeg ≤ l3 then
        some l2
      else
        (pX11_knotAt S l1 l3).bind fun r3 =>
        (pX11_knotsOf_l4  S l1 n) (l2 + (1 : Int32)) (l3 + r3))
def pX11_knotsOf (S : Ob)  (a : Int32) : Option (Int32) :=
  (pX11_knotsOf_l4 S a fu (0 : Int32) (0 : Int32)).bind fun r5 =>
  some r5
def pX11_holdsOf_l4 (S : Ob) (l1 : Int32) : Nat → Int32 → Int32 → Option (Int32)
  | 0, _, _ => none
  | n + 1, l2, l3 =>
    gd (inB ((125 : Int32) + l1) 390) (
      if oA S 6 ((125 : Int32) + l1).toNatClampNeg ≤ l3 then
        some l2
      else
        (pX11_fromOutside S l1 l3).bind fun r3 =>
        gd (inB ((5 : Int32) + r3) 390) ((pX11_holdsOf_l4  S l1 n) (l2 + (oA S 6 ((5 : Int32) + r3).toNatClampNeg)) (l3 + (1 : Int32))))
def pX11_holdsOf (S : Ob)  (a : Int32) : Option (Int32) :=
  (pX11_holdsOf_l4 S a fu (0 : Int32) (0 : Int32)).bind fun r6 =>
  some r6
def pX11_isNest (S : Ob)  (a : Int32) : Option (Int32) :=
  gd (inB ((125 : Int32) + a) 390) (
    if oA S 6 ((125 : Int32) + a).toNatClampNeg = (8 : Int32) then
      some (1 : Int32)
    else
      some (0 : Int32))
def pX11_hasThing_j43 (rec : Int32 → Int32 → Option (Int32)) (S : Ob) (l1 : Int32) (l2 : Int32) (l3 : Int32) (l4 : Int32) : Option (Int32) :=
  rec (1 : Int32) (l4 + (1 : Int32))
def pX11_hasThing_l5 (S : Ob) (l1 : Int32) (l2 : Int32) : Nat → Int32 → Int32 → Option (Int32)
  | 0, _, _ => none
  | n + 1, l3, l4 =>
    gd (inB ((125 : Int32) + l1) 390) (
      if oA S 6 ((125 : Int32) + l1).toNatClampNeg ≤ l4 then
        some l3
      else
        if l3 = 0 then
          gd (inB (((131 : Int32) + ((8 : Int32) * l1)) + l4) 390) (
            if oA S 6 (((131 : Int32) + ((8 : Int32) * l1)) + l4).toNatClampNeg = l2 then
              pX11_hasThing_j43 (pX11_hasThing_l5  S l1 l2 n) S l1 l2 l3 l4
            else
              (pX11_hasThing_l5  S l1 l2 n) (0 : Int32) (l4 + (1 : Int32)))
        else
          pX11_hasThing_j43 (pX11_hasThing_l5  S l1 l2 n) S l1 l2 l3 l4)
def pX11_hasThing (S : Ob)  (a : Int32) (b : Int32) : Option (Int32) :=
  (pX11_hasThing_l5 S a b fu (0 : Int32) (0 : Int32)).bind fun r6 =>
  gd (z01 r6) (some r6)
def pX11_bagged_l4 (S : Ob) : Nat → Int32 → Int32 → Option (Int32)
  | 0, _, _ => none
  | n + 1, l1, l2 =>
    if (8 : Int32) ≤ l2 then
      some l1
    else
      gd (inB ((185 : Int32) + l2) 390) ((pX11_bagged_l4  S n) (l1 + (oA S 6 ((185 : Int32) + l2).toNatClampNeg)) (l2 + (1 : Int32)))
def pX11_bagged (S : Ob)   : Option (Int32) :=
  (pX11_bagged_l4 S fu (0 : Int32) (0 : Int32)).bind fun r3 =>
  some r3
def pX11_isSlept (S : Ob)  (a : Int32) : Option (Int32) :=
  gd (inB ((193 : Int32) + a) 390) (
    gd (inB ((117 : Int32) + a) 390) (
      if oA S 6 ((193 : Int32) + a).toNatClampNeg < oA S 6 ((117 : Int32) + a).toNatClampNeg then
        some (0 : Int32)
      else
        some (1 : Int32)))
def pX11_sleptOn_l4 (S : Ob) : Nat → Int32 → Int32 → Option (Int32)
  | 0, _, _ => none
  | n + 1, l1, l2 =>
    if oA S 6 3 ≤ l2 then
      some l1
    else
      (pX11_isSlept S l2).bind fun r2 =>
      if r2 = 0 then
        (pX11_sleptOn_l4  S n) (l1 ||| (0 : Int32)) (l2 + (1 : Int32))
      else
        (pX11_sleptOn_l4  S n) (l1 ||| ((1 : Int32) <<< (l2 &&& 31))) (l2 + (1 : Int32))
def pX11_sleptOn (S : Ob)   : Option (Int32) :=
  (pX11_sleptOn_l4 S fu (0 : Int32) (0 : Int32)).bind fun r5 =>
  some r5
def pX11_stillOf_l37 (S : Ob) (l1 : Int32) (l3 : Int32) : Nat → Int32 → Int32 → Option (Int32)
  | 0, _, _ => none
  | n + 1, l2, l4 =>
    gd (inB ((125 : Int32) + l3) 390) (
      if oA S 6 ((125 : Int32) + l3).toNatClampNeg ≤ l4 then
        some l2
      else
        gd (inB (((131 : Int32) + ((8 : Int32) * l3)) + l4) 390) (
          if oA S 6 (((131 : Int32) + ((8 : Int32) * l3)) + l4).toNatClampNeg = l1 then
            (pX11_stillOf_l37  S l1 l3 n) (l2 + (1 : Int32)) (l4 + (1 : Int32))
          else
            (pX11_stillOf_l37  S l1 l3 n) (l2 + (0 : Int32)) (l4 + (1 : Int32))))
def pX11_stillOf_l24 (S : Ob) (l1 : Int32) : Nat → Int32 → Int32 → Option (Int32)
  | 0, _, _ => none
  | n + 1, l2, l3 =>
    if oA S 6 1 ≤ l3 then
      some l2
    else
      (pX11_stillOf_l37 S l1 l3 fu l2 (0 : Int32)).bind fun r8 =>
      (pX11_stillOf_l24  S l1 n) r8 (l3 + (1 : Int32))
def pX11_stillOf (S : Ob)  (a : Int32) : Option (Int32) :=
  gd (inB ((185 : Int32) + a) 390) (
    gd (inB ((201 : Int32) + a) 390) (
      (pX11_stillOf_l24 S a fu ((oA S 6 ((185 : Int32) + a).toNatClampNeg) + (oA S 6 ((201 : Int32) + a).toNatClampNeg)) (0 : Int32)).bind fun r10 =>
      some r10))
def pX11_person_j24 (S : Ob) (l1 : Int32) (l2 : Int32) (s1 : Int32) : Option (Int32 × Ob) :=
  (pX11_throwsIf S s1).bind fun r4 =>
  if r4.1 = 0 then
    if l2 = (0 : Int32) then
      gd (inB ((21 : Int32) + l1) 390) (some (oA r4.2 6 ((21 : Int32) + l1).toNatClampNeg, r4.2))
    else
    if l2 = (1 : Int32) then
      gd (inB ((179 : Int32) + l1) 390) (some (oA r4.2 6 ((179 : Int32) + l1).toNatClampNeg, r4.2))
    else
    if l2 = (2 : Int32) then
      gd (inB ((125 : Int32) + l1) 390) (some (oA r4.2 6 ((125 : Int32) + l1).toNatClampNeg, r4.2))
    else
    if l2 = (3 : Int32) then
      (pX11_knotsOf r4.2 l1).bind fun r16 =>
      some (r16, r4.2)
    else
    if l2 = (4 : Int32) then
      (pX11_knotHolds r4.2 l1 (0 : Int32)).bind fun r18 =>
      some (r18, r4.2)
    else
    if l2 = (5 : Int32) then
      (pX11_holdsOf r4.2 l1).bind fun r20 =>
      some (r20, r4.2)
    else
      (pX11_isNest r4.2 l1).bind fun r22 =>
      if r22 = 0 then
        some ((0 : Int32), r4.2)
      else
        some ((1 : Int32), r4.2)
  else
    some ((0 : Int32), r4.2)
def pX11_person_j19 (S : Ob) (l1 : Int32) (l2 : Int32) : Option (Int32 × Ob) :=
  pX11_person_j24 S l1 l2 (1 : Int32)
def pX11_person (S : Ob)  (a : Int32) (b : Int32) : Option (Int32 × Ob) :=
  (pX11_isPerson S a).bind fun r1 =>
  if r1 = 0 then
    pX11_person_j19 S a b
  else
    (pX11_isIn b (0 : Int32) (6 : Int32)).bind fun r25 =>
    if r25 = 0 then
      pX11_person_j19 S a b
    else
      pX11_person_j24 S a b (0 : Int32)
def pX11_layer (S : Ob)  (a : Int32) (b : Int32) : Option (Int32 × Ob) :=
  (pX11_isPerson (sI S 0 (0 : Int32)) a).bind fun r1 =>
  if r1 = 0 then
    some ((-1 : Int32), sI S 0 (0 : Int32))
  else
    gd (inB ((125 : Int32) + a) 390) (
      (pX11_isIn b (0 : Int32) ((oA (sI S 0 (0 : Int32)) 6 ((125 : Int32) + a).toNatClampNeg) - (1 : Int32))).bind fun r5 =>
      if r5 = 0 then
        some ((-1 : Int32), sI S 0 (0 : Int32))
      else
        gd (inB (((131 : Int32) + ((8 : Int32) * a)) + b) 390) (some (oA (sI S 0 (0 : Int32)) 6 (((131 : Int32) + ((8 : Int32) * a)) + b).toNatClampNeg, sI S 0 (0 : Int32))))
def pX11_thing_l20 (S : Ob) (l1 : Int32) (l2 : Int32) : Nat → Int32 → Int32 → Option (Int32)
  | 0, _, _ => none
  | n + 1, l3, l4 =>
    if oA S 6 1 ≤ l4 then
      some l3
    else
      (pX11_hasThing S l4 l1).bind fun r5 =>
      if r5 = 0 then
        (pX11_thing_l20  S l1 l2 n) (l3 ||| (0 : Int32)) (l4 + (1 : Int32))
      else
        (pX11_thing_l20  S l1 l2 n) (l3 ||| ((1 : Int32) <<< (l4 &&& 31))) (l4 + (1 : Int32))
def pX11_thing (S : Ob)  (a : Int32) (b : Int32) : Option (Int32 × Ob) :=
  (pX11_isThing (sI S 0 (0 : Int32)) a).bind fun r1 =>
  if r1 = 0 then
    some ((-1 : Int32), sI S 0 (0 : Int32))
  else
    (pX11_thing_l20 (sI S 0 (0 : Int32)) a b fu (0 : Int32) (0 : Int32)).bind fun r8 =>
    if b = (0 : Int32) then
      gd (inB ((5 : Int32) + a) 390) (some (oA (sI S 0 (0 : Int32)) 6 ((5 : Int32) + a).toNatClampNeg, sI S 0 (0 : Int32)))
    else
    if b = (1 : Int32) then
      gd (inB ((13 : Int32) + a) 390) (some (oA (sI S 0 (0 : Int32)) 6 ((13 : Int32) + a).toNatClampNeg, sI S 0 (0 : Int32)))
    else
    if b = (2 : Int32) then
      gd (inB ((185 : Int32) + a) 390) (some (oA (sI S 0 (0 : Int32)) 6 ((185 : Int32) + a).toNatClampNeg, sI S 0 (0 : Int32)))
    else
    if b = (3 : Int32) then
      some (r8, sI S 0 (0 : Int32))
    else
    if b = (4 : Int32) then
      (pX11_stillOf (sI S 0 (0 : Int32)) a).bind fun r18 =>
      some (r18, sI S 0 (0 : Int32))
    else
      some ((-1 : Int32), sI S 0 (0 : Int32))
def pX11_bed (S : Ob)  (a : Int32) (b : Int32) : Option (Int32 × Ob) :=
  (pX11_isBed (sI S 0 (0 : Int32)) a).bind fun r1 =>
  if r1 = 0 then
    some ((-1 : Int32), sI S 0 (0 : Int32))
  else
    if b = 0 then
      gd (inB ((117 : Int32) + a) 390) (some (oA (sI S 0 (0 : Int32)) 6 ((117 : Int32) + a).toNatClampNeg, sI S 0 (0 : Int32)))
    else
      if b = (1 : Int32) then
        gd (inB ((193 : Int32) + a) 390) (some (oA (sI S 0 (0 : Int32)) 6 ((193 : Int32) + a).toNatClampNeg, sI S 0 (0 : Int32)))
      else
        if b = (2 : Int32) then
          (pX11_isSlept (sI S 0 (0 : Int32)) a).bind fun r9 =>
          if r9 = 0 then
            some ((0 : Int32), sI S 0 (0 : Int32))
          else
            some ((1 : Int32), sI S 0 (0 : Int32))
        else
          if b = (3 : Int32) then
            gd (inB ((197 : Int32) + a) 390) (some (oA (sI S 0 (0 : Int32)) 6 ((197 : Int32) + a).toNatClampNeg, sI S 0 (0 : Int32)))
          else
            some ((-1 : Int32), sI S 0 (0 : Int32))
def pX11_now_l9 (S : Ob) (l1 : Int32) : Nat → Int32 → Int32 → Option (Int32)
  | 0, _, _ => none
  | n + 1, l2, l3 =>
    if oA S 6 1 ≤ l3 then
      some l2
    else
      (pX11_isNest S l3).bind fun r2 =>
      if r2 = 0 then
        (pX11_now_l9  S l1 n) (l2 ||| (0 : Int32)) (l3 + (1 : Int32))
      else
        (pX11_now_l9  S l1 n) (l2 ||| ((1 : Int32) <<< (l3 &&& 31))) (l3 + (1 : Int32))
def pX11_now (S : Ob)  (a : Int32) : Option (Int32 × Ob) :=
  (pX11_now_l9 (sI S 0 (0 : Int32)) a fu (0 : Int32) (0 : Int32)).bind fun r5 =>
  if a = (0 : Int32) then
    some (oA (sI S 0 (0 : Int32)) 6 121, sI S 0 (0 : Int32))
  else
  if a = (1 : Int32) then
    (pX11_bagged (sI S 0 (0 : Int32))).bind fun r14 =>
    some (r14, sI S 0 (0 : Int32))
  else
  if a = (2 : Int32) then
    (pX11_sleptOn (sI S 0 (0 : Int32))).bind fun r16 =>
    some (r16, sI S 0 (0 : Int32))
  else
  if a = (3 : Int32) then
    some (r5, sI S 0 (0 : Int32))
  else
  if a = (4 : Int32) then
    some (oA (sI S 0 (0 : Int32)) 6 122, sI S 0 (0 : Int32))
  else
  if a = (5 : Int32) then
    some (oA (sI S 0 (0 : Int32)) 6 123, sI S 0 (0 : Int32))
  else
  if a = (6 : Int32) then
    some (oA (sI S 0 (0 : Int32)) 6 124, sI S 0 (0 : Int32))
  else
    some ((-1 : Int32), sI S 0 (0 : Int32))
def pX11_whyStroke (S : Ob)  (a : Int32) (b : Int32) : Option (Int32) :=
  gd (inB ((125 : Int32) + a) 390) (
    if oA S 6 ((125 : Int32) + a).toNatClampNeg = 0 then
      some (1 : Int32)
    else
      (pX11_knotHolds S a (0 : Int32)).bind fun r3 =>
      if r3 ≤ b then
        if b ≤ oA S 6 4 then
          gd (inB ((179 : Int32) + a) 390) (
            gd (inB ((21 : Int32) + a) 390) (
              if (oA S 6 ((179 : Int32) + a).toNatClampNeg) + b ≤ oA S 6 ((21 : Int32) + a).toNatClampNeg then
                some (0 : Int32)
              else
                some (4 : Int32)))
        else
          some (3 : Int32)
      else
        some (2 : Int32))
def pX11_draws_j35 (S : Ob) (l1 : Int32) (l3 : Int32) (l4 : Int32) (s0 : Int32) : Option (Ob) :=
  gd (inB ((185 : Int32) + l3) 390) (gd (inB ((185 : Int32) + l3) 390) (gd (inB ((125 : Int32) + l1) 390) (gd (inB ((125 : Int32) + l1) 390) (some (sA (sA (sA S 6 (va_up (oA S 6) (((185 : Int32) + l3).toNatClampNeg) ((oA S 6 ((185 : Int32) + l3).toNatClampNeg) + s0))) 6 (va_up (oA (sA S 6 (va_up (oA S 6) (((185 : Int32) + l3).toNatClampNeg) ((oA S 6 ((185 : Int32) + l3).toNatClampNeg) + s0))) 6) 124 ((oA (sA S 6 (va_up (oA S 6) (((185 : Int32) + l3).toNatClampNeg) ((oA S 6 ((185 : Int32) + l3).toNatClampNeg) + s0))) 6 124) + (l4 - s0)))) 6 (va_up (oA (sA (sA S 6 (va_up (oA S 6) (((185 : Int32) + l3).toNatClampNeg) ((oA S 6 ((185 : Int32) + l3).toNatClampNeg) + s0))) 6 (va_up (oA (sA S 6 (va_up (oA S 6) (((185 : Int32) + l3).toNatClampNeg) ((oA S 6 ((185 : Int32) + l3).toNatClampNeg) + s0))) 6) 124 ((oA (sA S 6 (va_up (oA S 6) (((185 : Int32) + l3).toNatClampNeg) ((oA S 6 ((185 : Int32) + l3).toNatClampNeg) + s0))) 6 124) + (l4 - s0)))) 6) (((125 : Int32) + l1).toNatClampNeg) ((oA (sA (sA S 6 (va_up (oA S 6) (((185 : Int32) + l3).toNatClampNeg) ((oA S 6 ((185 : Int32) + l3).toNatClampNeg) + s0))) 6 (va_up (oA (sA S 6 (va_up (oA S 6) (((185 : Int32) + l3).toNatClampNeg) ((oA S 6 ((185 : Int32) + l3).toNatClampNeg) + s0))) 6) 124 ((oA (sA S 6 (va_up (oA S 6) (((185 : Int32) + l3).toNatClampNeg) ((oA S 6 ((185 : Int32) + l3).toNatClampNeg) + s0))) 6 124) + (l4 - s0)))) 6 ((125 : Int32) + l1).toNatClampNeg) - l4)))))))
def pX11_draws (S : Ob)  (a : Int32) (b : Int32) : Option (Ob) :=
  (pX11_fromOutside S a (0 : Int32)).bind fun r1 =>
  (pX11_knotAt S a (0 : Int32)).bind fun r3 =>
  if b = 0 then
    pX11_draws_j35 S a r1 r3 (0 : Int32)
  else
    (pX11_bagged S).bind fun r10 =>
    (pX11_lesser r3 ((10 : Int32) - r10)).bind fun r12 =>
    pX11_draws_j35 S a r1 r3 r12
def pX11_strokes_l2 (l1 : Int32) (l2 : Int32) : Nat → Int32 → Ob → Option (Ob)
  | 0, _, _ => none
  | n + 1, l3, S =>
    gd (inB ((125 : Int32) + l1) 390) (
      if oA S 6 ((125 : Int32) + l1).toNatClampNeg ≤ 0 then
        some S
      else
        (pX11_knotHolds S l1 (0 : Int32)).bind fun r3 =>
        if l2 < l3 + r3 then
          some S
        else
          (pX11_knotHolds S l1 (0 : Int32)).bind fun r6 =>
          (pX11_draws S l1 (1 : Int32)).bind fun r8 =>
          (pX11_strokes_l2  l1 l2 n) (l3 + r6) r8)
def pX11_strokes (S : Ob)  (a : Int32) (b : Int32) : Option (Ob) :=
  (pX11_strokes_l2 a b fu (0 : Int32) S).bind fun r10 =>
  gd (inB ((179 : Int32) + a) 390) (gd (inB ((179 : Int32) + a) 390) (some (sA (sA r10 6 (va_up (oA r10 6) (((179 : Int32) + a).toNatClampNeg) ((oA r10 6 ((179 : Int32) + a).toNatClampNeg) + b))) 6 (va_up (oA (sA r10 6 (va_up (oA r10 6) (((179 : Int32) + a).toNatClampNeg) ((oA r10 6 ((179 : Int32) + a).toNatClampNeg) + b))) 6) 122 ((oA (sA r10 6 (va_up (oA r10 6) (((179 : Int32) + a).toNatClampNeg) ((oA r10 6 ((179 : Int32) + a).toNatClampNeg) + b))) 6 122) + (1 : Int32))))))
def pX11_cuts (S : Ob)  (a : Int32) : Option (Ob) :=
  (pX11_draws S a (0 : Int32)).bind fun r1 =>
  some (sA r1 6 (va_up (oA r1 6) 123 ((oA r1 6 123) + (1 : Int32))))
def pX11_catches (S : Ob)  (a : Int32) (b : Int32) : Option (Ob) :=
  gd (inB ((125 : Int32) + a) 390) (gd (inB (((131 : Int32) + ((8 : Int32) * a)) + (oA S 6 ((125 : Int32) + a).toNatClampNeg)) 390) (gd (inB ((125 : Int32) + a) 390) (gd (inB ((125 : Int32) + a) 390) (some (sA (sA S 6 (va_up (oA S 6) ((((131 : Int32) + ((8 : Int32) * a)) + (oA S 6 ((125 : Int32) + a).toNatClampNeg)).toNatClampNeg) b)) 6 (va_up (oA (sA S 6 (va_up (oA S 6) ((((131 : Int32) + ((8 : Int32) * a)) + (oA S 6 ((125 : Int32) + a).toNatClampNeg)).toNatClampNeg) b)) 6) (((125 : Int32) + a).toNatClampNeg) ((oA (sA S 6 (va_up (oA S 6) ((((131 : Int32) + ((8 : Int32) * a)) + (oA S 6 ((125 : Int32) + a).toNatClampNeg)).toNatClampNeg) b)) 6 ((125 : Int32) + a).toNatClampNeg) + (1 : Int32))))))))
def pX11_stuffs (S : Ob)  (a : Int32) (b : Int32) : Option (Ob) :=
  gd (inB ((185 : Int32) + b) 390) (gd (inB ((185 : Int32) + b) 390) (gd (inB ((193 : Int32) + a) 390) (gd (inB ((13 : Int32) + b) 390) (gd (inB ((193 : Int32) + a) 390) (gd (inB ((197 : Int32) + a) 390) (gd (inB ((197 : Int32) + a) 390) (gd (inB ((201 : Int32) + b) 390) (gd (inB ((201 : Int32) + b) 390) (some (sA (sA (sA (sA S 6 (va_up (oA S 6) (((185 : Int32) + b).toNatClampNeg) ((oA S 6 ((185 : Int32) + b).toNatClampNeg) - (1 : Int32)))) 6 (va_up (oA (sA S 6 (va_up (oA S 6) (((185 : Int32) + b).toNatClampNeg) ((oA S 6 ((185 : Int32) + b).toNatClampNeg) - (1 : Int32)))) 6) (((193 : Int32) + a).toNatClampNeg) ((oA (sA S 6 (va_up (oA S 6) (((185 : Int32) + b).toNatClampNeg) ((oA S 6 ((185 : Int32) + b).toNatClampNeg) - (1 : Int32)))) 6 ((193 : Int32) + a).toNatClampNeg) + (oA (sA S 6 (va_up (oA S 6) (((185 : Int32) + b).toNatClampNeg) ((oA S 6 ((185 : Int32) + b).toNatClampNeg) - (1 : Int32)))) 6 ((13 : Int32) + b).toNatClampNeg)))) 6 (va_up (oA (sA (sA S 6 (va_up (oA S 6) (((185 : Int32) + b).toNatClampNeg) ((oA S 6 ((185 : Int32) + b).toNatClampNeg) - (1 : Int32)))) 6 (va_up (oA (sA S 6 (va_up (oA S 6) (((185 : Int32) + b).toNatClampNeg) ((oA S 6 ((185 : Int32) + b).toNatClampNeg) - (1 : Int32)))) 6) (((193 : Int32) + a).toNatClampNeg) ((oA (sA S 6 (va_up (oA S 6) (((185 : Int32) + b).toNatClampNeg) ((oA S 6 ((185 : Int32) + b).toNatClampNeg) - (1 : Int32)))) 6 ((193 : Int32) + a).toNatClampNeg) + (oA (sA S 6 (va_up (oA S 6) (((185 : Int32) + b).toNatClampNeg) ((oA S 6 ((185 : Int32) + b).toNatClampNeg) - (1 : Int32)))) 6 ((13 : Int32) + b).toNatClampNeg)))) 6) (((197 : Int32) + a).toNatClampNeg) ((oA (sA (sA S 6 (va_up (oA S 6) (((185 : Int32) + b).toNatClampNeg) ((oA S 6 ((185 : Int32) + b).toNatClampNeg) - (1 : Int32)))) 6 (va_up (oA (sA S 6 (va_up (oA S 6) (((185 : Int32) + b).toNatClampNeg) ((oA S 6 ((185 : Int32) + b).toNatClampNeg) - (1 : Int32)))) 6) (((193 : Int32) + a).toNatClampNeg) ((oA (sA S 6 (va_up (oA S 6) (((185 : Int32) + b).toNatClampNeg) ((oA S 6 ((185 : Int32) + b).toNatClampNeg) - (1 : Int32)))) 6 ((193 : Int32) + a).toNatClampNeg) + (oA (sA S 6 (va_up (oA S 6) (((185 : Int32) + b).toNatClampNeg) ((oA S 6 ((185 : Int32) + b).toNatClampNeg) - (1 : Int32)))) 6 ((13 : Int32) + b).toNatClampNeg)))) 6 ((197 : Int32) + a).toNatClampNeg) + (1 : Int32)))) 6 (va_up (oA (sA (sA (sA S 6 (va_up (oA S 6) (((185 : Int32) + b).toNatClampNeg) ((oA S 6 ((185 : Int32) + b).toNatClampNeg) - (1 : Int32)))) 6 (va_up (oA (sA S 6 (va_up (oA S 6) (((185 : Int32) + b).toNatClampNeg) ((oA S 6 ((185 : Int32) + b).toNatClampNeg) - (1 : Int32)))) 6) (((193 : Int32) + a).toNatClampNeg) ((oA (sA S 6 (va_up (oA S 6) (((185 : Int32) + b).toNatClampNeg) ((oA S 6 ((185 : Int32) + b).toNatClampNeg) - (1 : Int32)))) 6 ((193 : Int32) + a).toNatClampNeg) + (oA (sA S 6 (va_up (oA S 6) (((185 : Int32) + b).toNatClampNeg) ((oA S 6 ((185 : Int32) + b).toNatClampNeg) - (1 : Int32)))) 6 ((13 : Int32) + b).toNatClampNeg)))) 6 (va_up (oA (sA (sA S 6 (va_up (oA S 6) (((185 : Int32) + b).toNatClampNeg) ((oA S 6 ((185 : Int32) + b).toNatClampNeg) - (1 : Int32)))) 6 (va_up (oA (sA S 6 (va_up (oA S 6) (((185 : Int32) + b).toNatClampNeg) ((oA S 6 ((185 : Int32) + b).toNatClampNeg) - (1 : Int32)))) 6) (((193 : Int32) + a).toNatClampNeg) ((oA (sA S 6 (va_up (oA S 6) (((185 : Int32) + b).toNatClampNeg) ((oA S 6 ((185 : Int32) + b).toNatClampNeg) - (1 : Int32)))) 6 ((193 : Int32) + a).toNatClampNeg) + (oA (sA S 6 (va_up (oA S 6) (((185 : Int32) + b).toNatClampNeg) ((oA S 6 ((185 : Int32) + b).toNatClampNeg) - (1 : Int32)))) 6 ((13 : Int32) + b).toNatClampNeg)))) 6) (((197 : Int32) + a).toNatClampNeg) ((oA (sA (sA S 6 (va_up (oA S 6) (((185 : Int32) + b).toNatClampNeg) ((oA S 6 ((185 : Int32) + b).toNatClampNeg) - (1 : Int32)))) 6 (va_up (oA (sA S 6 (va_up (oA S 6) (((185 : Int32) + b).toNatClampNeg) ((oA S 6 ((185 : Int32) + b).toNatClampNeg) - (1 : Int32)))) 6) (((193 : Int32) + a).toNatClampNeg) ((oA (sA S 6 (va_up (oA S 6) (((185 : Int32) + b).toNatClampNeg) ((oA S 6 ((185 : Int32) + b).toNatClampNeg) - (1 : Int32)))) 6 ((193 : Int32) + a).toNatClampNeg) + (oA (sA S 6 (va_up (oA S 6) (((185 : Int32) + b).toNatClampNeg) ((oA S 6 ((185 : Int32) + b).toNatClampNeg) - (1 : Int32)))) 6 ((13 : Int32) + b).toNatClampNeg)))) 6 ((197 : Int32) + a).toNatClampNeg) + (1 : Int32)))) 6) (((201 : Int32) + b).toNatClampNeg) ((oA (sA (sA (sA S 6 (va_up (oA S 6) (((185 : Int32) + b).toNatClampNeg) ((oA S 6 ((185 : Int32) + b).toNatClampNeg) - (1 : Int32)))) 6 (va_up (oA (sA S 6 (va_up (oA S 6) (((185 : Int32) + b).toNatClampNeg) ((oA S 6 ((185 : Int32) + b).toNatClampNeg) - (1 : Int32)))) 6) (((193 : Int32) + a).toNatClampNeg) ((oA (sA S 6 (va_up (oA S 6) (((185 : Int32) + b).toNatClampNeg) ((oA S 6 ((185 : Int32) + b).toNatClampNeg) - (1 : Int32)))) 6 ((193 : Int32) + a).toNatClampNeg) + (oA (sA S 6 (va_up (oA S 6) (((185 : Int32) + b).toNatClampNeg) ((oA S 6 ((185 : Int32) + b).toNatClampNeg) - (1 : Int32)))) 6 ((13 : Int32) + b).toNatClampNeg)))) 6 (va_up (oA (sA (sA S 6 (va_up (oA S 6) (((185 : Int32) + b).toNatClampNeg) ((oA S 6 ((185 : Int32) + b).toNatClampNeg) - (1 : Int32)))) 6 (va_up (oA (sA S 6 (va_up (oA S 6) (((185 : Int32) + b).toNatClampNeg) ((oA S 6 ((185 : Int32) + b).toNatClampNeg) - (1 : Int32)))) 6) (((193 : Int32) + a).toNatClampNeg) ((oA (sA S 6 (va_up (oA S 6) (((185 : Int32) + b).toNatClampNeg) ((oA S 6 ((185 : Int32) + b).toNatClampNeg) - (1 : Int32)))) 6 ((193 : Int32) + a).toNatClampNeg) + (oA (sA S 6 (va_up (oA S 6) (((185 : Int32) + b).toNatClampNeg) ((oA S 6 ((185 : Int32) + b).toNatClampNeg) - (1 : Int32)))) 6 ((13 : Int32) + b).toNatClampNeg)))) 6) (((197 : Int32) + a).toNatClampNeg) ((oA (sA (sA S 6 (va_up (oA S 6) (((185 : Int32) + b).toNatClampNeg) ((oA S 6 ((185 : Int32) + b).toNatClampNeg) - (1 : Int32)))) 6 (va_up (oA (sA S 6 (va_up (oA S 6) (((185 : Int32) + b).toNatClampNeg) ((oA S 6 ((185 : Int32) + b).toNatClampNeg) - (1 : Int32)))) 6) (((193 : Int32) + a).toNatClampNeg) ((oA (sA S 6 (va_up (oA S 6) (((185 : Int32) + b).toNatClampNeg) ((oA S 6 ((185 : Int32) + b).toNatClampNeg) - (1 : Int32)))) 6 ((193 : Int32) + a).toNatClampNeg) + (oA (sA S 6 (va_up (oA S 6) (((185 : Int32) + b).toNatClampNeg) ((oA S 6 ((185 : Int32) + b).toNatClampNeg) - (1 : Int32)))) 6 ((13 : Int32) + b).toNatClampNeg)))) 6 ((197 : Int32) + a).toNatClampNeg) + (1 : Int32)))) 6 ((201 : Int32) + b).toNatClampNeg) + (1 : Int32)))))))))))))
def pX11_day_l2  : Nat → Int32 → Ob → Option (Ob)
  | 0, _, _ => none
  | n + 1, l1, S =>
    if (6 : Int32) ≤ l1 then
      some S
    else
      gd (inB ((179 : Int32) + l1) 390) ((pX11_day_l2   n) (l1 + (1 : Int32)) (sA S 6 (va_up (oA S 6) (((179 : Int32) + l1).toNatClampNeg) (0 : Int32))))
def pX11_day_l27  : Nat → Int32 → Ob → Option (Ob)
  | 0, _, _ => none
  | n + 1, l1, S =>
    if oA S 6 2 ≤ l1 then
      some S
    else
      gd (inB ((105 : Int32) + l1) 390) (
        gd (decide (¬ oA S 6 ((105 : Int32) + l1).toNatClampNeg = 0)) (
          if ((oA S 6 121) + (1 : Int32)) - ((oA S 6 121) + (1 : Int32)) / (oA S 6 ((105 : Int32) + l1).toNatClampNeg) * (oA S 6 ((105 : Int32) + l1).toNatClampNeg) = 0 then
            gd (inB ((81 : Int32) + l1) 390) (
              (pX11_isNest S (oA S 6 ((81 : Int32) + l1).toNatClampNeg)).bind fun r10 =>
              if r10 = 0 then
                gd (inB ((81 : Int32) + l1) 390) (
                  gd (inB ((93 : Int32) + l1) 390) (
                    (pX11_catches S (oA S 6 ((81 : Int32) + l1).toNatClampNeg) (oA S 6 ((93 : Int32) + l1).toNatClampNeg)).bind fun r15 =>
                    (pX11_day_l27   n) (l1 + (1 : Int32)) r15))
              else
                (pX11_day_l27   n) (l1 + (1 : Int32)) S)
          else
            (pX11_day_l27   n) (l1 + (1 : Int32)) S))
def pX11_day (S : Ob)   : Option (Ob) :=
  (pX11_day_l2 fu (0 : Int32) S).bind fun r3 =>
  (pX11_day_l27 fu (0 : Int32) r3).bind fun r17 =>
  some (sA r17 6 (va_up (oA r17 6) 121 ((oA r17 6 121) + (1 : Int32))))
def pX11_goesOn_l2 (l1 : Int32) : Nat → Int32 → Ob → Option (Int32 × Ob)
  | 0, _, _ => none
  | n + 1, l2, S =>
    if l1 ≤ l2 then
      some (l2, S)
    else
      if (400 : Int32) ≤ oA S 6 121 then
        some (l2, S)
      else
        (pX11_day S).bind fun r3 =>
        (pX11_goesOn_l2  l1 n) (l2 + (1 : Int32)) r3
def pX11_goesOn (S : Ob)  (a : Int32) : Option (Int32 × Ob) :=
  (pX11_goesOn_l2 a fu (0 : Int32) S).bind fun r5 =>
  some (r5.1, r5.2)
def pX11_keep_l47  : Nat → Int32 → Ob → Option (Ob)
  | 0, _, _ => none
  | n + 1, l1, S =>
    if (88 : Int32) ≤ l1 then
      some S
    else
      gd (inB ((121 : Int32) + l1) 390) (gd (inB (((88 : Int32) * (oI S 23)) + l1) 704) ((pX11_keep_l47   n) (l1 + (1 : Int32)) (sA S 21 (va_up (oA S 21) ((((88 : Int32) * (oI S 23)) + l1).toNatClampNeg) (oA S 6 ((121 : Int32) + l1).toNatClampNeg)))))
def pX11_keep_j45 (S : Ob) : Option (Ob) :=
  (pX11_keep_l47 fu (0 : Int32) S).bind fun r5 =>
  some (sI r5 23 ((oI r5 23) + (1 : Int32)))
def pX11_keep_l11  : Nat → Int32 → Ob → Option (Ob)
  | 0, _, _ => none
  | n + 1, l1, S =>
    if (616 : Int32) ≤ l1 then
      some S
    else
      gd (inB (l1 + (88 : Int32)) 704) (gd (inB l1 704) ((pX11_keep_l11   n) (l1 + (1 : Int32)) (sA S 21 (va_up (oA S 21) l1.toNatClampNeg (oA S 21 (l1 + (88 : Int32)).toNatClampNeg)))))
def pX11_keep (S : Ob)   : Option (Ob) :=
  if oI S 23 = (8 : Int32) then
    (pX11_keep_l11 fu (0 : Int32) S).bind fun r10 =>
    pX11_keep_j45 (sI r10 23 (7 : Int32))
  else
    pX11_keep_j45 S
def pX11_stroke (S : Ob)  (a : Int32) (b : Int32) : Option (Int32 × Ob) :=
  (pX11_isPerson (sI S 0 (0 : Int32)) a).bind fun r1 =>
  if r1 = 0 then
    some ((-1 : Int32), sI S 0 (0 : Int32))
  else
    (pX11_isIn b (1 : Int32) (20 : Int32)).bind fun r4 =>
    if r4 = 0 then
      some ((-1 : Int32), sI S 0 (0 : Int32))
    else
      (pX11_whyStroke (sI S 0 (0 : Int32)) a b).bind fun r7 =>
      if r7 ≤ 0 then
        (pX11_keep (sI S 0 (0 : Int32))).bind fun r10 =>
        (pX11_strokes r10 a b).bind fun r12 =>
        some ((0 : Int32), r12)
      else
        some (r7, sI S 0 (0 : Int32))
def pX11_cut (S : Ob)  (a : Int32) : Option (Int32 × Ob) :=
  (pX11_isPerson (sI S 0 (0 : Int32)) a).bind fun r1 =>
  if r1 = 0 then
    some ((-1 : Int32), sI S 0 (0 : Int32))
  else
    gd (inB ((125 : Int32) + a) 390) (
      if oA (sI S 0 (0 : Int32)) 6 ((125 : Int32) + a).toNatClampNeg = 0 then
        some ((1 : Int32), sI S 0 (0 : Int32))
      else
        (pX11_keep (sI S 0 (0 : Int32))).bind fun r6 =>
        (pX11_cuts r6 a).bind fun r8 =>
        some ((0 : Int32), r8))
def pX11_snag (S : Ob)  (a : Int32) (b : Int32) : Option (Int32 × Ob) :=
  (pX11_isPerson (sI S 0 (0 : Int32)) a).bind fun r1 =>
  if r1 = 0 then
    some ((-1 : Int32), sI S 0 (0 : Int32))
  else
    (pX11_isThing (sI S 0 (0 : Int32)) b).bind fun r4 =>
    if r4 = 0 then
      some ((-1 : Int32), sI S 0 (0 : Int32))
    else
      (pX11_isNest (sI S 0 (0 : Int32)) a).bind fun r7 =>
      if r7 = 0 then
        (pX11_keep (sI S 0 (0 : Int32))).bind fun r10 =>
        (pX11_catches r10 a b).bind fun r12 =>
        some ((0 : Int32), r12)
      else
        some ((1 : Int32), sI S 0 (0 : Int32))
def pX11_stuff (S : Ob)  (a : Int32) (b : Int32) : Option (Int32 × Ob) :=
  (pX11_isBed (sI S 0 (0 : Int32)) a).bind fun r1 =>
  if r1 = 0 then
    some ((-1 : Int32), sI S 0 (0 : Int32))
  else
    (pX11_isThing (sI S 0 (0 : Int32)) b).bind fun r4 =>
    if r4 = 0 then
      some ((-1 : Int32), sI S 0 (0 : Int32))
    else
      gd (inB ((185 : Int32) + b) 390) (
        if oA (sI S 0 (0 : Int32)) 6 ((185 : Int32) + b).toNatClampNeg = 0 then
          some ((1 : Int32), sI S 0 (0 : Int32))
        else
          (pX11_keep (sI S 0 (0 : Int32))).bind fun r9 =>
          (pX11_stuffs r9 a b).bind fun r11 =>
          some ((0 : Int32), r11))
def pX11_days (S : Ob)  (a : Int32) : Option (Int32 × Ob) :=
  (pX11_isIn a (1 : Int32) (60 : Int32)).bind fun r1 =>
  if r1 = 0 then
    some ((-1 : Int32), sI S 0 (0 : Int32))
  else
    if oA (sI S 0 (0 : Int32)) 6 121 = (400 : Int32) then
      some ((0 : Int32), sI S 0 (0 : Int32))
    else
      (pX11_keep (sI S 0 (0 : Int32))).bind fun r5 =>
      (pX11_goesOn r5 a).bind fun r7 =>
      some (r7.1, r7.2)
def pX11_undo_l26  : Nat → Int32 → Ob → Option (Ob)
  | 0, _, _ => none
  | n + 1, l1, S =>
    if (88 : Int32) ≤ l1 then
      some S
    else
      gd (inB (((88 : Int32) * (oI S 23)) + l1) 704) (gd (inB ((121 : Int32) + l1) 390) ((pX11_undo_l26   n) (l1 + (1 : Int32)) (sA S 6 (va_up (oA S 6) (((121 : Int32) + l1).toNatClampNeg) (oA S 21 (((88 : Int32) * (oI S 23)) + l1).toNatClampNeg)))))
def pX11_undo (S : Ob)   : Option (Int32 × Ob) :=
  if oI (sI S 0 (0 : Int32)) 23 = 0 then
    some ((-1 : Int32), sI S 0 (0 : Int32))
  else
    (pX11_undo_l26 fu (0 : Int32) (sI (sI S 0 (0 : Int32)) 23 ((oI (sI S 0 (0 : Int32)) 23) - (1 : Int32)))).bind fun r5 =>
    some (oI r5 23, r5)
def pX11_tries_l2  : Nat → Int32 → Ob → Option (Ob)
  | 0, _, _ => none
  | n + 1, l1, S =>
    if (88 : Int32) ≤ l1 then
      some S
    else
      gd (inB ((121 : Int32) + l1) 390) (gd (inB l1 88) ((pX11_tries_l2   n) (l1 + (1 : Int32)) (sA S 22 (va_up (oA S 22) l1.toNatClampNeg (oA S 6 ((121 : Int32) + l1).toNatClampNeg)))))
def pX11_tries (S : Ob)   : Option (Ob) :=
  (pX11_tries_l2 fu (0 : Int32) S).bind fun r4 =>
  some r4
def pX11_back_l2  : Nat → Int32 → Ob → Option (Ob)
  | 0, _, _ => none
  | n + 1, l1, S =>
    if (88 : Int32) ≤ l1 then
      some S
    else
      gd (inB l1 88) (gd (inB ((121 : Int32) + l1) 390) ((pX11_back_l2   n) (l1 + (1 : Int32)) (sA S 6 (va_up (oA S 6) (((121 : Int32) + l1).toNatClampNeg) (oA S 22 l1.toNatClampNeg)))))
def pX11_back (S : Ob)   : Option (Ob) :=
  (pX11_back_l2 fu (0 : Int32) S).bind fun r4 =>
  some r4
def pX11_easeBy_j105 (rec : Int32 → Int32 → Int32 → Option (Int32)) (S : Ob) (l1 : Int32) (l2 : Int32) (l3 : Int32) (l4 : Int32) (l5 : Int32) : Option (Int32) :=
  (pX11_knotAt S l1 l4).bind fun r12 =>
  rec l2 (l3 - l5) (l4 + r12)
def pX11_easeBy_l53 (S : Ob) (l1 : Int32) : Nat → Int32 → Int32 → Int32 → Option (Int32)
  | 0, _, _, _ => none
  | n + 1, l2, l3, l4 =>
    gd (inB ((125 : Int32) + l1) 390) (
      if oA S 6 ((125 : Int32) + l1).toNatClampNeg ≤ l4 then
        some l2
      else
        (pX11_knotHolds S l1 l4).bind fun r8 =>
        if r8 ≤ oA S 6 4 then
          if r8 ≤ l3 then
            pX11_easeBy_j105 (pX11_easeBy_l53  S l1 n) S l1 l2 l3 l4 r8
          else
            pX11_easeBy_j105 (pX11_easeBy_l53  S l1 n) S l1 (l2 + (1 : Int32)) (oA S 6 4) l4 r8
        else
          some (-1 : Int32))
def pX11_easeBy (S : Ob)  (a : Int32) : Option (Int32) :=
  gd (inB ((179 : Int32) + a) 390) (
    (pX11_holdsOf S a).bind fun r2 =>
    gd (inB ((21 : Int32) + a) 390) (
      if (oA S 6 ((179 : Int32) + a).toNatClampNeg) + r2 ≤ oA S 6 ((21 : Int32) + a).toNatClampNeg then
        pX11_easeBy_l53 S a fu (0 : Int32) (0 : Int32) (0 : Int32)
      else
        gd (inB ((125 : Int32) + a) 390) (
          if oA S 6 ((125 : Int32) + a).toNatClampNeg = 0 then
            some (0 : Int32)
          else
            some (-1 : Int32))))
def pX11_ease (S : Ob)  (a : Int32) : Option (Int32 × Ob) :=
  (pX11_isPerson (sI S 0 (0 : Int32)) a).bind fun r1 =>
  if r1 = 0 then
    some ((-1 : Int32), sI S 0 (0 : Int32))
  else
    (pX11_easeBy (sI S 0 (0 : Int32)) a).bind fun r4 =>
    some (r4, sI S 0 (0 : Int32))
def pX11_nests_j43 (rec : Int32 → Int32 → Ob → Option (Int32 × Ob)) (S : Ob) (l1 : Int32) (l2 : Int32) (l3 : Int32) : Option (Int32 × Ob) :=
  (pX11_day S).bind fun r11 =>
  rec l2 (l3 + (1 : Int32)) r11
def pX11_nests_l23 (l1 : Int32) : Nat → Int32 → Int32 → Ob → Option (Int32 × Ob)
  | 0, _, _, _ => none
  | n + 1, l2, l3, S =>
    if (99 : Int32) < l3 then
      some (l2, S)
    else
      if 0 ≤ l2 then
        some (l2, S)
      else
        (pX11_isNest S l1).bind fun r8 =>
        if r8 = 0 then
          pX11_nests_j43 (pX11_nests_l23  l1 n) S l1 l2 l3
        else
          pX11_nests_j43 (pX11_nests_l23  l1 n) S l1 l3 l3
def pX11_nests (S : Ob)  (a : Int32) : Option (Int32 × Ob) :=
  (pX11_isPerson (sI S 0 (0 : Int32)) a).bind fun r1 =>
  if r1 = 0 then
    some ((-1 : Int32), sI S 0 (0 : Int32))
  else
    (pX11_tries (sI S 0 (0 : Int32))).bind fun r4 =>
    (pX11_nests_l23 a fu (-1 : Int32) (0 : Int32) r4).bind fun r13 =>
    (pX11_back r13.2).bind fun r15 =>
    some (r13.1, r15)
def pX11_round_j90 (rec : Int32 → Int32 → Int32 → Option (Int32 × Int32)) (S : Ob) (l1 : Int32) (l2 : Int32) (l3 : Int32) (l4 : Int32) (l5 : Int32) (l6 : Int32) (l7 : Int32) (s0 : Int32) : Option (Int32 × Int32) :=
  (pX11_holdsOf S l7).bind fun r10 =>
  rec (l5 + r10) s0 (l7 + (1 : Int32))
def pX11_round_j89 (rec : Int32 → Int32 → Int32 → Option (Int32 × Int32)) (S : Ob) (l1 : Int32) (l2 : Int32) (l3 : Int32) (l4 : Int32) (l5 : Int32) (l6 : Int32) (l7 : Int32) : Option (Int32 × Int32) :=
  pX11_round_j90 rec S l1 l2 l3 l4 l5 l6 l7 (0 : Int32)
def pX11_round_l47 (S : Ob) (l1 : Int32) (l2 : Int32) (l3 : Int32) (l4 : Int32) : Nat → Int32 → Int32 → Int32 → Option (Int32 × Int32)
  | 0, _, _, _ => none
  | n + 1, l5, l6, l7 =>
    if oA S 6 1 ≤ l7 then
      some (l5, l6)
    else
      (pX11_bitOf l4 l7).bind fun r6 =>
      if r6 = 0 then
        (pX11_round_l47  S l1 l2 l3 l4 n) l5 l6 (l7 + (1 : Int32))
      else
        if l6 = 0 then
          pX11_round_j89 (pX11_round_l47  S l1 l2 l3 l4 n) S l1 l2 l3 l4 l5 l6 l7
        else
          (pX11_easeBy S l7).bind fun r12 =>
          if r12 ≤ 0 then
            pX11_round_j89 (pX11_round_l47  S l1 l2 l3 l4 n) S l1 l2 l3 l4 l5 l6 l7
          else
            pX11_round_j90 (pX11_round_l47  S l1 l2 l3 l4 n) S l1 l2 l3 l4 l5 l6 l7 (1 : Int32)
def pX11_round_j153 (rec : Int32 → Int32 → Int32 → Option (Int32)) (S : Ob) (l1 : Int32) (l2 : Int32) (l4 : Int32) (l5 : Int32) : Option (Int32) :=
  rec l4 l5 (l4 + (1 : Int32))
def pX11_round_l25 (S : Ob) (l1 : Int32) : Nat → Int32 → Int32 → Int32 → Option (Int32)
  | 0, _, _, _ => none
  | n + 1, l2, l3, l4 =>
    if (1 : Int32) <<< ((oA S 6 1) &&& 31) ≤ l4 then
      some l2
    else
      (pX11_round_l47 S l1 l2 l3 l4 fu (0 : Int32) (1 : Int32) (0 : Int32)).bind fun r15 =>
      if r15.2 = 0 then
        (pX11_round_l25  S l1 n) l2 l3 (l4 + (1 : Int32))
      else
        if l1 < r15.1 then
          (pX11_round_l25  S l1 n) l2 l3 (l4 + (1 : Int32))
        else
          (pX11_bits l4).bind fun r19 =>
          (pX11_bits l2).bind fun r21 =>
          if r19 < r21 then
            (pX11_round_l25  S l1 n) l2 l3 (l4 + (1 : Int32))
          else
            (pX11_bits l4).bind fun r24 =>
            (pX11_bits l2).bind fun r26 =>
            if r24 = r26 then
              if r15.1 < l3 then
                pX11_round_j153 (pX11_round_l25  S l1 n) S l1 l2 l4 r15.1
              else
                (pX11_round_l25  S l1 n) l2 l3 (l4 + (1 : Int32))
            else
              pX11_round_j153 (pX11_round_l25  S l1 n) S l1 l2 l4 r15.1
def pX11_round (S : Ob)  (a : Int32) : Option (Int32 × Ob) :=
  (pX11_isIn a (0 : Int32) (999 : Int32)).bind fun r1 =>
  if r1 = 0 then
    some ((-1 : Int32), sI S 0 (0 : Int32))
  else
    (pX11_round_l25 (sI S 0 (0 : Int32)) a fu (0 : Int32) (0 : Int32) (1 : Int32)).bind fun r30 =>
    (pX11_bits r30).bind fun r32 =>
    some (r32, sI (sI (sI S 0 (0 : Int32)) 25 (1 : Int32)) 24 r30)
def pX11_rounded (S : Ob)   : Option (Int32 × Ob) :=
  if oI (sI S 0 (0 : Int32)) 25 = 0 then
    some ((-1 : Int32), sI S 0 (0 : Int32))
  else
    some (oI (sI S 0 (0 : Int32)) 24, sI S 0 (0 : Int32))
