def pX8_scanRun_j98 (rec : Int32 → Int32 → Ob → Option (Int32 × Int32 × Ob)) (S : Ob) (l1 : Int32) (l2 : Int32) : Option (Int32 × Int32 × Ob) :=
  rec l1 l2 (sI S 3 ((oI S 3) + (1 : Int32)))
def pX8_scanRun_j67 (rec : Int32 → Int32 → Ob → Option (Int32 × Int32 × Ob)) (S : Ob) (l1 : Int32) (l2 : Int32) (l3 : Int32) : Option (Int32 × Int32 × Ob) :=
  if l3 < (48 : Int32) then
    some (l1, l2, S)
  else
    if (57 : Int32) < l3 then
      some (l1, l2, S)
    else
      pX8_scanRun_j98 rec (sI S 6 ((((oI S 6) * (10 : Int32)) + l3) - (48 : Int32))) l1 (l2 + (1 : Int32))
def pX8_scanRun_l14  : Nat → Int32 → Int32 → Ob → Option (Int32 × Int32 × Ob)
  | 0, _, _, _ => none
  | n + 1, l1, l2, S =>
    if oI S 1 ≤ oI S 3 then
      some (l1, l2, S)
    else
      gd (inB (oI S 3) 940) (
        if oA S 0 (oI S 3).toNatClampNeg < (97 : Int32) then
          pX8_scanRun_j67 (pX8_scanRun_l14   n) S l1 l2 (oA S 0 (oI S 3).toNatClampNeg)
        else
          if (122 : Int32) < oA S 0 (oI S 3).toNatClampNeg then
            pX8_scanRun_j67 (pX8_scanRun_l14   n) S l1 l2 (oA S 0 (oI S 3).toNatClampNeg)
          else
            pX8_scanRun_j98 (pX8_scanRun_l14   n) (sL S 7 (((oL S 7) <<< ((8 : Int32).toInt64 &&& 63)) ||| ((oA S 0 (oI S 3).toNatClampNeg).toInt64))) (l1 + (1 : Int32)) l2)
def pX8_scanRun_j139 (S : Ob) (l1 : Int32) (l2 : Int32) : Option (Ob) :=
  if l1 = 0 then
    if l2 < (1 : Int32) then
      some S
    else
      if (3 : Int32) < l2 then
        some S
      else
        some (sI S 4 (3 : Int32))
  else
    some S
def pX8_scanRun (S : Ob)   : Option (Ob) :=
  (pX8_scanRun_l14 fu (0 : Int32) (0 : Int32) (sI (sL S 7 (0 : Int64)) 6 (0 : Int32))).bind fun r7 =>
  if r7.2.1 = 0 then
    if r7.1 < (1 : Int32) then
      pX8_scanRun_j139 (sI r7.2.2 4 (1 : Int32)) r7.1 r7.2.1
    else
      if (7 : Int32) < r7.1 then
        pX8_scanRun_j139 (sI r7.2.2 4 (1 : Int32)) r7.1 r7.2.1
      else
        some (sI (sI r7.2.2 4 (1 : Int32)) 4 (2 : Int32))
  else
    pX8_scanRun_j139 (sI r7.2.2 4 (1 : Int32)) r7.1 r7.2.1
def pX8_isSign   (a : Int32) : Option (Int32) :=
  if a = (59 : Int32) then
    some (1 : Int32)
  else
    if a = (60 : Int32) then
      some (1 : Int32)
    else
      if a = (61 : Int32) then
        some (1 : Int32)
      else
        if a = (62 : Int32) then
          some (1 : Int32)
        else
          if a = (40 : Int32) then
            some (1 : Int32)
          else
            if a = (41 : Int32) then
              some (1 : Int32)
            else
              some (0 : Int32)
def pX9_of_l2 (l0 : Int64) : Nat → Int32 → Option (Option Nat)
  | 0, _ => none
  | n + 1, l2 =>
    if (22 : Int32) ≤ l2 then
      some none
    else
      gd (inB l2 22) (
        if lg_cmp (wCode l2.toNatClampNeg) l0 = 0 then
          gd (inB l2 22) (some (some l2.toNatClampNeg))
        else
          (pX9_of_l2  l0 n) (l2 + (1 : Int32)))
def pX9_of   (a : Int64) : Option (Option Nat) :=
  pX9_of_l2 a fu (0 : Int32)
def pX8_advance_j48 (rec : Ob → Option (Ob)) (S : Ob) (l1 : Int32) : Option (Ob) :=
  rec (sI S 3 ((oI S 3) + (1 : Int32)))
def pX8_advance_l12 (l1 : Int32) : Nat → Ob → Option (Ob)
  | 0, _ => none
  | n + 1, S =>
    if l1 ≤ oI S 3 then
      some S
    else
      gd (inB (oI S 3) 940) (
        if oA S 0 (oI S 3).toNatClampNeg = (32 : Int32) then
          pX8_advance_j48 (pX8_advance_l12  l1 n) S l1
        else
          gd (inB (oI S 3) 940) (
            if oA S 0 (oI S 3).toNatClampNeg = (10 : Int32) then
              pX8_advance_j48 (pX8_advance_l12  l1 n) S l1
            else
              some S))
def pX8_advance_j168 (S : Ob) (s1 : Int32) : Option (Ob) :=
  some (sI (sI S 4 s1) 3 ((oI (sI S 4 s1) 3) + (1 : Int32)))
def pX8_advance (S : Ob)   : Option (Ob) :=
  (pX8_advance_l12 (if (oI S 2) < (oI S 1) then (oI S 2) else (oI S 1)) fu S).bind fun r6 =>
  if oI (sW r6 8 none) 3 < (if (oI S 2) < (oI S 1) then (oI S 2) else (oI S 1)) then
    gd (inB (oI (sI (sW r6 8 none) 5 (oI (sW r6 8 none) 3)) 3) 940) (
      (pX8_scanRun (sI (sW r6 8 none) 5 (oI (sW r6 8 none) 3))).bind fun r10 =>
      if oI r10 4 = (2 : Int32) then
        (pX9_of (oL r10 7)).bind fun r17 =>
        some (sW r10 8 r17)
      else
        if oI r10 3 = oI r10 5 then
          (pX8_isSign (oA (sI (sW r6 8 none) 5 (oI (sW r6 8 none) 3)) 0 (oI (sI (sW r6 8 none) 5 (oI (sW r6 8 none) 3)) 3).toNatClampNeg)).bind fun r14 =>
          if r14 = 0 then
            pX8_advance_j168 r10 (1 : Int32)
          else
            pX8_advance_j168 r10 (oA (sI (sW r6 8 none) 5 (oI (sW r6 8 none) 3)) 0 (oI (sI (sW r6 8 none) 5 (oI (sW r6 8 none) 3)) 3).toNatClampNeg)
        else
          some r10)
  else
    if oI (sI (sW r6 8 none) 5 (if (oI S 2) < (oI S 1) then (oI S 2) else (oI S 1))) 1 ≤ oI (sI (sW r6 8 none) 5 (if (oI S 2) < (oI S 1) then (oI S 2) else (oI S 1))) 2 then
      some (sI (sI (sW r6 8 none) 5 (if (oI S 2) < (oI S 1) then (oI S 2) else (oI S 1))) 4 (0 : Int32))
    else
      some (sI (sI (sW r6 8 none) 5 (if (oI S 2) < (oI S 1) then (oI S 2) else (oI S 1))) 4 (1 : Int32))
def pX8_open (S : Ob)  (a : Int32) : Option (Ob) :=
  (pX8_advance (sI (sI (sI (sI S 2 a) 3 (0 : Int32)) 9 (0 : Int32)) 10 (0 : Int32))).bind fun r1 =>
  some r1
def pX8_isName (S : Ob)   : Option (Int32) :=
  if oI S 4 = (2 : Int32) then
    if oW S 8 = none then
      some (1 : Int32)
    else
      some (0 : Int32)
  else
    some (0 : Int32)
def pX8_placeIn_l2 (S : Ob) (af : Nat → Int64) (an : Nat) (l2 : Int32) : Nat → Int32 → Option (Int32)
  | 0, _ => none
  | n + 1, l3 =>
    if l2 ≤ l3 then
      some (-1 : Int32)
    else
      if Int32.ofNat an ≤ l3 then
        some (-1 : Int32)
      else
        gd (inB l3 an) (
          if lg_cmp (af l3.toNatClampNeg) (oL S 7) = 0 then
            some l3
          else
            (pX8_placeIn_l2  S af an l2 n) (l3 + (1 : Int32)))
def pX8_placeIn (S : Ob) (af : Nat → Int64) (an : Nat) (b : Int32) : Option (Int32) :=
  pX8_placeIn_l2 S af an b fu (0 : Int32)
def pX8_refuse (S : Ob)  (a : Int32) : Option (Int32 × Ob) :=
  some ((0 : Int32), sI (sI S 9 a) 10 (oI (sI S 9 a) 5))
def pX8_findName (S : Ob) (af : Nat → Int64) (an : Nat) (b : Int32) : Option (Int32 × Ob) :=
  (pX8_isName S).bind fun r1 =>
  if r1 = 0 then
    (pX8_refuse S (1 : Int32)).bind fun r9 =>
    some ((-1 : Int32), r9.2)
  else
    (pX8_placeIn S af an b).bind fun r4 =>
    if r4 = (-1 : Int32) then
      (pX8_refuse S (3 : Int32)).bind fun r7 =>
      some (r4, r7.2)
    else
      some (r4, S)
def pX8_takeName (S : Ob) (af : Nat → Int64) (an : Nat) (b : Int32) : Option (Int32 × Ob) :=
  (pX8_findName S af an b).bind fun r1 =>
  if r1.1 = (-1 : Int32) then
    some (r1.1, r1.2)
  else
    (pX8_advance r1.2).bind fun r4 =>
    some (r1.1, r4)
def pX0_addLine (S : Ob)  (a : Option Nat) (b : Int32) (c : Int32) : Option (Int32 × Ob) :=
  if c = (-1 : Int32) then
    some ((0 : Int32), S)
  else
    if oI S 3 < (40 : Int32) then
      gd (wOk a) (gd (inB (oI S 3) 40) (gd (inB (oI (sX S 0 (va_up (oX S 0) ((oI S 3).toNatClampNeg) a)) 3) 40) (gd (inB (oI (sA (sX S 0 (va_up (oX S 0) ((oI S 3).toNatClampNeg) a)) 1 (va_up (oA (sX S 0 (va_up (oX S 0) ((oI S 3).toNatClampNeg) a)) 1) ((oI (sX S 0 (va_up (oX S 0) ((oI S 3).toNatClampNeg) a)) 3).toNatClampNeg) b)) 3) 40) (some ((1 : Int32), sI (sA (sA (sX S 0 (va_up (oX S 0) ((oI S 3).toNatClampNeg) a)) 1 (va_up (oA (sX S 0 (va_up (oX S 0) ((oI S 3).toNatClampNeg) a)) 1) ((oI (sX S 0 (va_up (oX S 0) ((oI S 3).toNatClampNeg) a)) 3).toNatClampNeg) b)) 2 (va_up (oA (sA (sX S 0 (va_up (oX S 0) ((oI S 3).toNatClampNeg) a)) 1 (va_up (oA (sX S 0 (va_up (oX S 0) ((oI S 3).toNatClampNeg) a)) 1) ((oI (sX S 0 (va_up (oX S 0) ((oI S 3).toNatClampNeg) a)) 3).toNatClampNeg) b)) 2) ((oI (sA (sX S 0 (va_up (oX S 0) ((oI S 3).toNatClampNeg) a)) 1 (va_up (oA (sX S 0 (va_up (oX S 0) ((oI S 3).toNatClampNeg) a)) 1) ((oI (sX S 0 (va_up (oX S 0) ((oI S 3).toNatClampNeg) a)) 3).toNatClampNeg) b)) 3).toNatClampNeg) c)) 3 ((oI (sA (sA (sX S 0 (va_up (oX S 0) ((oI S 3).toNatClampNeg) a)) 1 (va_up (oA (sX S 0 (va_up (oX S 0) ((oI S 3).toNatClampNeg) a)) 1) ((oI (sX S 0 (va_up (oX S 0) ((oI S 3).toNatClampNeg) a)) 3).toNatClampNeg) b)) 2 (va_up (oA (sA (sX S 0 (va_up (oX S 0) ((oI S 3).toNatClampNeg) a)) 1 (va_up (oA (sX S 0 (va_up (oX S 0) ((oI S 3).toNatClampNeg) a)) 1) ((oI (sX S 0 (va_up (oX S 0) ((oI S 3).toNatClampNeg) a)) 3).toNatClampNeg) b)) 2) ((oI (sA (sX S 0 (va_up (oX S 0) ((oI S 3).toNatClampNeg) a)) 1 (va_up (oA (sX S 0 (va_up (oX S 0) ((oI S 3).toNatClampNeg) a)) 1) ((oI (sX S 0 (va_up (oX S 0) ((oI S 3).toNatClampNeg) a)) 3).toNatClampNeg) b)) 3).toNatClampNeg) c)) 3) + (1 : Int32)))))))
    else
      some ((0 : Int32), S)
def pX8_takeNumber_j31 (S : Ob) : Option (Int32 × Ob) :=
  (pX8_refuse S (2 : Int32)).bind fun r3 =>
  some ((-1 : Int32), r3.2)
def pX8_takeNumber (S : Ob)  (a : Int32) (b : Int32) : Option (Int32 × Ob) :=
  if oI S 4 = (3 : Int32) then
    if oI S 6 < a then
      pX8_takeNumber_j31 S
    else
      if oI S 6 ≤ b then
        (pX8_advance S).bind fun r6 =>
        some (oI S 6, r6)
      else
        pX8_takeNumber_j31 S
  else
    (pX8_refuse S (1 : Int32)).bind fun r8 =>
    some ((-1 : Int32), r8.2)
def pX0_readOfPerson_j91 (S : Ob) (Sa : Ob) (Sb : Ob) (s1 : Option Nat) (s2 : Int32) (s3 : Int32) : Option (Int32 × Ob × Ob) :=
  (pX0_addLine S s1 s2 s3).bind fun r11 =>
  gd (z01 r11.1) (some (r11.1, r11.2, Sa))
def pX0_readOfPerson_j36 (S : Ob) (Sa : Ob) (Sb : Ob) (l3 : Int32) (l4 : Option Nat) : Option (Int32 × Ob × Ob) :=
  (pX8_advance Sa).bind fun r3 =>
  gd (wOk l4) (
    if l4 = some 6 then
      (pX8_takeNumber r3 (1 : Int32) (20 : Int32)).bind fun r14 =>
      (pX0_addLine S l4 l3 r14.1).bind fun r16 =>
      gd (z01 r16.1) (some (r16.1, r16.2, r14.2))
    else
      gd (wOk l4) (
        if l4 = some 7 then
          pX0_readOfPerson_j91 S r3 Sb l4 l3 (0 : Int32)
        else
          (pX8_takeName r3 (oJ Sb 1) 8 (oI Sb 0)).bind fun r9 =>
          pX0_readOfPerson_j91 S r9.2 Sb l4 l3 r9.1))
def pX0_readOfPerson (S : Ob) (Sa : Ob) (Sb : Ob)  (c : Int32) : Option (Int32 × Ob × Ob) :=
  gd (wOk (oW Sa 8)) (
    if oW Sa 8 = some 6 then
      pX0_readOfPerson_j36 S Sa Sb c (oW Sa 8)
    else
      gd (wOk (oW Sa 8)) (
        if oW Sa 8 = some 7 then
          pX0_readOfPerson_j36 S Sa Sb c (oW Sa 8)
        else
          gd (wOk (oW Sa 8)) (
            if oW Sa 8 = some 8 then
              pX0_readOfPerson_j36 S Sa Sb c (oW Sa 8)
            else
              (pX8_refuse Sa (1 : Int32)).bind fun r23 =>
              gd (z01 r23.1) (some (r23.1, S, r23.2)))))
def pX0_readStuffing (S : Ob) (Sa : Ob) (Sb : Ob)   : Option (Int32 × Ob × Ob) :=
  (pX8_takeName Sa (oJ Sb 12) 4 (oI Sb 11)).bind fun r1 =>
  if r1.1 = (-1 : Int32) then
    some ((0 : Int32), S, r1.2)
  else
    (pX8_takeName r1.2 (oJ Sb 1) 8 (oI Sb 0)).bind fun r4 =>
    (pX0_addLine S (some 9) r1.1 r4.1).bind fun r6 =>
    gd (z01 r6.1) (some (r6.1, r6.2, r4.2))
def pX0_readLine_j46 (S : Ob) (Sa : Ob) (Sb : Ob) (s0 : Int32) : Option (Int32 × Ob × Ob) :=
  if s0 = (-1 : Int32) then
    some ((0 : Int32), S, Sa)
  else
    if oI S 3 < (40 : Int32) then
      (pX8_advance Sa).bind fun r6 =>
      gd (wOk (oW Sa 8)) (
        if oW Sa 8 = some 9 then
          (pX0_readStuffing S r6 Sb).bind fun r20 =>
          gd (z01 r20.1) (some (r20.1, r20.2.1, r20.2.2))
        else
          gd (wOk (oW Sa 8)) (
            if oW Sa 8 = some 10 then
              (pX8_takeNumber r6 (1 : Int32) (60 : Int32)).bind fun r15 =>
              (pX0_addLine S (some 10) (0 : Int32) r15.1).bind fun r17 =>
              gd (z01 r17.1) (some (r17.1, r17.2, r15.2))
            else
              (pX0_readOfPerson S r6 Sb s0).bind fun r12 =>
              gd (z01 r12.1) (some (r12.1, r12.2.1, r12.2.2))))
    else
      (pX8_refuse Sa (4 : Int32)).bind fun r23 =>
      gd (z01 r23.1) (some (r23.1, S, r23.2))
def pX0_readLine_j25 (S : Ob) (Sa : Ob) (Sb : Ob) (s0 : Int32) : Option (Int32 × Ob × Ob) :=
  if s0 = 0 then
    pX0_readLine_j46 S Sa Sb (0 : Int32)
  else
    (pX8_findName Sa (oJ Sb 5) 6 (oI Sb 4)).bind fun r26 =>
    pX0_readLine_j46 S r26.2 Sb r26.1
def pX0_readLine_j24 (S : Ob) (Sa : Ob) (Sb : Ob) : Option (Int32 × Ob × Ob) :=
  pX0_readLine_j25 S Sa Sb (0 : Int32)
def pX0_readLine (S : Ob) (Sa : Ob) (Sb : Ob)   : Option (Int32 × Ob × Ob) :=
  gd (wOk (oW Sa 8)) (
    if oW Sa 8 = some 9 then
      pX0_readLine_j24 S Sa Sb
    else
      gd (wOk (oW Sa 8)) (
        if oW Sa 8 = some 10 then
          pX0_readLine_j24 S Sa Sb
        else
          pX0_readLine_j25 S Sa Sb (1 : Int32)))
def pX8_takeSign (S : Ob)  (a : Int32) : Option (Int32 × Ob) :=
  if oI S 4 = a then
    (pX8_advance S).bind fun r2 =>
    some ((1 : Int32), r2)
  else
    (pX8_refuse S (1 : Int32)).bind fun r4 =>
    gd (z01 r4.1) (some (r4.1, r4.2))
def pX0_readFrom_l17 (Sb : Ob) : Nat → Int32 → Int32 → Ob → Ob → Option (Ob × Ob)
  | 0, _, _, _, _ => none
  | n + 1, l3, l4, S, Sa =>
    if (400 : Int32) ≤ l4 then
      some (S, Sa)
    else
      if l3 = 0 then
        some (S, Sa)
      else
        if oI Sa 4 = 0 then
          some (S, Sa)
        else
          (pX0_readLine S Sa Sb).bind fun r6 =>
          if r6.1 = 0 then
            (pX0_readFrom_l17  Sb n) (0 : Int32) (l4 + (1 : Int32)) r6.2.1 r6.2.2
          else
            (pX8_takeSign r6.2.2 (59 : Int32)).bind fun r9 =>
            if r9.1 = 0 then
              (pX0_readFrom_l17  Sb n) (0 : Int32) (l4 + (1 : Int32)) r6.2.1 r9.2
            else
              (pX0_readFrom_l17  Sb n) (1 : Int32) (l4 + (1 : Int32)) r6.2.1 r9.2
def pX0_readFrom (S : Ob) (Sa : Ob) (Sb : Ob)   : Option (Ob × Ob) :=
  (pX8_open Sa (400 : Int32)).bind fun r1 =>
  (pX0_readFrom_l17 Sb fu (1 : Int32) (0 : Int32) (sI S 3 (0 : Int32)) r1).bind fun r12 =>
  some (r12.1, r12.2)
def pX6_daysLeft (S : Ob)   : Option (Int32) :=
  some ((400 : Int32) - (oI S 8))
def pX4_catchesOn (S : Ob)  (a : Int32) (b : Int32) : Option (Int32) :=
  gd (inB a 12) (
    if oA S 10 a.toNatClampNeg ≤ 0 then
      some (0 : Int32)
    else
      gd (decide (¬ oA S 10 a.toNatClampNeg = 0)) (
        if b - b / (oA S 10 a.toNatClampNeg) * (oA S 10 a.toNatClampNeg) = 0 then
          some (1 : Int32)
        else
          some (0 : Int32)))
def pX6_catchThing (S : Ob)  (a : Int32) (b : Int32) : Option (Ob) :=
  gd (inB a 6) (
    if (8 : Int32) ≤ oA S 1 a.toNatClampNeg then
      some S
    else
      gd (inB a 6) (gd (inB ((a * (8 : Int32)) + (oA S 1 a.toNatClampNeg)) 48) (gd (inB a 6) (gd (inB a 6) (some (sA (sA S 0 (va_up (oA S 0) (((a * (8 : Int32)) + (oA S 1 a.toNatClampNeg)).toNatClampNeg) b)) 1 (va_up (oA (sA S 0 (va_up (oA S 0) (((a * (8 : Int32)) + (oA S 1 a.toNatClampNeg)).toNatClampNeg) b)) 1) a.toNatClampNeg ((oA (sA S 0 (va_up (oA S 0) (((a * (8 : Int32)) + (oA S 1 a.toNatClampNeg)).toNatClampNeg) b)) 1 a.toNatClampNeg) + (1 : Int32)))))))))
def pX6_letOneDayGo_l2 (Sa : Ob) : Nat → Int32 → Ob → Option (Ob)
  | 0, _, _ => none
  | n + 1, l2, S =>
    if oI Sa 4 ≤ l2 then
      some S
    else
      gd (inB l2 6) ((pX6_letOneDayGo_l2  Sa n) (l2 + (1 : Int32)) (sA S 2 (va_up (oA S 2) l2.toNatClampNeg (0 : Int32))))
def pX6_letOneDayGo_l25 (Sa : Ob) : Nat → Int32 → Ob → Option (Ob)
  | 0, _, _ => none
  | n + 1, l2, S =>
    if oI Sa 7 ≤ l2 then
      some S
    else
      (pX4_catchesOn Sa l2 ((oI S 8) + (1 : Int32))).bind fun r6 =>
      if r6 = 0 then
        (pX6_letOneDayGo_l25  Sa n) (l2 + (1 : Int32)) S
      else
        gd (inB l2 12) (
          gd (inB l2 12) (
            (pX6_catchThing S (oA Sa 8 l2.toNatClampNeg) (oA Sa 9 l2.toNatClampNeg)).bind fun r11 =>
            (pX6_letOneDayGo_l25  Sa n) (l2 + (1 : Int32)) r11))
def pX6_letOneDayGo (S : Ob) (Sa : Ob)   : Option (Ob) :=
  (pX6_letOneDayGo_l2 Sa fu (0 : Int32) S).bind fun r3 =>
  (pX6_letOneDayGo_l25 Sa fu (0 : Int32) r3).bind fun r13 =>
  some (sI r13 8 ((oI r13 8) + (1 : Int32)))
def pX6_letDaysGo_l2 (Sa : Ob) (l2 : Int32) : Nat → Int32 → Ob → Option (Ob)
  | 0, _, _ => none
  | n + 1, l3, S =>
    if l2 ≤ l3 then
      some S
    else
      (pX6_letOneDayGo S Sa).bind fun r2 =>
      (pX6_letDaysGo_l2  Sa l2 n) (l3 + (1 : Int32)) r2
def pX6_letDaysGo (S : Ob) (Sa : Ob)  (b : Int32) : Option (Ob) :=
  (pX6_letDaysGo_l2 Sa b fu (0 : Int32) S).bind fun r4 =>
  some r4
def pX6_whyNoStuffing (S : Ob)  (a : Int32) : Option (Int32) :=
  gd (inB a 8) (
    if oA S 3 a.toNatClampNeg = 0 then
      some (1 : Int32)
    else
      some (0 : Int32))
def pX6_fillBed (S : Ob) (Sa : Ob)  (b : Int32) (c : Int32) : Option (Ob) :=
  gd (inB c 8) (gd (inB c 8) (gd (inB c 8) (gd (inB c 8) (gd (inB b 4) (gd (inB c 8) (gd (inB b 4) (gd (inB b 4) (gd (inB b 4) (some (sA (sA (sA (sI (sA S 3 (va_up (oA S 3) c.toNatClampNeg ((oA S 3 c.toNatClampNeg) - (1 : Int32)))) 7 ((oI (sA S 3 (va_up (oA S 3) c.toNatClampNeg ((oA S 3 c.toNatClampNeg) - (1 : Int32)))) 7) - (1 : Int32))) 4 (va_up (oA (sI (sA S 3 (va_up (oA S 3) c.toNatClampNeg ((oA S 3 c.toNatClampNeg) - (1 : Int32)))) 7 ((oI (sA S 3 (va_up (oA S 3) c.toNatClampNeg ((oA S 3 c.toNatClampNeg) - (1 : Int32)))) 7) - (1 : Int32))) 4) c.toNatClampNeg ((oA (sI (sA S 3 (va_up (oA S 3) c.toNatClampNeg ((oA S 3 c.toNatClampNeg) - (1 : Int32)))) 7 ((oI (sA S 3 (va_up (oA S 3) c.toNatClampNeg ((oA S 3 c.toNatClampNeg) - (1 : Int32)))) 7) - (1 : Int32))) 4 c.toNatClampNeg) + (1 : Int32)))) 5 (va_up (oA (sA (sI (sA S 3 (va_up (oA S 3) c.toNatClampNeg ((oA S 3 c.toNatClampNeg) - (1 : Int32)))) 7 ((oI (sA S 3 (va_up (oA S 3) c.toNatClampNeg ((oA S 3 c.toNatClampNeg) - (1 : Int32)))) 7) - (1 : Int32))) 4 (va_up (oA (sI (sA S 3 (va_up (oA S 3) c.toNatClampNeg ((oA S 3 c.toNatClampNeg) - (1 : Int32)))) 7 ((oI (sA S 3 (va_up (oA S 3) c.toNatClampNeg ((oA S 3 c.toNatClampNeg) - (1 : Int32)))) 7) - (1 : Int32))) 4) c.toNatClampNeg ((oA (sI (sA S 3 (va_up (oA S 3) c.toNatClampNeg ((oA S 3 c.toNatClampNeg) - (1 : Int32)))) 7 ((oI (sA S 3 (va_up (oA S 3) c.toNatClampNeg ((oA S 3 c.toNatClampNeg) - (1 : Int32)))) 7) - (1 : Int32))) 4 c.toNatClampNeg) + (1 : Int32)))) 5) b.toNatClampNeg ((oA (sA (sI (sA S 3 (va_up (oA S 3) c.toNatClampNeg ((oA S 3 c.toNatClampNeg) - (1 : Int32)))) 7 ((oI (sA S 3 (va_up (oA S 3) c.toNatClampNeg ((oA S 3 c.toNatClampNeg) - (1 : Int32)))) 7) - (1 : Int32))) 4 (va_up (oA (sI (sA S 3 (va_up (oA S 3) c.toNatClampNeg ((oA S 3 c.toNatClampNeg) - (1 : Int32)))) 7 ((oI (sA S 3 (va_up (oA S 3) c.toNatClampNeg ((oA S 3 c.toNatClampNeg) - (1 : Int32)))) 7) - (1 : Int32))) 4) c.toNatClampNeg ((oA (sI (sA S 3 (va_up (oA S 3) c.toNatClampNeg ((oA S 3 c.toNatClampNeg) - (1 : Int32)))) 7 ((oI (sA S 3 (va_up (oA S 3) c.toNatClampNeg ((oA S 3 c.toNatClampNeg) - (1 : Int32)))) 7) - (1 : Int32))) 4 c.toNatClampNeg) + (1 : Int32)))) 5 b.toNatClampNeg) + (oA Sa 3 c.toNatClampNeg)))) 6 (va_up (oA (sA (sA (sI (sA S 3 (va_up (oA S 3) c.toNatClampNeg ((oA S 3 c.toNatClampNeg) - (1 : Int32)))) 7 ((oI (sA S 3 (va_up (oA S 3) c.toNatClampNeg ((oA S 3 c.toNatClampNeg) - (1 : Int32)))) 7) - (1 : Int32))) 4 (va_up (oA (sI (sA S 3 (va_up (oA S 3) c.toNatClampNeg ((oA S 3 c.toNatClampNeg) - (1 : Int32)))) 7 ((oI (sA S 3 (va_up (oA S 3) c.toNatClampNeg ((oA S 3 c.toNatClampNeg) - (1 : Int32)))) 7) - (1 : Int32))) 4) c.toNatClampNeg ((oA (sI (sA S 3 (va_up (oA S 3) c.toNatClampNeg ((oA S 3 c.toNatClampNeg) - (1 : Int32)))) 7 ((oI (sA S 3 (va_up (oA S 3) c.toNatClampNeg ((oA S 3 c.toNatClampNeg) - (1 : Int32)))) 7) - (1 : Int32))) 4 c.toNatClampNeg) + (1 : Int32)))) 5 (va_up (oA (sA (sI (sA S 3 (va_up (oA S 3) c.toNatClampNeg ((oA S 3 c.toNatClampNeg) - (1 : Int32)))) 7 ((oI (sA S 3 (va_up (oA S 3) c.toNatClampNeg ((oA S 3 c.toNatClampNeg) - (1 : Int32)))) 7) - (1 : Int32))) 4 (va_up (oA (sI (sA S 3 (va_up (oA S 3) c.toNatClampNeg ((oA S 3 c.toNatClampNeg) - (1 : Int32)))) 7 ((oI (sA S 3 (va_up (oA S 3) c.toNatClampNeg ((oA S 3 c.toNatClampNeg) - (1 : Int32)))) 7) - (1 : Int32))) 4) c.toNatClampNeg ((oA (sI (sA S 3 (va_up (oA S 3) c.toNatClampNeg ((oA S 3 c.toNatClampNeg) - (1 : Int32)))) 7 ((oI (sA S 3 (va_up (oA S 3) c.toNatClampNeg ((oA S 3 c.toNatClampNeg) - (1 : Int32)))) 7) - (1 : Int32))) 4 c.toNatClampNeg) + (1 : Int32)))) 5) b.toNatClampNeg ((oA (sA (sI (sA S 3 (va_up (oA S 3) c.toNatClampNeg ((oA S 3 c.toNatClampNeg) - (1 : Int32)))) 7 ((oI (sA S 3 (va_up (oA S 3) c.toNatClampNeg ((oA S 3 c.toNatClampNeg) - (1 : Int32)))) 7) - (1 : Int32))) 4 (va_up (oA (sI (sA S 3 (va_up (oA S 3) c.toNatClampNeg ((oA S 3 c.toNatClampNeg) - (1 : Int32)))) 7 ((oI (sA S 3 (va_up (oA S 3) c.toNatClampNeg ((oA S 3 c.toNatClampNeg) - (1 : Int32)))) 7) - (1 : Int32))) 4) c.toNatClampNeg ((oA (sI (sA S 3 (va_up (oA S 3) c.toNatClampNeg ((oA S 3 c.toNatClampNeg) - (1 : Int32)))) 7 ((oI (sA S 3 (va_up (oA S 3) c.toNatClampNeg ((oA S 3 c.toNatClampNeg) - (1 : Int32)))) 7) - (1 : Int32))) 4 c.toNatClampNeg) + (1 : Int32)))) 5 b.toNatClampNeg) + (oA Sa 3 c.toNatClampNeg)))) 6) b.toNatClampNeg ((oA (sA (sA (sI (sA S 3 (va_up (oA S 3) c.toNatClampNeg ((oA S 3 c.toNatClampNeg) - (1 : Int32)))) 7 ((oI (sA S 3 (va_up (oA S 3) c.toNatClampNeg ((oA S 3 c.toNatClampNeg) - (1 : Int32)))) 7) - (1 : Int32))) 4 (va_up (oA (sI (sA S 3 (va_up (oA S 3) c.toNatClampNeg ((oA S 3 c.toNatClampNeg) - (1 : Int32)))) 7 ((oI (sA S 3 (va_up (oA S 3) c.toNatClampNeg ((oA S 3 c.toNatClampNeg) - (1 : Int32)))) 7) - (1 : Int32))) 4) c.toNatClampNeg ((oA (sI (sA S 3 (va_up (oA S 3) c.toNatClampNeg ((oA S 3 c.toNatClampNeg) - (1 : Int32)))) 7 ((oI (sA S 3 (va_up (oA S 3) c.toNatClampNeg ((oA S 3 c.toNatClampNeg) - (1 : Int32)))) 7) - (1 : Int32))) 4 c.toNatClampNeg) + (1 : Int32)))) 5 (va_up (oA (sA (sI (sA S 3 (va_up (oA S 3) c.toNatClampNeg ((oA S 3 c.toNatClampNeg) - (1 : Int32)))) 7 ((oI (sA S 3 (va_up (oA S 3) c.toNatClampNeg ((oA S 3 c.toNatClampNeg) - (1 : Int32)))) 7) - (1 : Int32))) 4 (va_up (oA (sI (sA S 3 (va_up (oA S 3) c.toNatClampNeg ((oA S 3 c.toNatClampNeg) - (1 : Int32)))) 7 ((oI (sA S 3 (va_up (oA S 3) c.toNatClampNeg ((oA S 3 c.toNatClampNeg) - (1 : Int32)))) 7) - (1 : Int32))) 4) c.toNatClampNeg ((oA (sI (sA S 3 (va_up (oA S 3) c.toNatClampNeg ((oA S 3 c.toNatClampNeg) - (1 : Int32)))) 7 ((oI (sA S 3 (va_up (oA S 3) c.toNatClampNeg ((oA S 3 c.toNatClampNeg) - (1 : Int32)))) 7) - (1 : Int32))) 4 c.toNatClampNeg) + (1 : Int32)))) 5) b.toNatClampNeg ((oA (sA (sI (sA S 3 (va_up (oA S 3) c.toNatClampNeg ((oA S 3 c.toNatClampNeg) - (1 : Int32)))) 7 ((oI (sA S 3 (va_up (oA S 3) c.toNatClampNeg ((oA S 3 c.toNatClampNeg) - (1 : Int32)))) 7) - (1 : Int32))) 4 (va_up (oA (sI (sA S 3 (va_up (oA S 3) c.toNatClampNeg ((oA S 3 c.toNatClampNeg) - (1 : Int32)))) 7 ((oI (sA S 3 (va_up (oA S 3) c.toNatClampNeg ((oA S 3 c.toNatClampNeg) - (1 : Int32)))) 7) - (1 : Int32))) 4) c.toNatClampNeg ((oA (sI (sA S 3 (va_up (oA S 3) c.toNatClampNeg ((oA S 3 c.toNatClampNeg) - (1 : Int32)))) 7 ((oI (sA S 3 (va_up (oA S 3) c.toNatClampNeg ((oA S 3 c.toNatClampNeg) - (1 : Int32)))) 7) - (1 : Int32))) 4 c.toNatClampNeg) + (1 : Int32)))) 5 b.toNatClampNeg) + (oA Sa 3 c.toNatClampNeg)))) 6 b.toNatClampNeg) + (1 : Int32)))))))))))))
def pX0_liveStuffing (S : Ob) (Sa : Ob) (Sb : Ob)  (c : Int32) (d : Int32) : Option (Int32 × Ob) :=
  (pX6_whyNoStuffing Sb d).bind fun r1 =>
  if r1 = 0 then
    (pX6_fillBed Sb Sa c d).bind fun r4 =>
    some ((0 : Int32), r4)
  else
    some ((30 : Int32) + r1, Sb)
def pX6_isNest (S : Ob)  (a : Int32) : Option (Int32) :=
  gd (inB a 6) (
    if oA S 1 a.toNatClampNeg < (8 : Int32) then
      some (0 : Int32)
    else
      some (1 : Int32))
def pX6_whyNoCatch (S : Ob)  (a : Int32) : Option (Int32) :=
  (pX6_isNest S a).bind fun r1 =>
  if r1 = 0 then
    some (0 : Int32)
  else
    some (1 : Int32)
def pX0_liveCatch (S : Ob) (Sa : Ob)  (b : Int32) (c : Int32) : Option (Int32 × Ob) :=
  (pX6_whyNoCatch Sa b).bind fun r1 =>
  if r1 = 0 then
    (pX6_catchThing Sa b c).bind fun r4 =>
    some ((0 : Int32), r4)
  else
    some ((20 : Int32) + r1, Sa)
def pX6_whyNoCut (S : Ob)  (a : Int32) : Option (Int32) :=
  gd (inB a 6) (
    if oA S 1 a.toNatClampNeg = 0 then
      some (1 : Int32)
    else
      some (0 : Int32))
def pX6_knotBelow_l12 (S : Ob) (l1 : Int32) (l2 : Int32) (l4 : Int32) : Nat → Int32 → Option (Int32)
  | 0, _ => none
  | n + 1, l3 =>
    if l2 ≤ l3 then
      some l3
    else
      gd (inB l1 6) (
        if oA S 1 l1.toNatClampNeg < l2 then
          some l3
        else
          gd (inB (l4 - l3) 48) (
            gd (inB l4 48) (
              if oA S 0 (l4 - l3).toNatClampNeg = oA S 0 l4.toNatClampNeg then
                (pX6_knotBelow_l12  S l1 l2 l4 n) (l3 + (1 : Int32))
              else
                some l3)))
def pX6_knotBelow (S : Ob)  (a : Int32) (b : Int32) : Option (Int32) :=
  (pX6_knotBelow_l12 S a b (((a * (8 : Int32)) + b) - (1 : Int32)) fu (0 : Int32)).bind fun r7 =>
  some r7
def pX6_cutOff (S : Ob)  (a : Int32) : Option (Ob) :=
  gd (inB a 6) (
    (pX6_knotBelow S a (oA S 1 a.toNatClampNeg)).bind fun r2 =>
    gd (inB a 6) (gd (inB a 6) (some (sI (sI (sA S 1 (va_up (oA S 1) a.toNatClampNeg ((oA S 1 a.toNatClampNeg) - r2))) 11 ((oI (sA S 1 (va_up (oA S 1) a.toNatClampNeg ((oA S 1 a.toNatClampNeg) - r2))) 11) + r2)) 10 ((oI (sI (sA S 1 (va_up (oA S 1) a.toNatClampNeg ((oA S 1 a.toNatClampNeg) - r2))) 11 ((oI (sA S 1 (va_up (oA S 1) a.toNatClampNeg ((oA S 1 a.toNatClampNeg) - r2))) 11) + r2)) 10) + (1 : Int32))))))
def pX0_liveCut (S : Ob) (Sa : Ob)  (b : Int32) : Option (Int32 × Ob) :=
  (pX6_whyNoCut Sa b).bind fun r1 =>
  if r1 = 0 then
    (pX6_cutOff Sa b).bind fun r4 =>
    some ((0 : Int32), r4)
  else
    some ((10 : Int32) + r1, Sa)
def pX6_layerAt (S : Ob)  (a : Int32) (b : Int32) : Option (Int32) :=
  if b < 0 then
    some (-1 : Int32)
  else
    gd (inB a 6) (
      if b < oA S 1 a.toNatClampNeg then
        gd (inB ((a * (8 : Int32)) + b) 48) (some (oA S 0 ((a * (8 : Int32)) + b).toNatClampNeg))
      else
        some (-1 : Int32))
def pX6_holdAt (S : Ob) (Sa : Ob)  (b : Int32) (c : Int32) : Option (Int32) :=
  (pX6_layerAt S b c).bind fun r1 =>
  if r1 < 0 then
    some (0 : Int32)
  else
    if r1 < (8 : Int32) then
      gd (inB r1 8) (some (oA Sa 2 r1.toNatClampNeg))
    else
      some (0 : Int32)
def pX6_outsideHolds (S : Ob) (Sa : Ob)  (b : Int32) : Option (Int32) :=
  gd (inB b 6) (
    (pX6_knotBelow S b (oA S 1 b.toNatClampNeg)).bind fun r2 =>
    gd (inB b 6) (
      (pX6_holdAt S Sa b ((oA S 1 b.toNatClampNeg) - (1 : Int32))).bind fun r5 =>
      some (r2 * r5)))
def pX6_whyNoStroke (S : Ob) (Sa : Ob)  (b : Int32) (c : Int32) : Option (Int32) :=
  gd (inB b 6) (
    if oA S 1 b.toNatClampNeg = 0 then
      some (1 : Int32)
    else
      (pX6_outsideHolds S Sa b).bind fun r3 =>
      if r3 ≤ c then
        if c ≤ oI Sa 14 then
          gd (inB b 6) (
            gd (inB b 6) (
              if (oA S 2 b.toNatClampNeg) + c ≤ oA Sa 6 b.toNatClampNeg then
                some (0 : Int32)
              else
                some (4 : Int32)))
        else
          some (3 : Int32)
      else
        some (2 : Int32))
def pX6_layerFromOutside (S : Ob)  (a : Int32) (b : Int32) : Option (Int32) :=
  gd (inB a 6) (
    (pX6_layerAt S a (((oA S 1 a.toNatClampNeg) - (1 : Int32)) - b)).bind fun r2 =>
    some r2)
def pX6_putOutsideKnotIntoBag (S : Ob)  (a : Int32) : Option (Ob) :=
  gd (inB a 6) (
    (pX6_knotBelow S a (oA S 1 a.toNatClampNeg)).bind fun r2 =>
    (pX6_layerFromOutside S a (0 : Int32)).bind fun r4 =>
    if r4 < 0 then
      some S
    else
      if r4 < (8 : Int32) then
        gd (inB r4 8) (gd (inB r4 8) (gd (inB a 6) (gd (inB a 6) (some (sA (sI (sI (sA S 3 (va_up (oA S 3) r4.toNatClampNeg ((oA S 3 r4.toNatClampNeg) + (if ((10 : Int32) - (oI S 7)) < r2 then ((10 : Int32) - (oI S 7)) else r2)))) 7 ((oI (sA S 3 (va_up (oA S 3) r4.toNatClampNeg ((oA S 3 r4.toNatClampNeg) + (if ((10 : Int32) - (oI S 7)) < r2 then ((10 : Int32) - (oI S 7)) else r2)))) 7) + (if ((10 : Int32) - (oI S 7)) < r2 then ((10 : Int32) - (oI S 7)) else r2))) 11 ((oI (sI (sA S 3 (va_up (oA S 3) r4.toNatClampNeg ((oA S 3 r4.toNatClampNeg) + (if ((10 : Int32) - (oI S 7)) < r2 then ((10 : Int32) - (oI S 7)) else r2)))) 7 ((oI (sA S 3 (va_up (oA S 3) r4.toNatClampNeg ((oA S 3 r4.toNatClampNeg) + (if ((10 : Int32) - (oI S 7)) < r2 then ((10 : Int32) - (oI S 7)) else r2)))) 7) + (if ((10 : Int32) - (oI S 7)) < r2 then ((10 : Int32) - (oI S 7)) else r2))) 11) + (r2 - (if ((10 : Int32) - (oI S 7)) < r2 then ((10 : Int32) - (oI S 7)) else r2)))) 1 (va_up (oA (sI (sI (sA S 3 (va_up (oA S 3) r4.toNatClampNeg ((oA S 3 r4.toNatClampNeg) + (if ((10 : Int32) - (oI S 7)) < r2 then ((10 : Int32) - (oI S 7)) else r2)))) 7 ((oI (sA S 3 (va_up (oA S 3) r4.toNatClampNeg ((oA S 3 r4.toNatClampNeg) + (if ((10 : Int32) - (oI S 7)) < r2 then ((10 : Int32) - (oI S 7)) else r2)))) 7) + (if ((10 : Int32) - (oI S 7)) < r2 then ((10 : Int32) - (oI S 7)) else r2))) 11 ((oI (sI (sA S 3 (va_up (oA S 3) r4.toNatClampNeg ((oA S 3 r4.toNatClampNeg) + (if ((10 : Int32) - (oI S 7)) < r2 then ((10 : Int32) - (oI S 7)) else r2)))) 7 ((oI (sA S 3 (va_up (oA S 3) r4.toNatClampNeg ((oA S 3 r4.toNatClampNeg) + (if ((10 : Int32) - (oI S 7)) < r2 then ((10 : Int32) - (oI S 7)) else r2)))) 7) + (if ((10 : Int32) - (oI S 7)) < r2 then ((10 : Int32) - (oI S 7)) else r2))) 11) + (r2 - (if ((10 : Int32) - (oI S 7)) < r2 then ((10 : Int32) - (oI S 7)) else r2)))) 1) a.toNatClampNeg ((oA (sI (sI (sA S 3 (va_up (oA S 3) r4.toNatClampNeg ((oA S 3 r4.toNatClampNeg) + (if ((10 : Int32) - (oI S 7)) < r2 then ((10 : Int32) - (oI S 7)) else r2)))) 7 ((oI (sA S 3 (va_up (oA S 3) r4.toNatClampNeg ((oA S 3 r4.toNatClampNeg) + (if ((10 : Int32) - (oI S 7)) < r2 then ((10 : Int32) - (oI S 7)) else r2)))) 7) + (if ((10 : Int32) - (oI S 7)) < r2 then ((10 : Int32) - (oI S 7)) else r2))) 11 ((oI (sI (sA S 3 (va_up (oA S 3) r4.toNatClampNeg ((oA S 3 r4.toNatClampNeg) + (if ((10 : Int32) - (oI S 7)) < r2 then ((10 : Int32) - (oI S 7)) else r2)))) 7 ((oI (sA S 3 (va_up (oA S 3) r4.toNatClampNeg ((oA S 3 r4.toNatClampNeg) + (if ((10 : Int32) - (oI S 7)) < r2 then ((10 : Int32) - (oI S 7)) else r2)))) 7) + (if ((10 : Int32) - (oI S 7)) < r2 then ((10 : Int32) - (oI S 7)) else r2))) 11) + (r2 - (if ((10 : Int32) - (oI S 7)) < r2 then ((10 : Int32) - (oI S 7)) else r2)))) 1 a.toNatClampNeg) - r2)))))))
      else
        some S)
def pX6_comb_l6 (Sa : Ob) (l2 : Int32) (l3 : Int32) : Nat → Int32 → Int32 → Ob → Option (Ob)
  | 0, _, _, _ => none
  | n + 1, l4, l5, S =>
    if (8 : Int32) ≤ l5 then
      some S
    else
      gd (inB l2 6) (
        if oA S 1 l2.toNatClampNeg ≤ 0 then
          some S
        else
          (pX6_outsideHolds S Sa l2).bind fun r4 =>
          if l4 < r4 then
            some S
          else
            (pX6_outsideHolds S Sa l2).bind fun r7 =>
            (pX6_putOutsideKnotIntoBag S l2).bind fun r9 =>
            (pX6_comb_l6  Sa l2 l3 n) (l4 - r7) (l5 + (1 : Int32)) r9)
def pX6_comb (S : Ob) (Sa : Ob)  (b : Int32) (c : Int32) : Option (Ob) :=
  (pX6_comb_l6 Sa b c fu c (0 : Int32) S).bind fun r11 =>
  gd (inB b 6) (gd (inB b 6) (some (sI (sA r11 2 (va_up (oA r11 2) b.toNatClampNeg ((oA r11 2 b.toNatClampNeg) + c))) 9 ((oI (sA r11 2 (va_up (oA r11 2) b.toNatClampNeg ((oA r11 2 b.toNatClampNeg) + c))) 9) + (1 : Int32)))))
def pX0_liveStroke (S : Ob) (Sa : Ob) (Sb : Ob)  (c : Int32) (d : Int32) : Option (Int32 × Ob) :=
  (pX6_whyNoStroke Sb Sa c d).bind fun r1 =>
  if r1 = 0 then
    (pX6_comb Sb Sa c d).bind fun r4 =>
    some (r1, r4)
  else
    some (r1, Sb)
def pX0_liveLine (S : Ob) (Sa : Ob) (Sb : Ob)  (c : Int32) : Option (Int32 × Ob) :=
  gd (inB c 40) (
    gd (inB c 40) (
      gd (inB c 40) (
        gd (wOk (oX S 0 c.toNatClampNeg)) (
          if oX S 0 c.toNatClampNeg = some 6 then
            (pX0_liveStroke S Sa Sb (oA S 1 c.toNatClampNeg) (oA S 2 c.toNatClampNeg)).bind fun r26 =>
            some (r26.1, r26.2)
          else
            gd (inB c 40) (
              gd (wOk (oX S 0 c.toNatClampNeg)) (
                if oX S 0 c.toNatClampNeg = some 7 then
                  (pX0_liveCut S Sb (oA S 1 c.toNatClampNeg)).bind fun r24 =>
                  some (r24.1, r24.2)
                else
                  gd (inB c 40) (
                    gd (wOk (oX S 0 c.toNatClampNeg)) (
                      if oX S 0 c.toNatClampNeg = some 8 then
                        (pX0_liveCatch S Sb (oA S 1 c.toNatClampNeg) (oA S 2 c.toNatClampNeg)).bind fun r22 =>
                        some (r22.1, r22.2)
                      else
                        gd (inB c 40) (
                          gd (wOk (oX S 0 c.toNatClampNeg)) (
                            if oX S 0 c.toNatClampNeg = some 9 then
                              (pX0_liveStuffing S Sa Sb (oA S 1 c.toNatClampNeg) (oA S 2 c.toNatClampNeg)).bind fun r20 =>
                              some (r20.1, r20.2)
                            else
                              (pX6_daysLeft Sb).bind fun r15 =>
                              if oA S 2 c.toNatClampNeg ≤ r15 then
                                (pX6_letDaysGo Sb Sa (oA S 2 c.toNatClampNeg)).bind fun r18 =>
                                some ((0 : Int32), r18)
                              else
                                some ((41 : Int32), Sb)))))))))))
def pX0_live_l12 (Sa : Ob) : Nat → Int32 → Ob → Ob → Option (Ob × Ob)
  | 0, _, _, _ => none
  | n + 1, l3, S, Sb =>
    if oI S 3 ≤ l3 then
      some (S, Sb)
    else
      if oI S 5 = 0 then
        (pX0_liveLine S Sa Sb l3).bind fun r3 =>
        if oI (sI S 5 r3.1) 5 = 0 then
          (pX0_live_l12  Sa n) (l3 + (1 : Int32)) (sI (sI S 5 r3.1) 6 ((oI (sI S 5 r3.1) 6) + (1 : Int32))) r3.2
        else
          (pX0_live_l12  Sa n) (l3 + (1 : Int32)) (sI S 5 r3.1) r3.2
      else
        some (S, Sb)
def pX0_live (S : Ob) (Sa : Ob) (Sb : Ob)   : Option (Ob × Ob) :=
  (pX0_live_l12 Sa fu (0 : Int32) (sI (sI S 5 (0 : Int32)) 6 (0 : Int32)) Sb).bind fun r6 =>
  some (sI (sI (sI r6.1 7 (oI r6.2 8)) 8 (oI r6.2 7)) 4 (1 : Int32), r6.2)
