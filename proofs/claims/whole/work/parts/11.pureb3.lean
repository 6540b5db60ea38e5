def pX5_isTrueOf_l6 (S : Ob) (Sa : Ob) (Sb : Ob) (l3 : Int32) : Nat → Int32 → Int32 → Option (Int32)
  | 0, _, _ => none
  | n + 1, l4, l5 =>
    if oI S 3 ≤ l5 then
      some l4
    else
      gd (inB l5 40) (
        gd (wOk (oX S 0 l5.toNatClampNeg)) (
          if oX S 0 l5.toNatClampNeg = some 13 then
            (pX5_isTrueOf_l6  S Sa Sb l3 n) (l4 ^^^ (1 : Int32)) (l5 + (1 : Int32))
          else
            gd (inB l5 40) (
              gd (wOk (oX S 0 l5.toNatClampNeg)) (
                if oX S 0 l5.toNatClampNeg = some 12 then
                  (pX5_isTrueOf_l6  S Sa Sb l3 n) ((l4 >>> ((1 : Int32) &&& 31)) &&& ((l4 &&& (1 : Int32)) ||| (-2 : Int32))) (l5 + (1 : Int32))
                else
                  gd (inB l5 40) (
                    gd (wOk (oX S 0 l5.toNatClampNeg)) (
                      if oX S 0 l5.toNatClampNeg = some 11 then
                        (pX5_isTrueOf_l6  S Sa Sb l3 n) ((l4 >>> ((1 : Int32) &&& 31)) ||| (l4 &&& (1 : Int32))) (l5 + (1 : Int32))
                      else
                        (pX5_isPlainTrue S Sa Sb l3 l5).bind fun r11 =>
                        if r11 = 0 then
                          (pX5_isTrueOf_l6  S Sa Sb l3 n) ((l4 <<< ((1 : Int32) &&& 31)) ||| (0 : Int32)) (l5 + (1 : Int32))
                        else
                          (pX5_isTrueOf_l6  S Sa Sb l3 n) ((l4 <<< ((1 : Int32) &&& 31)) ||| (1 : Int32)) (l5 + (1 : Int32))))))))
def pX5_isTrueOf (S : Ob) (Sa : Ob) (Sb : Ob)  (c : Int32) : Option (Int32) :=
  (pX5_isTrueOf_l6 S Sa Sb c fu (0 : Int32) (0 : Int32)).bind fun r14 =>
  if r14 &&& (1 : Int32) = (1 : Int32) then
    some (1 : Int32)
  else
    some (0 : Int32)
def pX6_endsWith_l21 (S : Ob) (bf : Nat → Int32) (bn : Nat) (l1 : Int32) (l3 : Int32) : Nat → Int32 → Option (Int32)
  | 0, _ => none
  | n + 1, l4 =>
    if l3 ≤ l4 then
      some (1 : Int32)
    else
      gd (inB l4 bn) (
        gd (inB l1 6) (
          (pX6_layerAt S l1 (((oA S 1 l1.toNatClampNeg) - l3) + l4)).bind fun r7 =>
          if bf l4.toNatClampNeg = r7 then
            (pX6_endsWith_l21  S bf bn l1 l3 n) (l4 + (1 : Int32))
          else
            some (0 : Int32)))
def pX6_endsWith (S : Ob) (bf : Nat → Int32) (bn : Nat) (a : Int32) (c : Int32) : Option (Int32) :=
  gd (inB a 6) (
    if oA S 1 a.toNatClampNeg < c then
      some (0 : Int32)
    else
      if c ≤ Int32.ofNat bn then
        pX6_endsWith_l21 S bf bn a c fu (0 : Int32)
      else
        some (0 : Int32))
def pX6_whoHas_l5 (S : Ob) (Sa : Ob) (l2 : Int32) : Nat → Int32 → Int32 → Option (Int32)
  | 0, _, _ => none
  | n + 1, l3, l4 =>
    if oI Sa 4 ≤ l4 then
      some l3
    else
      (pX6_has S l4 l2).bind fun r2 =>
      if r2 = 0 then
        (pX6_whoHas_l5  S Sa l2 n) l3 (l4 + (1 : Int32))
      else
        (pX6_whoHas_l5  S Sa l2 n) (l3 ||| ((1 : Int32) <<< (l4 &&& 31))) (l4 + (1 : Int32))
def pX6_whoHas (S : Ob) (Sa : Ob)  (b : Int32) : Option (Int32) :=
  (pX6_whoHas_l5 S Sa b fu (0 : Int32) (0 : Int32)).bind fun r5 =>
  some r5
def pX6_stillOf_l29 (S : Ob) (Sa : Ob) (l2 : Int32) (l4 : Int32) : Nat → Int32 → Int32 → Option (Int32)
  | 0, _, _ => none
  | n + 1, l3, l5 =>
    gd (inB l4 6) (
      if oA S 1 l4.toNatClampNeg ≤ l5 then
        some l3
      else
        (pX6_layerAt S l4 l5).bind fun r6 =>
        if r6 = l2 then
          (pX6_stillOf_l29  S Sa l2 l4 n) (l3 + (1 : Int32)) (l5 + (1 : Int32))
        else
          (pX6_stillOf_l29  S Sa l2 l4 n) l3 (l5 + (1 : Int32)))
def pX6_stillOf_l17 (S : Ob) (Sa : Ob) (l2 : Int32) : Nat → Int32 → Int32 → Option (Int32)
  | 0, _, _ => none
  | n + 1, l3, l4 =>
    if oI Sa 4 ≤ l4 then
      some l3
    else
      (pX6_stillOf_l29 S Sa l2 l4 fu l3 (0 : Int32)).bind fun r9 =>
      (pX6_stillOf_l17  S Sa l2 n) r9 (l4 + (1 : Int32))
def pX6_stillOf (S : Ob) (Sa : Ob)  (b : Int32) : Option (Int32) :=
  gd (inB b 8) (
    gd (inB b 8) (
      (pX6_stillOf_l17 S Sa b fu ((oA S 3 b.toNatClampNeg) + (oA S 4 b.toNatClampNeg)) (0 : Int32)).bind fun r11 =>
      some r11))
def pX6_allNests_l4 (S : Ob) (Sa : Ob) : Nat → Int32 → Int32 → Option (Int32)
  | 0, _, _ => none
  | n + 1, l2, l3 =>
    if oI Sa 4 ≤ l3 then
      some l2
    else
      (pX6_isNest S l3).bind fun r2 =>
      if r2 = 0 then
        (pX6_allNests_l4  S Sa n) l2 (l3 + (1 : Int32))
      else
        (pX6_allNests_l4  S Sa n) (l2 ||| ((1 : Int32) <<< (l3 &&& 31))) (l3 + (1 : Int32))
def pX6_allNests (S : Ob) (Sa : Ob)   : Option (Int32) :=
  (pX6_allNests_l4 S Sa fu (0 : Int32) (0 : Int32)).bind fun r5 =>
  some r5
def pX6_draw (S : Ob)  (a : Int32) : Option (Int32 × Ob) :=
  if (1 : Int32) ≤ a then
    gd (decide (¬ a = 0)) (some ((ushr32 (oI (sI S 12 (((oI S 12) * (1103515245 : Int32)) + (12345 : Int32))) 12) (8 : Int32)) - (ushr32 (oI (sI S 12 (((oI S 12) * (1103515245 : Int32)) + (12345 : Int32))) 12) (8 : Int32)) / a * a, sI S 12 (((oI S 12) * (1103515245 : Int32)) + (12345 : Int32))))
  else
    some ((0 : Int32), sI S 12 (((oI S 12) * (1103515245 : Int32)) + (12345 : Int32)))
def pX6_actAsDrawn (S : Ob) (Sa : Ob)  (b : Int32) : Option (Ob) :=
  (pX6_draw S (6 : Int32)).bind fun r1 =>
  if (1 : Int32) < r1.1 then
    if r1.1 = (2 : Int32) then
      (pX6_draw r1.2 (20 : Int32)).bind fun r11 =>
      (pX6_whyNoStroke r11.2 Sa b (r11.1 + (1 : Int32))).bind fun r13 =>
      if r13 = 0 then
        (pX6_comb r11.2 Sa b (r11.1 + (1 : Int32))).bind fun r16 =>
        some r16
      else
        some r11.2
    else
      if r1.1 = (3 : Int32) then
        (pX6_whyNoCut r1.2 b).bind fun r6 =>
        if r6 = 0 then
          (pX6_cutOff r1.2 b).bind fun r9 =>
          some r9
        else
          some r1.2
      else
        some r1.2
  else
    if oI Sa 0 ≤ 0 then
      some r1.2
    else
      (pX6_draw r1.2 (oI Sa 0)).bind fun r19 =>
      (pX6_catchThing r19.2 b r19.1).bind fun r21 =>
      some r21
def pX6_letDrawnDaysGo_l17 (Sa : Ob) (l2 : Int32) (l4 : Int32) : Nat → Int32 → Ob → Option (Ob)
  | 0, _, _ => none
  | n + 1, l5, S =>
    if oI Sa 4 ≤ l5 then
      some S
    else
      (pX6_actAsDrawn S Sa l5).bind fun r3 =>
      (pX6_letDrawnDaysGo_l17  Sa l2 l4 n) (l5 + (1 : Int32)) r3
def pX6_letDrawnDaysGo_l8 (Sa : Ob) (l2 : Int32) : Nat → Int32 → Ob → Option (Ob)
  | 0, _, _ => none
  | n + 1, l4, S =>
    if l2 ≤ l4 then
      some S
    else
      (pX6_letDrawnDaysGo_l17 Sa l2 l4 fu (0 : Int32) S).bind fun r5 =>
      (pX6_letOneDayGo r5 Sa).bind fun r7 =>
      (pX6_letDrawnDaysGo_l8  Sa l2 n) (l4 + (1 : Int32)) r7
def pX6_letDrawnDaysGo (S : Ob) (Sa : Ob)  (b : Int32) (c : Int32) : Option (Ob) :=
  (pX6_letDrawnDaysGo_l8 Sa b fu (0 : Int32) (sI S 12 c)).bind fun r9 =>
  some r9
def pX7_put (S : Ob)  (a : Int32) : Option (Ob) :=
  if (79 : Int32) ≤ oI S 1 then
    some S
  else
    gd (inB (oI S 1) 79) (some (sI (sA S 0 (va_up (oA S 0) ((oI S 1).toNatClampNeg) a)) 1 ((oI (sA S 0 (va_up (oA S 0) ((oI S 1).toNatClampNeg) a)) 1) + (1 : Int32))))
def pX7_putName_l3 (l1 : Int64) : Nat → Int32 → Ob → Option (Ob)
  | 0, _, _ => none
  | n + 1, l3, S =>
    if l3 < 0 then
      some S
    else
      if ((ushr64 l1 l3) &&& (255 : Int64)).toInt32 = 0 then
        (pX7_putName_l3  l1 n) (l3 + (-8 : Int32)) S
      else
        (pX7_put S (((ushr64 l1 l3) &&& (255 : Int64)).toInt32)).bind fun r3 =>
        (pX7_putName_l3  l1 n) (l3 + (-8 : Int32)) r3
def pX7_putName (S : Ob)  (a : Int64) : Option (Ob) :=
  (pX7_putName_l3 a fu (48 : Int32) S).bind fun r5 =>
  some r5
def pX7_putKnot (S : Ob) (Sa : Ob)  (b : Int32) (c : Int32) : Option (Ob) :=
  if b < 0 then
    some S
  else
    if b < (8 : Int32) then
      (pX7_put S (32 : Int32)).bind fun r3 =>
      gd (inB b 8) (
        (pX7_putName r3 (oJ Sa 1 b.toNatClampNeg)).bind fun r6 =>
        if c ≤ (1 : Int32) then
          some r6
        else
          (pX7_put r6 ((48 : Int32) + c)).bind fun r9 =>
          some r9)
    else
      some S
def pX7_write_l46 (Sa : Ob) (Sb : Ob) (l3 : Int32) : Nat → Int32 → Int32 → Ob → Option (Ob)
  | 0, _, _, _ => none
  | n + 1, l4, l5, S =>
    gd (inB l3 6) (
      if oA Sb 1 l3.toNatClampNeg ≤ l5 then
        some S
      else
        (pX6_layerAt Sb l3 l5).bind fun r8 =>
        (pX6_layerAt Sb l3 (l5 + (1 : Int32))).bind fun r10 =>
        if r8 = r10 then
          (pX7_write_l46  Sa Sb l3 n) (l4 + (1 : Int32)) (l5 + (1 : Int32)) S
        else
          (pX7_putKnot S Sa r8 (l4 + (1 : Int32))).bind fun r13 =>
          (pX7_write_l46  Sa Sb l3 n) (0 : Int32) (l5 + (1 : Int32)) r13)
def pX7_write_j40 (S : Ob) (Sa : Ob) (Sb : Ob) (l3 : Int32) : Option (Ob) :=
  (pX7_write_l46 Sa Sb l3 fu (0 : Int32) (0 : Int32) S).bind fun r15 =>
  some r15
def pX7_write (S : Ob) (Sa : Ob) (Sb : Ob)  (c : Int32) : Option (Ob) :=
  gd (inB c 6) (
    (pX7_putName (sI S 1 (0 : Int32)) (oJ Sa 5 c.toNatClampNeg)).bind fun r2 =>
    gd (inB c 6) (
      if oA Sb 1 c.toNatClampNeg = 0 then
        (pX7_put r2 (32 : Int32)).bind fun r17 =>
        (pX7_putName r17 (wCode 14)).bind fun r19 =>
        pX7_write_j40 r19 Sa Sb c
      else
        pX7_write_j40 r2 Sa Sb c))
def pX8_putNumber_l3 (l1 : Int32) : Nat → Int32 → Ob → Option (Ob)
  | 0, _, _ => none
  | n + 1, l2, S =>
    if l2 < 0 then
      some S
    else
      if (940 : Int32) ≤ oI S 1 then
        some S
      else
        gd (inB (oI S 1) 940) ((pX8_putNumber_l3  l1 n) (l2 + (-8 : Int32)) (sI (sA S 0 (va_up (oA S 0) ((oI S 1).toNatClampNeg) ((ushr32 l1 l2) &&& (255 : Int32)))) 1 ((oI (sA S 0 (va_up (oA S 0) ((oI S 1).toNatClampNeg) ((ushr32 l1 l2) &&& (255 : Int32)))) 1) + (1 : Int32))))
def pX8_putNumber (S : Ob)  (a : Int32) : Option (Ob) :=
  (pX8_putNumber_l3 a fu (24 : Int32) S).bind fun r4 =>
  some r4
def pX10_feed (V0 : Ob) (V1 : Ob)  (a : Int32) (b : Int32) (c : Int32) (d : Int32) (e : Int32) : Option (Int32 × Ob) :=
  if (oI V1 1) + (20 : Int32) ≤ (940 : Int32) then
    (pX8_putNumber V1 a).bind fun r2 =>
    (pX8_putNumber r2 b).bind fun r4 =>
    (pX8_putNumber r4 c).bind fun r6 =>
    (pX8_putNumber r6 d).bind fun r8 =>
    (pX8_putNumber r8 e).bind fun r10 =>
    some (oI r10 1, r10)
  else
    some ((-1 : Int32), V1)
def pX10_end (V0 : Ob) (V1 : Ob)  (a : Int32) : Option (Int32 × Ob) :=
  if a < 0 then
    some ((0 : Int32), V1)
  else
    if a ≤ oI V1 1 then
      some ((1 : Int32), sI V1 1 a)
    else
      some ((0 : Int32), V1)
def pX10_quarter (V0 : Ob) (V11 : Ob) (V1 : Ob) (V13 : Ob) (V2 : Ob) (V3 : Ob) (V4 : Ob) (V5 : Ob)   : Option (Int32 × Ob × Ob × Ob × Ob × Ob × Ob × Ob × Ob) :=
  (pX4_readFrom V11 V1 V13).bind fun r1 =>
  if oI (sI V0 12 (oI (sI r1.2.2.1 1 (0 : Int32)) 9)) 12 = 0 then
    (pX4_copyFrom V2 r1.2.1).bind fun r4 =>
    (pX6_copyFrom V3 r1.2.2.2).bind fun r6 =>
    (pX5_forget V4).bind fun r8 =>
    (pX2_forget V5).bind fun r10 =>
    some (r1.1, sI V0 12 (oI (sI r1.2.2.1 1 (0 : Int32)) 9), r1.2.1, sI r1.2.2.1 1 (0 : Int32), r1.2.2.2, r4, r6, r8, r10)
  else
    some ((-1 : Int32) - (oI (sI r1.2.2.1 1 (0 : Int32)) 10), sI V0 12 (oI (sI r1.2.2.1 1 (0 : Int32)) 9), r1.2.1, sI r1.2.2.1 1 (0 : Int32), r1.2.2.2, V2, V3, V4, V5)
def pX10_fault (V0 : Ob)   : Option (Int32) :=
  some (oI V0 12)
def pX10_isPerson (V0 : Ob) (V2 : Ob)  (a : Int32) : Option (Int32) :=
  if a < 0 then
    some (0 : Int32)
  else
    if oI V2 4 ≤ a then
      some (0 : Int32)
    else
      some (1 : Int32)
def pX10_layer (V0 : Ob) (V2 : Ob) (V3 : Ob)  (a : Int32) (b : Int32) : Option (Int32) :=
  (pX10_isPerson V0 V2 a).bind fun r1 =>
  if r1 = 0 then
    some (-1 : Int32)
  else
    (pX6_layerAt V3 a b).bind fun r4 =>
    some r4
def pX10_isThing (V0 : Ob) (V2 : Ob)  (a : Int32) : Option (Int32) :=
  if a < 0 then
    some (0 : Int32)
  else
    if oI V2 0 ≤ a then
      some (0 : Int32)
    else
      some (1 : Int32)
def pX10_thing (V0 : Ob) (V2 : Ob) (V3 : Ob)  (a : Int32) (b : Int32) : Option (Int32) :=
  (pX10_isThing V0 V2 a).bind fun r1 =>
  if r1 = 0 then
    some (-1 : Int32)
  else
    if b = (0 : Int32) then
      gd (inB a 8) (some (oA V2 2 a.toNatClampNeg))
    else
    if b = (1 : Int32) then
      gd (inB a 8) (some (oA V2 3 a.toNatClampNeg))
    else
    if b = (2 : Int32) then
      gd (inB a 8) (some (oA V3 3 a.toNatClampNeg))
    else
    if b = (3 : Int32) then
      (pX6_whoHas V3 V2 a).bind fun r12 =>
      some r12
    else
    if b = (4 : Int32) then
      (pX6_stillOf V3 V2 a).bind fun r14 =>
      some r14
    else
      some (-1 : Int32)
def pX10_isBed (V0 : Ob) (V2 : Ob)  (a : Int32) : Option (Int32) :=
  if a < 0 then
    some (0 : Int32)
  else
    if oI V2 11 ≤ a then
      some (0 : Int32)
    else
      some (1 : Int32)
def pX10_bed (V0 : Ob) (V2 : Ob) (V3 : Ob)  (a : Int32) (b : Int32) : Option (Int32) :=
  (pX10_isBed V0 V2 a).bind fun r1 =>
  if r1 = 0 then
    some (-1 : Int32)
  else
    if b = (0 : Int32) then
      gd (inB a 4) (some (oA V2 13 a.toNatClampNeg))
    else
    if b = (1 : Int32) then
      gd (inB a 4) (some (oA V3 5 a.toNatClampNeg))
    else
    if b = (2 : Int32) then
      (pX6_sleeps V3 V2 a).bind fun r10 =>
      if r10 = 0 then
        some (0 : Int32)
      else
        some (1 : Int32)
    else
    if b = (3 : Int32) then
      gd (inB a 4) (some (oA V3 6 a.toNatClampNeg))
    else
      some (-1 : Int32)
def pX10_now (V0 : Ob) (V3 : Ob) (V2 : Ob)  (a : Int32) : Option (Int32) :=
  if a = (0 : Int32) then
    some (oI V3 8)
  else
  if a = (1 : Int32) then
    some (oI V3 7)
  else
  if a = (2 : Int32) then
    (pX6_allSleeping V3 V2).bind fun r8 =>
    some r8
  else
  if a = (3 : Int32) then
    (pX6_allNests V3 V2).bind fun r10 =>
    some r10
  else
  if a = (4 : Int32) then
    some (oI V3 9)
  else
  if a = (5 : Int32) then
    some (oI V3 10)
  else
  if a = (6 : Int32) then
    some (oI V3 11)
  else
    some (-1 : Int32)
def pX10_stroke (V0 : Ob) (V2 : Ob) (V3 : Ob) (V5 : Ob) (K : (Nat → Ob))  (a : Int32) (b : Int32) : Option (Int32 × Ob × Ob × (Nat → Ob)) :=
  (pX10_isPerson V0 V2 a).bind fun r1 =>
  if r1 = 0 then
    some ((-1 : Int32), V3, V5, K)
  else
    if b < (1 : Int32) then
      some ((-1 : Int32), V3, V5, K)
    else
      if b ≤ (20 : Int32) then
        (pX6_whyNoStroke V3 V2 a b).bind fun r6 =>
        if r6 = 0 then
          (pX2_keep V5 V3 K).bind fun r9 =>
          (pX6_comb V3 V2 a b).bind fun r11 =>
          some (r6, r11, r9.1, r9.2)
        else
          some (r6, V3, V5, K)
      else
        some ((-1 : Int32), V3, V5, K)
def pX10_cut (V0 : Ob) (V2 : Ob) (V3 : Ob) (V5 : Ob) (K : (Nat → Ob))  (a : Int32) : Option (Int32 × Ob × Ob × (Nat → Ob)) :=
  (pX10_isPerson V0 V2 a).bind fun r1 =>
  if r1 = 0 then
    some ((-1 : Int32), V3, V5, K)
  else
    (pX6_whyNoCut V3 a).bind fun r4 =>
    if r4 = 0 then
      (pX2_keep V5 V3 K).bind fun r7 =>
      (pX6_cutOff V3 a).bind fun r9 =>
      some (r4, r9, r7.1, r7.2)
    else
      some (r4, V3, V5, K)
def pX10_snag (V0 : Ob) (V2 : Ob) (V3 : Ob) (V5 : Ob) (K : (Nat → Ob))  (a : Int32) (b : Int32) : Option (Int32 × Ob × Ob × (Nat → Ob)) :=
  (pX10_isPerson V0 V2 a).bind fun r1 =>
  if r1 = 0 then
    some ((-1 : Int32), V3, V5, K)
  else
    (pX10_isThing V0 V2 b).bind fun r4 =>
    if r4 = 0 then
      some ((-1 : Int32), V3, V5, K)
    else
      (pX6_whyNoCatch V3 a).bind fun r7 =>
      if r7 = 0 then
        (pX2_keep V5 V3 K).bind fun r10 =>
        (pX6_catchThing V3 a b).bind fun r12 =>
        some (r7, r12, r10.1, r10.2)
      else
        some (r7, V3, V5, K)
def pX10_stuff (V0 : Ob) (V2 : Ob) (V3 : Ob) (V5 : Ob) (K : (Nat → Ob))  (a : Int32) (b : Int32) : Option (Int32 × Ob × Ob × (Nat → Ob)) :=
  (pX10_isBed V0 V2 a).bind fun r1 =>
  if r1 = 0 then
    some ((-1 : Int32), V3, V5, K)
  else
    (pX10_isThing V0 V2 b).bind fun r4 =>
    if r4 = 0 then
      some ((-1 : Int32), V3, V5, K)
    else
      (pX6_whyNoStuffing V3 b).bind fun r7 =>
      if r7 = 0 then
        (pX2_keep V5 V3 K).bind fun r10 =>
        (pX6_fillBed V3 V2 a b).bind fun r12 =>
        some (r7, r12, r10.1, r10.2)
      else
        some (r7, V3, V5, K)
def pX10_days (V0 : Ob) (V3 : Ob) (V5 : Ob) (K : (Nat → Ob)) (V2 : Ob)  (a : Int32) : Option (Int32 × Ob × Ob × (Nat → Ob)) :=
  if a < (1 : Int32) then
    some ((-1 : Int32), V3, V5, K)
  else
    if a ≤ (60 : Int32) then
      (pX6_daysLeft V3).bind fun r3 =>
      if (if r3 < a then r3 else a) ≤ 0 then
        some ((if r3 < a then r3 else a), V3, V5, K)
      else
        (pX2_keep V5 V3 K).bind fun r6 =>
        (pX6_letDaysGo V3 V2 (if r3 < a then r3 else a)).bind fun r8 =>
        some ((if r3 < a then r3 else a), r8, r6.1, r6.2)
    else
      some ((-1 : Int32), V3, V5, K)
def pX10_undo (V0 : Ob) (V5 : Ob) (V3 : Ob) (K : (Nat → Ob))   : Option (Int32 × Ob × Ob) :=
  (pX2_takeBack V5 V3 K).bind fun r1 =>
  some (r1.1, r1.2.1, r1.2.2)
def pX10_ease (V0 : Ob) (V2 : Ob) (V8 : Ob) (V3 : Ob)  (a : Int32) : Option (Int32) :=
  (pX10_isPerson V0 V2 a).bind fun r1 =>
  if r1 = 0 then
    some (-1 : Int32)
  else
    (pX3_fewestStrokes V8 V2 V3 a).bind fun r4 =>
    some r4
def pX10_nests (V0 : Ob) (V2 : Ob) (V8 : Ob) (V3 : Ob)  (a : Int32) : Option (Int32) :=
  (pX10_isPerson V0 V2 a).bind fun r1 =>
  if r1 = 0 then
    some (-1 : Int32)
  else
    (pX3_daysToNest V8 V2 V3 a).bind fun r4 =>
    some r4
def pX10_round (V0 : Ob) (V8 : Ob) (V2 : Ob) (V3 : Ob)  (a : Int32) : Option (Int32 × Ob × Ob) :=
  if a < 0 then
    some ((-1 : Int32), V0, V8)
  else
    if a ≤ (999 : Int32) then
      (pX3_bestRound V8 V2 V3 a).bind fun r3 =>
      (pJ6_bitCount_0f7a4 (oI (sI V0 13 r3.1) 13)).bind fun r5 =>
      some (r5, sI V0 13 r3.1, r3.2)
    else
      some ((-1 : Int32), V0, V8)
def pX10_rounded (V0 : Ob)   : Option (Int32) :=
  some (oI V0 13)
def pX10_beds (V0 : Ob) (V8 : Ob) (V2 : Ob) (V3 : Ob)   : Option (Int32 × Ob × Ob) :=
  (pX3_bestBeds V8 V2 V3).bind fun r1 =>
  (pJ6_bitCount_0f7a4 (oI (sI V0 14 r1.1) 14)).bind fun r3 =>
  some (r3, sI V0 14 r1.1, r1.2)
def pX10_bedded (V0 : Ob)   : Option (Int32) :=
  some (oI V0 14)
def pX10_fits_l64 (V0 : Ob) (V1 : Ob) (V2 : Ob) (V3 : Ob) (V8 : Ob) (l1 : Int32) : Nat → Int32 → Int32 → Option (Int32)
  | 0, _, _ => none
  | n + 1, l2, l3 =>
    if oI V2 4 ≤ l3 then
      some l2
    else
      (pX6_endsWith V3 (oA V1 0) 940 l3 l1).bind fun r5 =>
      if r5 = 0 then
        (pX10_fits_l64  V0 V1 V2 V3 V8 l1 n) l2 (l3 + (1 : Int32))
      else
        (pX10_fits_l64  V0 V1 V2 V3 V8 l1 n) (l2 ||| ((1 : Int32) <<< (l3 &&& 31))) (l3 + (1 : Int32))
def pX10_fits_l31 (V0 : Ob) (V1 : Ob) (V2 : Ob) (V3 : Ob) (V8 : Ob) (l1 : Int32) : Nat → Int32 → Option (Int32 × Ob × Ob)
  | 0, _ => none
  | n + 1, l2 =>
    if l1 ≤ l2 then
      (pX10_fits_l64 V0 V1 V2 V3 V8 l1 fu (0 : Int32) (0 : Int32)).bind fun r8 =>
      if r8 ≤ 0 then
        some (r8, V0, V1)
      else
        (pX3_bestLayer V8 V2 V3 r8).bind fun r11 =>
        some (r8, sI V0 15 r11, V1)
    else
      gd (inB l2 940) (
        (pX10_isThing V0 V2 (oA V1 0 l2.toNatClampNeg)).bind fun r14 =>
        if r14 = 0 then
          some ((-1 : Int32), V0, V1)
        else
          (pX10_fits_l31  V0 V1 V2 V3 V8 l1 n) (l2 + (1 : Int32)))
def pX10_fits (V0 : Ob) (V1 : Ob) (V2 : Ob) (V3 : Ob) (V8 : Ob)   : Option (Int32 × Ob × Ob) :=
  if oI V1 1 < (1 : Int32) then
    some ((-1 : Int32), V0, sI V1 1 (0 : Int32))
  else
    if oI V1 1 ≤ (8 : Int32) then
      pX10_fits_l31 V0 (sI V1 1 (0 : Int32)) V2 V3 V8 (oI V1 1) fu (0 : Int32)
    else
      some ((-1 : Int32), V0, sI V1 1 (0 : Int32))
def pX10_ask (V0 : Ob)   : Option (Int32) :=
  some (oI V0 15)
def pX10_like_l14 (V0 : Ob) (V2 : Ob) (V3 : Ob) (l1 : Int32) : Nat → Int32 → Int32 → Option (Int32)
  | 0, _, _ => none
  | n + 1, l2, l3 =>
    if oI V2 4 ≤ l3 then
      some l2
    else
      if l3 = l1 then
        (pX10_like_l14  V0 V2 V3 l1 n) l2 (l3 + (1 : Int32))
      else
        (pX6_alike V3 l1 l3).bind fun r6 =>
        if r6 = 0 then
          (pX10_like_l14  V0 V2 V3 l1 n) l2 (l3 + (1 : Int32))
        else
          (pX10_like_l14  V0 V2 V3 l1 n) (l2 ||| ((1 : Int32) <<< (l3 &&& 31))) (l3 + (1 : Int32))
def pX10_like (V0 : Ob) (V2 : Ob) (V3 : Ob)  (a : Int32) : Option (Int32) :=
  (pX10_isPerson V0 V2 a).bind fun r1 =>
  if r1 = 0 then
    some (-1 : Int32)
  else
    (pX10_like_l14 V0 V2 V3 a fu (0 : Int32) (0 : Int32)).bind fun r9 =>
    some r9
def pX10_hardest_l6 (V0 : Ob) (V2 : Ob) (V3 : Ob) : Nat → Int32 → Int32 → Int32 → Option (Int32)
  | 0, _, _, _ => none
  | n + 1, l1, l2, l3 =>
    if oI V2 4 ≤ l3 then
      some l1
    else
      (pX6_allHolds V3 V2 l3).bind fun r2 =>
      if r2 ≤ l2 then
        (pX10_hardest_l6  V0 V2 V3 n) l1 l2 (l3 + (1 : Int32))
      else
        (pX10_hardest_l6  V0 V2 V3 n) l3 r2 (l3 + (1 : Int32))
def pX10_hardest (V0 : Ob) (V2 : Ob) (V3 : Ob)   : Option (Int32) :=
  (pX10_hardest_l6 V0 V2 V3 fu (-1 : Int32) (-1 : Int32) (0 : Int32)).bind fun r5 =>
  some r5
def pX10_tag (V0 : Ob) (V2 : Ob) (V10 : Ob) (V3 : Ob)  (a : Int32) : Option (Int32 × Ob) :=
  (pX10_isPerson V0 V2 a).bind fun r1 =>
  if r1 = 0 then
    some ((-1 : Int32), V10)
  else
    (pX7_write V10 V2 V3 a).bind fun r4 =>
    some (oI r4 1, r4)
def pX10_byteAt (V0 : Ob) (V10 : Ob)  (a : Int32) : Option (Int32) :=
  if a < 0 then
    some (-1 : Int32)
  else
    if a < oI V10 1 then
      gd (inB a 79) (some (oA V10 0 a.toNatClampNeg))
    else
      some (-1 : Int32)
def pX10_drawn (V0 : Ob) (V3 : Ob) (V5 : Ob) (K : (Nat → Ob)) (V2 : Ob)  (a : Int32) (b : Int32) : Option (Int32 × Ob × Ob × (Nat → Ob)) :=
  if a < (1 : Int32) then
    some ((-1 : Int32), V3, V5, K)
  else
    if a ≤ (60 : Int32) then
      (pX6_daysLeft V3).bind fun r3 =>
      if (if r3 < a then r3 else a) ≤ 0 then
        some ((if r3 < a then r3 else a), V3, V5, K)
      else
        (pX2_keep V5 V3 K).bind fun r6 =>
        (pX6_letDrawnDaysGo V3 V2 (if r3 < a then r3 else a) b).bind fun r8 =>
        some ((if r3 < a then r3 else a), r8, r6.1, r6.2)
    else
      some ((-1 : Int32), V3, V5, K)
def pX10_odds_l27 (V0 : Ob) (V2 : Ob) (V3 : Ob) (l1 : Int32) (l2 : Int32) (l3 : Int32) : Nat → Int32 → Int32 → Ob → Option (Int32 × Ob)
  | 0, _, _, _ => none
  | n + 1, l4, l5, V13 =>
    if l2 ≤ l5 then
      some (l4, V13)
    else
      (pX6_copyFrom V13 V3).bind fun r7 =>
      (pX6_daysLeft r7).bind fun r9 =>
      (pX6_letDrawnDaysGo r7 V2 (if r9 < (10 : Int32) then r9 else (10 : Int32)) (l3 + l5)).bind fun r11 =>
      (pX6_isNest r11 l1).bind fun r13 =>
      if r13 = 0 then
        (pX10_odds_l27  V0 V2 V3 l1 l2 l3 n) l4 (l5 + (1 : Int32)) r11
      else
        (pX10_odds_l27  V0 V2 V3 l1 l2 l3 n) (l4 + (1 : Int32)) (l5 + (1 : Int32)) r11
def pX10_odds (V0 : Ob) (V2 : Ob) (V13 : Ob) (V3 : Ob)  (a : Int32) (b : Int32) (c : Int32) : Option (Int32 × Ob) :=
  (pX10_isPerson V0 V2 a).bind fun r1 =>
  if r1 = 0 then
    some ((-1 : Int32), V13)
  else
    if b < (1 : Int32) then
      some ((-1 : Int32), V13)
    else
      if b ≤ (30 : Int32) then
        (pX10_odds_l27 V0 V2 V3 a b c fu (0 : Int32) (0 : Int32) V13).bind fun r16 =>
        some (r16.1, r16.2)
      else
        some ((-1 : Int32), V13)
def pX10_book_j128 (V0 : Ob) (V9 : Ob) (V1 : Ob) (V2 : Ob) (V13 : Ob) (V3 : Ob) (V5 : Ob) (K : (Nat → Ob)) : Option (Int32 × Ob × Ob × Ob × Ob × Ob × Ob × (Nat → Ob)) :=
  if oI V9 5 = 0 then
    some ((-1 : Int32), V0, V9, V1, V13, V3, V5, K)
  else
    some (oI V9 6, V0, V9, V1, V13, V3, V5, K)
def pX10_book (V0 : Ob) (V9 : Ob) (V1 : Ob) (V2 : Ob) (V13 : Ob) (V3 : Ob) (V5 : Ob) (K : (Nat → Ob))  (a : Int32) : Option (Int32 × Ob × Ob × Ob × Ob × Ob × Ob × (Nat → Ob)) :=
  if a < 0 then
    some ((-1000 : Int32), V0, V9, V1, V13, V3, V5, K)
  else
    if a ≤ (1 : Int32) then
      (pX0_readFrom V9 V1 V2).bind fun r3 =>
      if oI (sI V0 12 (oI (sI r3.2 1 (0 : Int32)) 9)) 12 = 0 then
        (pX6_copyFrom V13 V3).bind fun r6 =>
        (pX0_live r3.1 V2 r6).bind fun r8 =>
        if a = (1 : Int32) then
          if oI r8.1 6 ≤ 0 then
            pX10_book_j128 (sI V0 12 (oI (sI r3.2 1 (0 : Int32)) 9)) r8.1 (sI r3.2 1 (0 : Int32)) V2 r8.2 V3 V5 K
          else
            (pX2_keep V5 V3 K).bind fun r13 =>
            (pX6_copyFrom V3 r8.2).bind fun r15 =>
            pX10_book_j128 (sI V0 12 (oI (sI r3.2 1 (0 : Int32)) 9)) r8.1 (sI r3.2 1 (0 : Int32)) V2 r8.2 r15 r13.1 r13.2
        else
          pX10_book_j128 (sI V0 12 (oI (sI r3.2 1 (0 : Int32)) 9)) r8.1 (sI r3.2 1 (0 : Int32)) V2 r8.2 V3 V5 K
      else
        some ((-2 : Int32) - (oI (sI r3.2 1 (0 : Int32)) 10), sI V0 12 (oI (sI r3.2 1 (0 : Int32)) 9), r3.1, sI r3.2 1 (0 : Int32), V13, V3, V5, K)
    else
      some ((-1000 : Int32), V0, V9, V1, V13, V3, V5, K)
def pX10_told (V0 : Ob) (V9 : Ob)  (a : Int32) : Option (Int32) :=
  if oI V9 4 = 0 then
    some (-1 : Int32)
  else
    if a = (0 : Int32) then
      some (oI V9 5)
    else
    if a = (1 : Int32) then
      some (oI V9 6)
    else
    if a = (2 : Int32) then
      some (oI V9 7)
    else
    if a = (3 : Int32) then
      some (oI V9 8)
    else
      some (-1 : Int32)
def pX10_sentence (V0 : Ob) (V12 : Ob) (V1 : Ob) (V2 : Ob) (V4 : Ob)   : Option (Int32 × Ob × Ob × Ob × Ob) :=
  (pX5_readFrom V12 V1 V2).bind fun r1 =>
  if oI (sI V0 12 (oI (sI r1.2 1 (0 : Int32)) 9)) 12 = 0 then
    (pX5_copyFrom V4 r1.1).bind fun r4 =>
    some (oI r4 4, sI V0 12 (oI (sI r1.2 1 (0 : Int32)) 9), r1.1, sI r1.2 1 (0 : Int32), r4)
  else
    some ((-1 : Int32) - (oI (sI r1.2 1 (0 : Int32)) 10), sI V0 12 (oI (sI r1.2 1 (0 : Int32)) 9), r1.1, sI r1.2 1 (0 : Int32), V4)
def pX10_said_l21 (V0 : Ob) (V4 : Ob) (V2 : Ob) (V3 : Ob) (l1 : Int32) : Nat → Int32 → Int32 → Option (Int32)
  | 0, _, _ => none
  | n + 1, l2, l3 =>
    if oI V2 4 ≤ l3 then
      if l1 = (-1 : Int32) then
        some l2
      else
        some (-1 : Int32)
    else
      (pX5_isTrueOf V4 V2 V3 l3).bind fun r5 =>
      if r5 = 0 then
        (pX10_said_l21  V0 V4 V2 V3 l1 n) l2 (l3 + (1 : Int32))
      else
        if l2 = l1 then
          some l3
        else
          (pX10_said_l21  V0 V4 V2 V3 l1 n) (l2 + (1 : Int32)) (l3 + (1 : Int32))
def pX10_said (V0 : Ob) (V4 : Ob) (V2 : Ob) (V3 : Ob)  (a : Int32) : Option (Int32) :=
  if oI V4 4 = 0 then
    some (-1 : Int32)
  else
    if (-1 : Int32) ≤ a then
      pX10_said_l21 V0 V4 V2 V3 a fu (0 : Int32) (0 : Int32)
    else
      some (-1 : Int32)
def pX10_image (V0 : Ob) (IM : (Nat → Ob)) (IQ : (Nat → Ob)) (IS : (Nat → Ob)) (IN : (Nat → Ob)) (V2 : Ob) (V3 : Ob) (V4 : Ob)  (a : Int32) : Option (Int32 × (Nat → Ob) × (Nat → Ob) × (Nat → Ob) × (Nat → Ob)) :=
  if a < 0 then
    some ((0 : Int32), IM, IQ, IS, IN)
  else
    if (2 : Int32) ≤ a then
      some ((0 : Int32), IM, IQ, IS, IN)
    else
      gd (inB a 2) (
        gd (inB a 2) (
          (pX1_keep (IM a.toNatClampNeg) V2 V3 V4 (IQ a.toNatClampNeg) (IS a.toNatClampNeg) (IN a.toNatClampNeg)).bind fun r7 =>
          some ((1 : Int32), va_up IM a.toNatClampNeg r7.1, va_up IQ a.toNatClampNeg r7.2.1, va_up IS a.toNatClampNeg r7.2.2.1, va_up IN a.toNatClampNeg r7.2.2.2)))
def pX10_restore (V0 : Ob) (IM : (Nat → Ob)) (IQ : (Nat → Ob)) (IS : (Nat → Ob)) (IN : (Nat → Ob)) (V2 : Ob) (V3 : Ob) (V4 : Ob) (V5 : Ob)  (a : Int32) : Option (Int32 × Ob × Ob × Ob × Ob) :=
  if a < 0 then
    some ((0 : Int32), V2, V3, V4, V5)
  else
    if (2 : Int32) ≤ a then
      some ((0 : Int32), V2, V3, V4, V5)
    else
      gd (inB a 2) (
        gd (inB a 2) (
          if oI (IM a.toNatClampNeg) 3 = 0 then
            some ((0 : Int32), V2, V3, V4, V5)
          else
            gd (inB a 2) (
              (pX1_bringBack (IM a.toNatClampNeg) V2 V3 V4 (IQ a.toNatClampNeg) (IS a.toNatClampNeg) (IN a.toNatClampNeg)).bind fun r9 =>
              (pX2_forget V5).bind fun r11 =>
              some ((1 : Int32), r9.1, r9.2.1, r9.2.2, r11))))
def pX10_count (V0 : Ob) (V1 : Ob) (V2 : Ob)  (a : Int32) : Option (Int32) :=
  if a = (0 : Int32) then
    some (oI V2 0)
  else
  if a = (1 : Int32) then
    some (oI V2 4)
  else
  if a = (2 : Int32) then
    some (oI V2 7)
  else
  if a = (3 : Int32) then
    some (oI V2 11)
  else
  if a = (4 : Int32) then
    some (oI V2 14)
  else
  if a = (5 : Int32) then
    some (oI V1 1)
  else
    some (-1 : Int32)
