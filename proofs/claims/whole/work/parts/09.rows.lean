theorem cb_m2 : (Int8.ofInt (-2)).toInt32 = (-2 : Int32) := by decide
theorem cb_6 : (Int8.ofInt (6)).toInt32 = (6 : Int32) := by decide
theorem cb_7 : (Int8.ofInt (7)).toInt32 = (7 : Int32) := by decide
theorem cb_8 : (Int8.ofInt (8)).toInt32 = (8 : Int32) := by decide
theorem cb_9 : (Int8.ofInt (9)).toInt32 = (9 : Int32) := by decide
theorem cb_10 : (Int8.ofInt (10)).toInt32 = (10 : Int32) := by decide
theorem cb_12 : (Int8.ofInt (12)).toInt32 = (12 : Int32) := by decide
theorem cb_13 : (Int8.ofInt (13)).toInt32 = (13 : Int32) := by decide
theorem cb_14 : (Int8.ofInt (14)).toInt32 = (14 : Int32) := by decide
theorem cb_16 : (Int8.ofInt (16)).toInt32 = (16 : Int32) := by decide
theorem cb_18 : (Int8.ofInt (18)).toInt32 = (18 : Int32) := by decide
theorem cb_20 : (Int8.ofInt (20)).toInt32 = (20 : Int32) := by decide
theorem cb_21 : (Int8.ofInt (21)).toInt32 = (21 : Int32) := by decide
theorem cb_22 : (Int8.ofInt (22)).toInt32 = (22 : Int32) := by decide
theorem cb_23 : (Int8.ofInt (23)).toInt32 = (23 : Int32) := by decide
theorem cb_24 : (Int8.ofInt (24)).toInt32 = (24 : Int32) := by decide
theorem cb_26 : (Int8.ofInt (26)).toInt32 = (26 : Int32) := by decide
theorem cb_27 : (Int8.ofInt (27)).toInt32 = (27 : Int32) := by decide
theorem cb_30 : (Int8.ofInt (30)).toInt32 = (30 : Int32) := by decide
theorem cb_32 : (Int8.ofInt (32)).toInt32 = (32 : Int32) := by decide
theorem cb_33 : (Int8.ofInt (33)).toInt32 = (33 : Int32) := by decide
theorem cb_40 : (Int8.ofInt (40)).toInt32 = (40 : Int32) := by decide
theorem cb_41 : (Int8.ofInt (41)).toInt32 = (41 : Int32) := by decide
theorem cb_48 : (Int8.ofInt (48)).toInt32 = (48 : Int32) := by decide
theorem cb_56 : (Int8.ofInt (56)).toInt32 = (56 : Int32) := by decide
theorem cb_57 : (Int8.ofInt (57)).toInt32 = (57 : Int32) := by decide
theorem cb_59 : (Int8.ofInt (59)).toInt32 = (59 : Int32) := by decide
theorem cb_60 : (Int8.ofInt (60)).toInt32 = (60 : Int32) := by decide
theorem cb_61 : (Int8.ofInt (61)).toInt32 = (61 : Int32) := by decide
theorem cb_62 : (Int8.ofInt (62)).toInt32 = (62 : Int32) := by decide
theorem cb_63 : (Int8.ofInt (63)).toInt32 = (63 : Int32) := by decide
theorem cb_79 : (Int8.ofInt (79)).toInt32 = (79 : Int32) := by decide
theorem cb_81 : (Int8.ofInt (81)).toInt32 = (81 : Int32) := by decide
theorem cb_88 : (Int8.ofInt (88)).toInt32 = (88 : Int32) := by decide
theorem cb_93 : (Int8.ofInt (93)).toInt32 = (93 : Int32) := by decide
theorem cb_97 : (Int8.ofInt (97)).toInt32 = (97 : Int32) := by decide
theorem cb_99 : (Int8.ofInt (99)).toInt32 = (99 : Int32) := by decide
theorem cb_105 : (Int8.ofInt (105)).toInt32 = (105 : Int32) := by decide
theorem cb_117 : (Int8.ofInt (117)).toInt32 = (117 : Int32) := by decide
theorem cb_121 : (Int8.ofInt (121)).toInt32 = (121 : Int32) := by decide
theorem cb_122 : (Int8.ofInt (122)).toInt32 = (122 : Int32) := by decide
theorem cb_123 : (Int8.ofInt (123)).toInt32 = (123 : Int32) := by decide
theorem cb_124 : (Int8.ofInt (124)).toInt32 = (124 : Int32) := by decide
theorem cb_125 : (Int8.ofInt (125)).toInt32 = (125 : Int32) := by decide
theorem cb_127 : (Int8.ofInt (127)).toInt32 = (127 : Int32) := by decide
theorem ci_m8 : Int32.ofInt (-8) = (-8 : Int32) := by decide
theorem ci_m1 : Int32.ofInt (-1) = (-1 : Int32) := by decide
theorem ci_0 : Int32.ofInt (0) = (0 : Int32) := by decide
theorem ci_1 : Int32.ofInt (1) = (1 : Int32) := by decide
theorem ci_2 : Int32.ofInt (2) = (2 : Int32) := by decide
theorem ci_3 : Int32.ofInt (3) = (3 : Int32) := by decide
theorem ci_4 : Int32.ofInt (4) = (4 : Int32) := by decide
theorem ci_5 : Int32.ofInt (5) = (5 : Int32) := by decide
theorem cs_m1000 : (Int16.ofInt (-1000)).toInt32 = (-1000 : Int32) := by decide
theorem cs_131 : (Int16.ofInt (131)).toInt32 = (131 : Int32) := by decide
theorem cs_179 : (Int16.ofInt (179)).toInt32 = (179 : Int32) := by decide
theorem cs_185 : (Int16.ofInt (185)).toInt32 = (185 : Int32) := by decide
theorem cs_193 : (Int16.ofInt (193)).toInt32 = (193 : Int32) := by decide
theorem cs_197 : (Int16.ofInt (197)).toInt32 = (197 : Int32) := by decide
theorem cs_200 : (Int16.ofInt (200)).toInt32 = (200 : Int32) := by decide
theorem cs_201 : (Int16.ofInt (201)).toInt32 = (201 : Int32) := by decide
theorem cs_209 : (Int16.ofInt (209)).toInt32 = (209 : Int32) := by decide
theorem cs_210 : (Int16.ofInt (210)).toInt32 = (210 : Int32) := by decide
theorem cs_255 : (Int16.ofInt (255)).toInt32 = (255 : Int32) := by decide
theorem cs_390 : (Int16.ofInt (390)).toInt32 = (390 : Int32) := by decide
theorem cs_400 : (Int16.ofInt (400)).toInt32 = (400 : Int32) := by decide
theorem cs_616 : (Int16.ofInt (616)).toInt32 = (616 : Int32) := by decide
theorem cs_900 : (Int16.ofInt (900)).toInt32 = (900 : Int32) := by decide
theorem cs_940 : (Int16.ofInt (940)).toInt32 = (940 : Int32) := by decide
theorem cs_999 : (Int16.ofInt (999)).toInt32 = (999 : Int32) := by decide
theorem cs_1024 : (Int16.ofInt (1024)).toInt32 = (1024 : Int32) := by decide
theorem cs_12345 : (Int16.ofInt (12345)).toInt32 = (12345 : Int32) := by decide
theorem ib_0_4 : inB (0 : Int32) 4 = true := by decide +kernel
theorem ib_0_45 : inB (0 : Int32) 45 = true := by decide +kernel
theorem ib_0_121 : inB (0 : Int32) 121 = true := by decide +kernel
theorem ib_0_390 : inB (0 : Int32) 390 = true := by decide +kernel
theorem ib_0_1024 : inB (0 : Int32) 1024 = true := by decide +kernel
theorem ib_1_4 : inB (1 : Int32) 4 = true := by decide +kernel
theorem ib_1_121 : inB (1 : Int32) 121 = true := by decide +kernel
theorem ib_1_390 : inB (1 : Int32) 390 = true := by decide +kernel
theorem ib_2_4 : inB (2 : Int32) 4 = true := by decide +kernel
theorem ib_2_121 : inB (2 : Int32) 121 = true := by decide +kernel
theorem ib_2_390 : inB (2 : Int32) 390 = true := by decide +kernel
theorem ib_3_4 : inB (3 : Int32) 4 = true := by decide +kernel
theorem ib_3_121 : inB (3 : Int32) 121 = true := by decide +kernel
theorem ib_3_390 : inB (3 : Int32) 390 = true := by decide +kernel
theorem ib_4_121 : inB (4 : Int32) 121 = true := by decide +kernel
theorem ib_4_390 : inB (4 : Int32) 390 = true := by decide +kernel
theorem ib_121_390 : inB (121 : Int32) 390 = true := by decide +kernel
theorem ib_122_390 : inB (122 : Int32) 390 = true := by decide +kernel
theorem ib_123_390 : inB (123 : Int32) 390 = true := by decide +kernel
theorem ib_124_390 : inB (124 : Int32) 390 = true := by decide +kernel
theorem ib_209_390 : inB (209 : Int32) 390 = true := by decide +kernel
theorem inX0 : ∀ w ∈ u_ws RX0 TX0 9, w ∈ gw := gw_in [479, 481, 483, 485, 487, 489, 491, 493, 495] (by decide +kernel) (by decide +kernel)
theorem inX1 : ∀ w ∈ u_ws RX1 TX1 4, w ∈ gw := gw_in [421, 423, 425, 427] (by decide +kernel) (by decide +kernel)
theorem inX2 : ∀ w ∈ u_ws RX2 TX2 3, w ∈ gw := gw_in [396, 398, 400] (by decide +kernel) (by decide +kernel)
theorem inX3 : ∀ w ∈ u_ws RX3 TX3 7, w ∈ gw := gw_in [443, 445, 447, 449, 451, 453, 455] (by decide +kernel) (by decide +kernel)
theorem inX4 : ∀ w ∈ u_ws RX4 TX4 16, w ∈ gw := gw_in [259, 261, 263, 265, 267, 269, 271, 273, 275, 277, 279, 281, 283, 285, 287, 289] (by decide +kernel) (by decide +kernel)
theorem inX5 : ∀ w ∈ u_ws RX5 TX5 5, w ∈ gw := gw_in [373, 375, 377, 379, 381] (by decide +kernel) (by decide +kernel)
theorem inX6 : ∀ w ∈ u_ws RX6 TX6 13, w ∈ gw := gw_in [332, 334, 336, 338, 340, 342, 344, 346, 348, 350, 352, 354, 356] (by decide +kernel) (by decide +kernel)
theorem inX7 : ∀ w ∈ u_ws RX7 TX7 2, w ∈ gw := gw_in [508, 510] (by decide +kernel) (by decide +kernel)
theorem inX8 : ∀ w ∈ u_ws RX8 TX8 11, w ∈ gw := gw_in [171, 173, 175, 177, 179, 181, 183, 185, 187, 189, 191] (by decide +kernel) (by decide +kernel)
theorem inX10 : ∀ w ∈ u_ws RX10 TX10 16, w ∈ gw := gw_in [529, 531, 533, 535, 537, 539, 541, 543, 545, 547, 549, 551, 553, 555, 557, 559] (by decide +kernel) (by decide +kernel)
theorem inX11 : ∀ w ∈ u_ws RX11 TX11 49, w ∈ gw := gw_in [1430, 1432, 1434, 1436, 1438, 1440, 1442, 1444, 1446, 1448, 1450, 1452, 1454, 1456, 1458, 1460, 1462, 1464, 1466, 1468, 1470, 1472, 1474, 1476, 1478, 1480, 1482, 1484, 1486, 1488, 1490, 1492, 1494, 1496, 1498, 1500, 1502, 1504, 1506, 1508, 1510, 1512, 1514, 1516, 1518, 1520, 1522, 1524, 1526] (by decide +kernel) (by decide +kernel)
theorem wc_RX6_161 : Cond.constant RX6 161 (1103515245) ∈ gw := gw_at 1049 (by decide +kernel) rfl
theorem wc_RX11_396 : Cond.constant RX11 396 (1103515245) ∈ gw := gw_at 1896 (by decide +kernel) rfl
theorem wc_RJ6_265 : Cond.constant RJ6 265 (1431655765) ∈ gw := gw_at 922 (by decide +kernel) rfl
theorem wc_RJ6_266 : Cond.constant RJ6 266 (858993459) ∈ gw := gw_at 923 (by decide +kernel) rfl
theorem wc_RJ6_267 : Cond.constant RJ6 267 (252645135) ∈ gw := gw_at 924 (by decide +kernel) rfl
theorem wc_RX7_61 : Cond.constantLong RX7 61 (255) ∈ gw := gw_at 1017 (by decide +kernel) rfl
theorem wc_RX11_87 : Cond.constantLong RX11 87 (499967946343) ∈ gw := gw_at 1355 (by decide +kernel) rfl
theorem wc_RX11_89 : Cond.constantLong RX11 89 (123581014175598) ∈ gw := gw_at 1356 (by decide +kernel) rfl
theorem wc_RX11_91 : Cond.constantLong RX11 91 (109270232688756) ∈ gw := gw_at 1357 (by decide +kernel) rfl
theorem wc_RX11_93 : Cond.constantLong RX11 93 (431131028601) ∈ gw := gw_at 1358 (by decide +kernel) rfl
theorem wc_RX11_95 : Cond.constantLong RX11 95 (6448484) ∈ gw := gw_at 1359 (by decide +kernel) rfl
theorem wc_RX11_97 : Cond.constantLong RX11 97 (1668246882) ∈ gw := gw_at 1360 (by decide +kernel) rfl
theorem wc_RX11_99 : Cond.constantLong RX11 99 (126943973305189) ∈ gw := gw_at 1361 (by decide +kernel) rfl
theorem wc_RX11_101 : Cond.constantLong RX11 101 (6518132) ∈ gw := gw_at 1362 (by decide +kernel) rfl
theorem wc_RX11_103 : Cond.constantLong RX11 103 (27973175206241651) ∈ gw := gw_at 1363 (by decide +kernel) rfl
theorem wc_RX11_105 : Cond.constantLong RX11 105 (495875090022) ∈ gw := gw_at 1364 (by decide +kernel) rfl
theorem wc_RX11_107 : Cond.constantLong RX11 107 (6578553) ∈ gw := gw_at 1365 (by decide +kernel) rfl
theorem wc_RX11_109 : Cond.constantLong RX11 109 (28530) ∈ gw := gw_at 1366 (by decide +kernel) rfl
theorem wc_RX11_111 : Cond.constantLong RX11 111 (6385252) ∈ gw := gw_at 1367 (by decide +kernel) rfl
theorem wc_RX11_113 : Cond.constantLong RX11 113 (7237492) ∈ gw := gw_at 1368 (by decide +kernel) rfl
theorem wc_RX11_115 : Cond.constantLong RX11 115 (1650553445) ∈ gw := gw_at 1369 (by decide +kernel) rfl
theorem wc_RX11_117 : Cond.constantLong RX11 117 (1852142452) ∈ gw := gw_at 1370 (by decide +kernel) rfl
theorem wc_RX11_119 : Cond.constantLong RX11 119 (1936683621) ∈ gw := gw_at 1371 (by decide +kernel) rfl
theorem wc_RX11_121 : Cond.constantLong RX11 121 (6840691) ∈ gw := gw_at 1372 (by decide +kernel) rfl
theorem wc_RX11_123 : Cond.constantLong RX11 123 (1818848101) ∈ gw := gw_at 1373 (by decide +kernel) rfl
theorem wc_RX11_125 : Cond.constantLong RX11 125 (461414298739) ∈ gw := gw_at 1374 (by decide +kernel) rfl
theorem wc_RX11_127 : Cond.constantLong RX11 127 (1885432174) ∈ gw := gw_at 1375 (by decide +kernel) rfl
theorem wc_RX11_129 : Cond.constantLong RX11 129 (121450625394034) ∈ gw := gw_at 1376 (by decide +kernel) rfl
theorem wc_RX11_381 : Cond.constantLong RX11 381 (255) ∈ gw := gw_at 1867 (by decide +kernel) rfl
theorem wf_RX10_10 : Cond.fieldLink RX10 10 RX10 "tape" "LCombedOut$Tape;" ∈ gw := gw_at 513 (by decide +kernel) rfl
theorem gf_RX10_10 {cc : ByteArray} {fr lo nL : Nat} {G : Wc} {Γ : Cx} {us : List (Nat × Ob)} {pc : Nat} {L : List (Nat × Value)} {st : List Value} {u : Nat} {S : Ob} (i : Nat) (hu : us[i]? = some (u, S)) (hk : kd u = 9) (d : decode cc pc = .ok (.getfield 10, 3)) (kk : V cc RX10 fr lo nL G Γ us (pc + 3) L (.ref (wA G 1 0) :: st)) : V cc RX10 fr lo nL G Γ us pc L (.ref (wA G u 0) :: st) :=
  V_get (T := TX10) 0 i (Or.inl wf_RX10_10) inX10 rfl (by decide) rfl hu hk (by decide) rfl rfl d kk
theorem wf_RX10_19 : Cond.fieldLink RX10 19 RX10 "quarter" "LCombedOut$Quarter;" ∈ gw := gw_at 514 (by decide +kernel) rfl
theorem gf_RX10_19 {cc : ByteArray} {fr lo nL : Nat} {G : Wc} {Γ : Cx} {us : List (Nat × Ob)} {pc : Nat} {L : List (Nat × Value)} {st : List Value} {u : Nat} {S : Ob} (i : Nat) (hu : us[i]? = some (u, S)) (hk : kd u = 9) (d : decode cc pc = .ok (.getfield 19, 3)) (kk : V cc RX10 fr lo nL G Γ us (pc + 3) L (.ref (wA G 2 0) :: st)) : V cc RX10 fr lo nL G Γ us pc L (.ref (wA G u 0) :: st) :=
  V_get (T := TX10) 1 i (Or.inl wf_RX10_19) inX10 rfl (by decide) rfl hu hk (by decide) rfl rfl d kk
theorem wf_RX10_26 : Cond.fieldLink RX10 26 RX10 "state" "LCombedOut$State;" ∈ gw := gw_at 515 (by decide +kernel) rfl
theorem gf_RX10_26 {cc : ByteArray} {fr lo nL : Nat} {G : Wc} {Γ : Cx} {us : List (Nat × Ob)} {pc : Nat} {L : List (Nat × Value)} {st : List Value} {u : Nat} {S : Ob} (i : Nat) (hu : us[i]? = some (u, S)) (hk : kd u = 9) (d : decode cc pc = .ok (.getfield 26, 3)) (kk : V cc RX10 fr lo nL G Γ us (pc + 3) L (.ref (wA G 3 0) :: st)) : V cc RX10 fr lo nL G Γ us pc L (.ref (wA G u 0) :: st) :=
  V_get (T := TX10) 2 i (Or.inl wf_RX10_26) inX10 rfl (by decide) rfl hu hk (by decide) rfl rfl d kk
theorem wf_RX10_33 : Cond.fieldLink RX10 33 RX10 "sentence" "LCombedOut$Sentence;" ∈ gw := gw_at 516 (by decide +kernel) rfl
theorem gf_RX10_33 {cc : ByteArray} {fr lo nL : Nat} {G : Wc} {Γ : Cx} {us : List (Nat × Ob)} {pc : Nat} {L : List (Nat × Value)} {st : List Value} {u : Nat} {S : Ob} (i : Nat) (hu : us[i]? = some (u, S)) (hk : kd u = 9) (d : decode cc pc = .ok (.getfield 33, 3)) (kk : V cc RX10 fr lo nL G Γ us (pc + 3) L (.ref (wA G 4 0) :: st)) : V cc RX10 fr lo nL G Γ us pc L (.ref (wA G u 0) :: st) :=
  V_get (T := TX10) 3 i (Or.inl wf_RX10_33) inX10 rfl (by decide) rfl hu hk (by decide) rfl rfl d kk
theorem wf_RX10_40 : Cond.fieldLink RX10 40 RX10 "past" "LCombedOut$Past;" ∈ gw := gw_at 517 (by decide +kernel) rfl
theorem gf_RX10_40 {cc : ByteArray} {fr lo nL : Nat} {G : Wc} {Γ : Cx} {us : List (Nat × Ob)} {pc : Nat} {L : List (Nat × Value)} {st : List Value} {u : Nat} {S : Ob} (i : Nat) (hu : us[i]? = some (u, S)) (hk : kd u = 9) (d : decode cc pc = .ok (.getfield 40, 3)) (kk : V cc RX10 fr lo nL G Γ us (pc + 3) L (.ref (wA G 5 0) :: st)) : V cc RX10 fr lo nL G Γ us pc L (.ref (wA G u 0) :: st) :=
  V_get (T := TX10) 4 i (Or.inl wf_RX10_40) inX10 rfl (by decide) rfl hu hk (by decide) rfl rfl d kk
theorem wf_RX10_46 : Cond.fieldLink RX10 46 RX10 "images" "[LCombedOut$Image;" ∈ gw := gw_at 518 (by decide +kernel) rfl
theorem gf_RX10_46 {cc : ByteArray} {fr lo nL : Nat} {G : Wc} {Γ : Cx} {us : List (Nat × Ob)} {pc : Nat} {L : List (Nat × Value)} {st : List Value} {u : Nat} {S : Ob} (i : Nat) (hu : us[i]? = some (u, S)) (hk : kd u = 9) (d : decode cc pc = .ok (.getfield 46, 3)) (kk : V cc RX10 fr lo nL G Γ us (pc + 3) L (.ref (wA G u 6) :: st)) : V cc RX10 fr lo nL G Γ us pc L (.ref (wA G u 0) :: st) :=
  V_get (T := TX10) 5 i (Or.inl wf_RX10_46) inX10 rfl (by decide) rfl hu hk (by decide) rfl rfl d kk
theorem wf_RX10_54 : Cond.fieldLink RX10 54 RX10 "plans" "LCombedOut$Plans;" ∈ gw := gw_at 519 (by decide +kernel) rfl
theorem gf_RX10_54 {cc : ByteArray} {fr lo nL : Nat} {G : Wc} {Γ : Cx} {us : List (Nat × Ob)} {pc : Nat} {L : List (Nat × Value)} {st : List Value} {u : Nat} {S : Ob} (i : Nat) (hu : us[i]? = some (u, S)) (hk : kd u = 9) (d : decode cc pc = .ok (.getfield 54, 3)) (kk : V cc RX10 fr lo nL G Γ us (pc + 3) L (.ref (wA G 8 0) :: st)) : V cc RX10 fr lo nL G Γ us pc L (.ref (wA G u 0) :: st) :=
  V_get (T := TX10) 6 i (Or.inl wf_RX10_54) inX10 rfl (by decide) rfl hu hk (by decide) rfl rfl d kk
theorem wf_RX10_61 : Cond.fieldLink RX10 61 RX10 "book" "LCombedOut$Book;" ∈ gw := gw_at 520 (by decide +kernel) rfl
theorem gf_RX10_61 {cc : ByteArray} {fr lo nL : Nat} {G : Wc} {Γ : Cx} {us : List (Nat × Ob)} {pc : Nat} {L : List (Nat × Value)} {st : List Value} {u : Nat} {S : Ob} (i : Nat) (hu : us[i]? = some (u, S)) (hk : kd u = 9) (d : decode cc pc = .ok (.getfield 61, 3)) (kk : V cc RX10 fr lo nL G Γ us (pc + 3) L (.ref (wA G 9 0) :: st)) : V cc RX10 fr lo nL G Γ us pc L (.ref (wA G u 0) :: st) :=
  V_get (T := TX10) 7 i (Or.inl wf_RX10_61) inX10 rfl (by decide) rfl hu hk (by decide) rfl rfl d kk
theorem wf_RX10_68 : Cond.fieldLink RX10 68 RX10 "tag" "LCombedOut$Tag;" ∈ gw := gw_at 521 (by decide +kernel) rfl
theorem gf_RX10_68 {cc : ByteArray} {fr lo nL : Nat} {G : Wc} {Γ : Cx} {us : List (Nat × Ob)} {pc : Nat} {L : List (Nat × Value)} {st : List Value} {u : Nat} {S : Ob} (i : Nat) (hu : us[i]? = some (u, S)) (hk : kd u = 9) (d : decode cc pc = .ok (.getfield 68, 3)) (kk : V cc RX10 fr lo nL G Γ us (pc + 3) L (.ref (wA G 10 0) :: st)) : V cc RX10 fr lo nL G Γ us pc L (.ref (wA G u 0) :: st) :=
  V_get (T := TX10) 8 i (Or.inl wf_RX10_68) inX10 rfl (by decide) rfl hu hk (by decide) rfl rfl d kk
theorem wf_RX10_72 : Cond.fieldLink RX10 72 RX10 "draftQuarter" "LCombedOut$Quarter;" ∈ gw := gw_at 522 (by decide +kernel) rfl
theorem gf_RX10_72 {cc : ByteArray} {fr lo nL : Nat} {G : Wc} {Γ : Cx} {us : List (Nat × Ob)} {pc : Nat} {L : List (Nat × Value)} {st : List Value} {u : Nat} {S : Ob} (i : Nat) (hu : us[i]? = some (u, S)) (hk : kd u = 9) (d : decode cc pc = .ok (.getfield 72, 3)) (kk : V cc RX10 fr lo nL G Γ us (pc + 3) L (.ref (wA G 11 0) :: st)) : V cc RX10 fr lo nL G Γ us pc L (.ref (wA G u 0) :: st) :=
  V_get (T := TX10) 9 i (Or.inl wf_RX10_72) inX10 rfl (by decide) rfl hu hk (by decide) rfl rfl d kk
theorem wf_RX10_75 : Cond.fieldLink RX10 75 RX10 "draftSentence" "LCombedOut$Sentence;" ∈ gw := gw_at 523 (by decide +kernel) rfl
theorem gf_RX10_75 {cc : ByteArray} {fr lo nL : Nat} {G : Wc} {Γ : Cx} {us : List (Nat × Ob)} {pc : Nat} {L : List (Nat × Value)} {st : List Value} {u : Nat} {S : Ob} (i : Nat) (hu : us[i]? = some (u, S)) (hk : kd u = 9) (d : decode cc pc = .ok (.getfield 75, 3)) (kk : V cc RX10 fr lo nL G Γ us (pc + 3) L (.ref (wA G 12 0) :: st)) : V cc RX10 fr lo nL G Γ us pc L (.ref (wA G u 0) :: st) :=
  V_get (T := TX10) 10 i (Or.inl wf_RX10_75) inX10 rfl (by decide) rfl hu hk (by decide) rfl rfl d kk
theorem wf_RX10_78 : Cond.fieldLink RX10 78 RX10 "trial" "LCombedOut$State;" ∈ gw := gw_at 524 (by decide +kernel) rfl
theorem gf_RX10_78 {cc : ByteArray} {fr lo nL : Nat} {G : Wc} {Γ : Cx} {us : List (Nat × Ob)} {pc : Nat} {L : List (Nat × Value)} {st : List Value} {u : Nat} {S : Ob} (i : Nat) (hu : us[i]? = some (u, S)) (hk : kd u = 9) (d : decode cc pc = .ok (.getfield 78, 3)) (kk : V cc RX10 fr lo nL G Γ us (pc + 3) L (.ref (wA G 13 0) :: st)) : V cc RX10 fr lo nL G Γ us pc L (.ref (wA G u 0) :: st) :=
  V_get (T := TX10) 11 i (Or.inl wf_RX10_78) inX10 rfl (by decide) rfl hu hk (by decide) rfl rfl d kk
theorem wf_RX10_81 : Cond.fieldLink RX10 81 RX10 "fault" "I" ∈ gw := gw_at 525 (by decide +kernel) rfl
theorem gf_RX10_81 {cc : ByteArray} {fr lo nL : Nat} {G : Wc} {Γ : Cx} {us : List (Nat × Ob)} {pc : Nat} {L : List (Nat × Value)} {st : List Value} {u : Nat} {S : Ob} (i : Nat) (hu : us[i]? = some (u, S)) (hk : kd u = 9) (d : decode cc pc = .ok (.getfield 81, 3)) (kk : V cc RX10 fr lo nL G Γ us (pc + 3) L (.int (oI S 12) :: st)) : V cc RX10 fr lo nL G Γ us pc L (.ref (wA G u 0) :: st) :=
  V_get (T := TX10) 12 i (Or.inl wf_RX10_81) inX10 rfl (by decide) rfl hu hk (by decide) rfl rfl d kk
theorem pf_RX10_81 {cc : ByteArray} {fr lo nL : Nat} {G : Wc} {Γ : Cx} {us : List (Nat × Ob)} {pc : Nat} {L : List (Nat × Value)} {st : List Value} {u : Nat} {S : Ob} {v : Int32} (us1 : List (Nat × Ob)) (i : Nat) (hu : us[i]? = some (u, S)) (hk : kd u = 9) (hus : us.set i (u, sI S 12 v) = us1) (d : decode cc pc = .ok (.putfield 81, 3)) (kk : V cc RX10 fr lo nL G Γ us1 (pc + 3) L st) : V cc RX10 fr lo nL G Γ us pc L (.int v :: .ref (wA G u 0) :: st) :=
  V_put (T := TX10) (ty := .int) tyX10 12 i (Or.inl wf_RX10_81) inX10 tyX10_ok nmX10 rfl (by decide) rfl rfl (tyX10_ok 12 (by decide)) rfl rfl hu hk (by decide) rfl (Nat.le_of_ble_eq_true rfl) rfl hus d kk
theorem wf_RX10_85 : Cond.fieldLink RX10 85 RX10 "lastRounded" "I" ∈ gw := gw_at 526 (by decide +kernel) rfl
theorem gf_RX10_85 {cc : ByteArray} {fr lo nL : Nat} {G : Wc} {Γ : Cx} {us : List (Nat × Ob)} {pc : Nat} {L : List (Nat × Value)} {st : List Value} {u : Nat} {S : Ob} (i : Nat) (hu : us[i]? = some (u, S)) (hk : kd u = 9) (d : decode cc pc = .ok (.getfield 85, 3)) (kk : V cc RX10 fr lo nL G Γ us (pc + 3) L (.int (oI S 13) :: st)) : V cc RX10 fr lo nL G Γ us pc L (.ref (wA G u 0) :: st) :=
  V_get (T := TX10) 13 i (Or.inl wf_RX10_85) inX10 rfl (by decide) rfl hu hk (by decide) rfl rfl d kk
theorem pf_RX10_85 {cc : ByteArray} {fr lo nL : Nat} {G : Wc} {Γ : Cx} {us : List (Nat × Ob)} {pc : Nat} {L : List (Nat × Value)} {st : List Value} {u : Nat} {S : Ob} {v : Int32} (us1 : List (Nat × Ob)) (i : Nat) (hu : us[i]? = some (u, S)) (hk : kd u = 9) (hus : us.set i (u, sI S 13 v) = us1) (d : decode cc pc = .ok (.putfield 85, 3)) (kk : V cc RX10 fr lo nL G Γ us1 (pc + 3) L st) : V cc RX10 fr lo nL G Γ us pc L (.int v :: .ref (wA G u 0) :: st) :=
  V_put (T := TX10) (ty := .int) tyX10 13 i (Or.inl wf_RX10_85) inX10 tyX10_ok nmX10 rfl (by decide) rfl rfl (tyX10_ok 13 (by decide)) rfl rfl hu hk (by decide) rfl (Nat.le_of_ble_eq_true rfl) rfl hus d kk
theorem wf_RX10_88 : Cond.fieldLink RX10 88 RX10 "lastBedded" "I" ∈ gw := gw_at 527 (by decide +kernel) rfl
theorem gf_RX10_88 {cc : ByteArray} {fr lo nL : Nat} {G : Wc} {Γ : Cx} {us : List (Nat × Ob)} {pc : Nat} {L : List (Nat × Value)} {st : List Value} {u : Nat} {S : Ob} (i : Nat) (hu : us[i]? = some (u, S)) (hk : kd u = 9) (d : decode cc pc = .ok (.getfield 88, 3)) (kk : V cc RX10 fr lo nL G Γ us (pc + 3) L (.int (oI S 14) :: st)) : V cc RX10 fr lo nL G Γ us pc L (.ref (wA G u 0) :: st) :=
  V_get (T := TX10) 14 i (Or.inl wf_RX10_88) inX10 rfl (by decide) rfl hu hk (by decide) rfl rfl d kk
theorem pf_RX10_88 {cc : ByteArray} {fr lo nL : Nat} {G : Wc} {Γ : Cx} {us : List (Nat × Ob)} {pc : Nat} {L : List (Nat × Value)} {st : List Value} {u : Nat} {S : Ob} {v : Int32} (us1 : List (Nat × Ob)) (i : Nat) (hu : us[i]? = some (u, S)) (hk : kd u = 9) (hus : us.set i (u, sI S 14 v) = us1) (d : decode cc pc = .ok (.putfield 88, 3)) (kk : V cc RX10 fr lo nL G Γ us1 (pc + 3) L st) : V cc RX10 fr lo nL G Γ us pc L (.int v :: .ref (wA G u 0) :: st) :=
  V_put (T := TX10) (ty := .int) tyX10 14 i (Or.inl wf_RX10_88) inX10 tyX10_ok nmX10 rfl (by decide) rfl rfl (tyX10_ok 14 (by decide)) rfl rfl hu hk (by decide) rfl (Nat.le_of_ble_eq_true rfl) rfl hus d kk
theorem wf_RX10_91 : Cond.fieldLink RX10 91 RX10 "lastAsk" "I" ∈ gw := gw_at 528 (by decide +kernel) rfl
theorem gf_RX10_91 {cc : ByteArray} {fr lo nL : Nat} {G : Wc} {Γ : Cx} {us : List (Nat × Ob)} {pc : Nat} {L : List (Nat × Value)} {st : List Value} {u : Nat} {S : Ob} (i : Nat) (hu : us[i]? = some (u, S)) (hk : kd u = 9) (d : decode cc pc = .ok (.getfield 91, 3)) (kk : V cc RX10 fr lo nL G Γ us (pc + 3) L (.int (oI S 15) :: st)) : V cc RX10 fr lo nL G Γ us pc L (.ref (wA G u 0) :: st) :=
  V_get (T := TX10) 15 i (Or.inl wf_RX10_91) inX10 rfl (by decide) rfl hu hk (by decide) rfl rfl d kk
theorem pf_RX10_91 {cc : ByteArray} {fr lo nL : Nat} {G : Wc} {Γ : Cx} {us : List (Nat × Ob)} {pc : Nat} {L : List (Nat × Value)} {st : List Value} {u : Nat} {S : Ob} {v : Int32} (us1 : List (Nat × Ob)) (i : Nat) (hu : us[i]? = some (u, S)) (hk : kd u = 9) (hus : us.set i (u, sI S 15 v) = us1) (d : decode cc pc = .ok (.putfield 91, 3)) (kk : V cc RX10 fr lo nL G Γ us1 (pc + 3) L st) : V cc RX10 fr lo nL G Γ us pc L (.int v :: .ref (wA G u 0) :: st) :=
  V_put (T := TX10) (ty := .int) tyX10 15 i (Or.inl wf_RX10_91) inX10 tyX10_ok nmX10 rfl (by decide) rfl rfl (tyX10_ok 15 (by decide)) rfl rfl hu hk (by decide) rfl (Nat.le_of_ble_eq_true rfl) rfl hus d kk
theorem wf_RX10_94 : Cond.fieldLinkNest RX10 94 RX8 "length" "I" "CombedOut" ∈ lw_tbl := List.mem_of_getElem? (i := 151) (by decide +kernel)
theorem gf_RX10_94 {cc : ByteArray} {fr lo nL : Nat} {G : Wc} {Γ : Cx} {us : List (Nat × Ob)} {pc : Nat} {L : List (Nat × Value)} {st : List Value} {u : Nat} {S : Ob} (i : Nat) (hu : us[i]? = some (u, S)) (hk : kd u = 8) (d : decode cc pc = .ok (.getfield 94, 3)) (kk : V cc RX10 fr lo nL G Γ us (pc + 3) L (.int (oI S 1) :: st)) : V cc RX10 fr lo nL G Γ us pc L (.ref (wA G u 0) :: st) :=
  V_get (T := TX8) 1 i (Or.inr ⟨_, wf_RX10_94⟩) inX8 rfl (by decide) rfl hu hk (by decide) rfl rfl d kk
theorem pf_RX10_94 {cc : ByteArray} {fr lo nL : Nat} {G : Wc} {Γ : Cx} {us : List (Nat × Ob)} {pc : Nat} {L : List (Nat × Value)} {st : List Value} {u : Nat} {S : Ob} {v : Int32} (us1 : List (Nat × Ob)) (i : Nat) (hu : us[i]? = some (u, S)) (hk : kd u = 8) (hus : us.set i (u, sI S 1 v) = us1) (d : decode cc pc = .ok (.putfield 94, 3)) (kk : V cc RX10 fr lo nL G Γ us1 (pc + 3) L st) : V cc RX10 fr lo nL G Γ us pc L (.int v :: .ref (wA G u 0) :: st) :=
  V_put (T := TX8) (ty := .int) tyX8 1 i (Or.inr ⟨_, wf_RX10_94⟩) inX8 tyX8_ok nmX8 rfl (by decide) rfl rfl (tyX8_ok 1 (by decide)) rfl rfl hu hk (by decide) rfl (Nat.le_of_ble_eq_true rfl) rfl hus d kk
theorem wf_RX10_105 : Cond.fieldLinkNest RX10 105 RX8 "faultKind" "I" "CombedOut" ∈ lw_tbl := List.mem_of_getElem? (i := 168) (by decide +kernel)
theorem gf_RX10_105 {cc : ByteArray} {fr lo nL : Nat} {G : Wc} {Γ : Cx} {us : List (Nat × Ob)} {pc : Nat} {L : List (Nat × Value)} {st : List Value} {u : Nat} {S : Ob} (i : Nat) (hu : us[i]? = some (u, S)) (hk : kd u = 8) (d : decode cc pc = .ok (.getfield 105, 3)) (kk : V cc RX10 fr lo nL G Γ us (pc + 3) L (.int (oI S 9) :: st)) : V cc RX10 fr lo nL G Γ us pc L (.ref (wA G u 0) :: st) :=
  V_get (T := TX8) 9 i (Or.inr ⟨_, wf_RX10_105⟩) inX8 rfl (by decide) rfl hu hk (by decide) rfl rfl d kk
theorem wf_RX10_108 : Cond.fieldLinkNest RX10 108 RX8 "faultPlace" "I" "CombedOut" ∈ lw_tbl := List.mem_of_getElem? (i := 170) (by decide +kernel)
theorem gf_RX10_108 {cc : ByteArray} {fr lo nL : Nat} {G : Wc} {Γ : Cx} {us : List (Nat × Ob)} {pc : Nat} {L : List (Nat × Value)} {st : List Value} {u : Nat} {S : Ob} (i : Nat) (hu : us[i]? = some (u, S)) (hk : kd u = 8) (d : decode cc pc = .ok (.getfield 108, 3)) (kk : V cc RX10 fr lo nL G Γ us (pc + 3) L (.int (oI S 10) :: st)) : V cc RX10 fr lo nL G Γ us pc L (.ref (wA G u 0) :: st) :=
  V_get (T := TX8) 10 i (Or.inr ⟨_, wf_RX10_108⟩) inX8 rfl (by decide) rfl hu hk (by decide) rfl rfl d kk
theorem wf_RX10_133 : Cond.fieldLinkNest RX10 133 RX4 "bears" "[I" "CombedOut" ∈ lw_tbl := List.mem_of_getElem? (i := 230) (by decide +kernel)
theorem gf_RX10_133 {cc : ByteArray} {fr lo nL : Nat} {G : Wc} {Γ : Cx} {us : List (Nat × Ob)} {pc : Nat} {L : List (Nat × Value)} {st : List Value} {u : Nat} {S : Ob} (i : Nat) (hu : us[i]? = some (u, S)) (hk : kd u = 4) (d : decode cc pc = .ok (.getfield 133, 3)) (kk : V cc RX10 fr lo nL G Γ us (pc + 3) L (.ref (wA G u 7) :: st)) : V cc RX10 fr lo nL G Γ us pc L (.ref (wA G u 0) :: st) :=
  V_get (T := TX4) 6 i (Or.inr ⟨_, wf_RX10_133⟩) inX4 rfl (by decide) rfl hu hk (by decide) rfl rfl d kk
theorem wf_RX10_137 : Cond.fieldLinkNest RX10 137 RX6 "pains" "[I" "CombedOut" ∈ lw_tbl := List.mem_of_getElem? (i := 307) (by decide +kernel)
theorem gf_RX10_137 {cc : ByteArray} {fr lo nL : Nat} {G : Wc} {Γ : Cx} {us : List (Nat × Ob)} {pc : Nat} {L : List (Nat × Value)} {st : List Value} {u : Nat} {S : Ob} (i : Nat) (hu : us[i]? = some (u, S)) (hk : kd u = 6) (d : decode cc pc = .ok (.getfield 137, 3)) (kk : V cc RX10 fr lo nL G Γ us (pc + 3) L (.ref (wA G u 3) :: st)) : V cc RX10 fr lo nL G Γ us pc L (.ref (wA G u 0) :: st) :=
  V_get (T := TX6) 2 i (Or.inr ⟨_, wf_RX10_137⟩) inX6 rfl (by decide) rfl hu hk (by decide) rfl rfl d kk
theorem wf_RX10_140 : Cond.fieldLinkNest RX10 140 RX6 "heights" "[I" "CombedOut" ∈ lw_tbl := List.mem_of_getElem? (i := 303) (by decide +kernel)
theorem gf_RX10_140 {cc : ByteArray} {fr lo nL : Nat} {G : Wc} {Γ : Cx} {us : List (Nat × Ob)} {pc : Nat} {L : List (Nat × Value)} {st : List Value} {u : Nat} {S : Ob} (i : Nat) (hu : us[i]? = some (u, S)) (hk : kd u = 6) (d : decode cc pc = .ok (.getfield 140, 3)) (kk : V cc RX10 fr lo nL G Γ us (pc + 3) L (.ref (wA G u 2) :: st)) : V cc RX10 fr lo nL G Γ us pc L (.ref (wA G u 0) :: st) :=
  V_get (T := TX6) 1 i (Or.inr ⟨_, wf_RX10_140⟩) inX6 rfl (by decide) rfl hu hk (by decide) rfl rfl d kk
theorem wf_RX10_166 : Cond.fieldLinkNest RX10 166 RX4 "holds" "[I" "CombedOut" ∈ lw_tbl := List.mem_of_getElem? (i := 212) (by decide +kernel)
theorem gf_RX10_166 {cc : ByteArray} {fr lo nL : Nat} {G : Wc} {Γ : Cx} {us : List (Nat × Ob)} {pc : Nat} {L : List (Nat × Value)} {st : List Value} {u : Nat} {S : Ob} (i : Nat) (hu : us[i]? = some (u, S)) (hk : kd u = 4) (d : decode cc pc = .ok (.getfield 166, 3)) (kk : V cc RX10 fr lo nL G Γ us (pc + 3) L (.ref (wA G u 3) :: st)) : V cc RX10 fr lo nL G Γ us pc L (.ref (wA G u 0) :: st) :=
  V_get (T := TX4) 2 i (Or.inr ⟨_, wf_RX10_166⟩) inX4 rfl (by decide) rfl hu hk (by decide) rfl rfl d kk
theorem wf_RX10_169 : Cond.fieldLinkNest RX10 169 RX4 "springs" "[I" "CombedOut" ∈ lw_tbl := List.mem_of_getElem? (i := 216) (by decide +kernel)
theorem gf_RX10_169 {cc : ByteArray} {fr lo nL : Nat} {G : Wc} {Γ : Cx} {us : List (Nat × Ob)} {pc : Nat} {L : List (Nat × Value)} {st : List Value} {u : Nat} {S : Ob} (i : Nat) (hu : us[i]? = some (u, S)) (hk : kd u = 4) (d : decode cc pc = .ok (.getfield 169, 3)) (kk : V cc RX10 fr lo nL G Γ us (pc + 3) L (.ref (wA G u 4) :: st)) : V cc RX10 fr lo nL G Γ us pc L (.ref (wA G u 0) :: st) :=
  V_get (T := TX4) 3 i (Or.inr ⟨_, wf_RX10_169⟩) inX4 rfl (by decide) rfl hu hk (by decide) rfl rfl d kk
theorem wf_RX10_172 : Cond.fieldLinkNest RX10 172 RX6 "bag" "[I" "CombedOut" ∈ lw_tbl := List.mem_of_getElem? (i := 311) (by decide +kernel)
theorem gf_RX10_172 {cc : ByteArray} {fr lo nL : Nat} {G : Wc} {Γ : Cx} {us : List (Nat × Ob)} {pc : Nat} {L : List (Nat × Value)} {st : List Value} {u : Nat} {S : Ob} (i : Nat) (hu : us[i]? = some (u, S)) (hk : kd u = 6) (d : decode cc pc = .ok (.getfield 172, 3)) (kk : V cc RX10 fr lo nL G Γ us (pc + 3) L (.ref (wA G u 4) :: st)) : V cc RX10 fr lo nL G Γ us pc L (.ref (wA G u 0) :: st) :=
  V_get (T := TX6) 3 i (Or.inr ⟨_, wf_RX10_172⟩) inX6 rfl (by decide) rfl hu hk (by decide) rfl rfl d kk
theorem wf_RX10_184 : Cond.fieldLinkNest RX10 184 RX4 "needs" "[I" "CombedOut" ∈ lw_tbl := List.mem_of_getElem? (i := 251) (by decide +kernel)
theorem gf_RX10_184 {cc : ByteArray} {fr lo nL : Nat} {G : Wc} {Γ : Cx} {us : List (Nat × Ob)} {pc : Nat} {L : List (Nat × Value)} {st : List Value} {u : Nat} {S : Ob} (i : Nat) (hu : us[i]? = some (u, S)) (hk : kd u = 4) (d : decode cc pc = .ok (.getfield 184, 3)) (kk : V cc RX10 fr lo nL G Γ us (pc + 3) L (.ref (wA G u 14) :: st)) : V cc RX10 fr lo nL G Γ us pc L (.ref (wA G u 0) :: st) :=
  V_get (T := TX4) 13 i (Or.inr ⟨_, wf_RX10_184⟩) inX4 rfl (by decide) rfl hu hk (by decide) rfl rfl d kk
theorem wf_RX10_187 : Cond.fieldLinkNest RX10 187 RX6 "springs" "[I" "CombedOut" ∈ lw_tbl := List.mem_of_getElem? (i := 315) (by decide +kernel)
theorem gf_RX10_187 {cc : ByteArray} {fr lo nL : Nat} {G : Wc} {Γ : Cx} {us : List (Nat × Ob)} {pc : Nat} {L : List (Nat × Value)} {st : List Value} {u : Nat} {S : Ob} (i : Nat) (hu : us[i]? = some (u, S)) (hk : kd u = 6) (d : decode cc pc = .ok (.getfield 187, 3)) (kk : V cc RX10 fr lo nL G Γ us (pc + 3) L (.ref (wA G u 6) :: st)) : V cc RX10 fr lo nL G Γ us pc L (.ref (wA G u 0) :: st) :=
  V_get (T := TX6) 5 i (Or.inr ⟨_, wf_RX10_187⟩) inX6 rfl (by decide) rfl hu hk (by decide) rfl rfl d kk
theorem wf_RX10_192 : Cond.fieldLinkNest RX10 192 RX6 "fillings" "[I" "CombedOut" ∈ lw_tbl := List.mem_of_getElem? (i := 317) (by decide +kernel)
theorem gf_RX10_192 {cc : ByteArray} {fr lo nL : Nat} {G : Wc} {Γ : Cx} {us : List (Nat × Ob)} {pc : Nat} {L : List (Nat × Value)} {st : List Value} {u : Nat} {S : Ob} (i : Nat) (hu : us[i]? = some (u, S)) (hk : kd u = 6) (d : decode cc pc = .ok (.getfield 192, 3)) (kk : V cc RX10 fr lo nL G Γ us (pc + 3) L (.ref (wA G u 7) :: st)) : V cc RX10 fr lo nL G Γ us pc L (.ref (wA G u 0) :: st) :=
  V_get (T := TX6) 6 i (Or.inr ⟨_, wf_RX10_192⟩) inX6 rfl (by decide) rfl hu hk (by decide) rfl rfl d kk
theorem wf_RX10_195 : Cond.fieldLinkNest RX10 195 RX6 "day" "I" "CombedOut" ∈ lw_tbl := List.mem_of_getElem? (i := 324) (by decide +kernel)
theorem gf_RX10_195 {cc : ByteArray} {fr lo nL : Nat} {G : Wc} {Γ : Cx} {us : List (Nat × Ob)} {pc : Nat} {L : List (Nat × Value)} {st : List Value} {u : Nat} {S : Ob} (i : Nat) (hu : us[i]? = some (u, S)) (hk : kd u = 6) (d : decode cc pc = .ok (.getfield 195, 3)) (kk : V cc RX10 fr lo nL G Γ us (pc + 3) L (.int (oI S 8) :: st)) : V cc RX10 fr lo nL G Γ us pc L (.ref (wA G u 0) :: st) :=
  V_get (T := TX6) 8 i (Or.inr ⟨_, wf_RX10_195⟩) inX6 rfl (by decide) rfl hu hk (by decide) rfl rfl d kk
theorem wf_RX10_198 : Cond.fieldLinkNest RX10 198 RX6 "inBag" "I" "CombedOut" ∈ lw_tbl := List.mem_of_getElem? (i := 320) (by decide +kernel)
theorem gf_RX10_198 {cc : ByteArray} {fr lo nL : Nat} {G : Wc} {Γ : Cx} {us : List (Nat × Ob)} {pc : Nat} {L : List (Nat × Value)} {st : List Value} {u : Nat} {S : Ob} (i : Nat) (hu : us[i]? = some (u, S)) (hk : kd u = 6) (d : decode cc pc = .ok (.getfield 198, 3)) (kk : V cc RX10 fr lo nL G Γ us (pc + 3) L (.int (oI S 7) :: st)) : V cc RX10 fr lo nL G Γ us pc L (.ref (wA G u 0) :: st) :=
  V_get (T := TX6) 7 i (Or.inr ⟨_, wf_RX10_198⟩) inX6 rfl (by decide) rfl hu hk (by decide) rfl rfl d kk
theorem wf_RX10_208 : Cond.fieldLinkNest RX10 208 RX6 "strokes" "I" "CombedOut" ∈ lw_tbl := List.mem_of_getElem? (i := 326) (by decide +kernel)
theorem gf_RX10_208 {cc : ByteArray} {fr lo nL : Nat} {G : Wc} {Γ : Cx} {us : List (Nat × Ob)} {pc : Nat} {L : List (Nat × Value)} {st : List Value} {u : Nat} {S : Ob} (i : Nat) (hu : us[i]? = some (u, S)) (hk : kd u = 6) (d : decode cc pc = .ok (.getfield 208, 3)) (kk : V cc RX10 fr lo nL G Γ us (pc + 3) L (.int (oI S 9) :: st)) : V cc RX10 fr lo nL G Γ us pc L (.ref (wA G u 0) :: st) :=
  V_get (T := TX6) 9 i (Or.inr ⟨_, wf_RX10_208⟩) inX6 rfl (by decide) rfl hu hk (by decide) rfl rfl d kk
theorem wf_RX10_211 : Cond.fieldLinkNest RX10 211 RX6 "cuts" "I" "CombedOut" ∈ lw_tbl := List.mem_of_getElem? (i := 328) (by decide +kernel)
theorem gf_RX10_211 {cc : ByteArray} {fr lo nL : Nat} {G : Wc} {Γ : Cx} {us : List (Nat × Ob)} {pc : Nat} {L : List (Nat × Value)} {st : List Value} {u : Nat} {S : Ob} (i : Nat) (hu : us[i]? = some (u, S)) (hk : kd u = 6) (d : decode cc pc = .ok (.getfield 211, 3)) (kk : V cc RX10 fr lo nL G Γ us (pc + 3) L (.int (oI S 10) :: st)) : V cc RX10 fr lo nL G Γ us pc L (.ref (wA G u 0) :: st) :=
  V_get (T := TX6) 10 i (Or.inr ⟨_, wf_RX10_211⟩) inX6 rfl (by decide) rfl hu hk (by decide) rfl rfl d kk
theorem wf_RX10_214 : Cond.fieldLinkNest RX10 214 RX6 "lost" "I" "CombedOut" ∈ lw_tbl := List.mem_of_getElem? (i := 330) (by decide +kernel)
theorem gf_RX10_214 {cc : ByteArray} {fr lo nL : Nat} {G : Wc} {Γ : Cx} {us : List (Nat × Ob)} {pc : Nat} {L : List (Nat × Value)} {st : List Value} {u : Nat} {S : Ob} (i : Nat) (hu : us[i]? = some (u, S)) (hk : kd u = 6) (d : decode cc pc = .ok (.getfield 214, 3)) (kk : V cc RX10 fr lo nL G Γ us (pc + 3) L (.int (oI S 11) :: st)) : V cc RX10 fr lo nL G Γ us pc L (.ref (wA G u 0) :: st) :=
  V_get (T := TX6) 11 i (Or.inr ⟨_, wf_RX10_214⟩) inX6 rfl (by decide) rfl hu hk (by decide) rfl rfl d kk
theorem wf_RX10_283 : Cond.fieldLinkNest RX10 283 RX8 "bytes" "[I" "CombedOut" ∈ lw_tbl := List.mem_of_getElem? (i := 150) (by decide +kernel)
theorem gf_RX10_283 {cc : ByteArray} {fr lo nL : Nat} {G : Wc} {Γ : Cx} {us : List (Nat × Ob)} {pc : Nat} {L : List (Nat × Value)} {st : List Value} {u : Nat} {S : Ob} (i : Nat) (hu : us[i]? = some (u, S)) (hk : kd u = 8) (d : decode cc pc = .ok (.getfield 283, 3)) (kk : V cc RX10 fr lo nL G Γ us (pc + 3) L (.ref (wA G u 1) :: st)) : V cc RX10 fr lo nL G Γ us pc L (.ref (wA G u 0) :: st) :=
  V_get (T := TX8) 0 i (Or.inr ⟨_, wf_RX10_283⟩) inX8 rfl (by decide) rfl hu hk (by decide) rfl rfl d kk
theorem wf_RX10_286 : Cond.fieldLinkNest RX10 286 RX4 "persons" "I" "CombedOut" ∈ lw_tbl := List.mem_of_getElem? (i := 223) (by decide +kernel)
theorem gf_RX10_286 {cc : ByteArray} {fr lo nL : Nat} {G : Wc} {Γ : Cx} {us : List (Nat × Ob)} {pc : Nat} {L : List (Nat × Value)} {st : List Value} {u : Nat} {S : Ob} (i : Nat) (hu : us[i]? = some (u, S)) (hk : kd u = 4) (d : decode cc pc = .ok (.getfield 286, 3)) (kk : V cc RX10 fr lo nL G Γ us (pc + 3) L (.int (oI S 4) :: st)) : V cc RX10 fr lo nL G Γ us pc L (.ref (wA G u 0) :: st) :=
  V_get (T := TX4) 4 i (Or.inr ⟨_, wf_RX10_286⟩) inX4 rfl (by decide) rfl hu hk (by decide) rfl rfl d kk
theorem wf_RX10_308 : Cond.fieldLinkNest RX10 308 RX7 "size" "I" "CombedOut" ∈ lw_tbl := List.mem_of_getElem? (i := 507) (by decide +kernel)
theorem gf_RX10_308 {cc : ByteArray} {fr lo nL : Nat} {G : Wc} {Γ : Cx} {us : List (Nat × Ob)} {pc : Nat} {L : List (Nat × Value)} {st : List Value} {u : Nat} {S : Ob} (i : Nat) (hu : us[i]? = some (u, S)) (hk : kd u = 7) (d : decode cc pc = .ok (.getfield 308, 3)) (kk : V cc RX10 fr lo nL G Γ us (pc + 3) L (.int (oI S 1) :: st)) : V cc RX10 fr lo nL G Γ us pc L (.ref (wA G u 0) :: st) :=
  V_get (T := TX7) 1 i (Or.inr ⟨_, wf_RX10_308⟩) inX7 rfl (by decide) rfl hu hk (by decide) rfl rfl d kk
theorem wf_RX10_311 : Cond.fieldLinkNest RX10 311 RX7 "bytes" "[I" "CombedOut" ∈ lw_tbl := List.mem_of_getElem? (i := 505) (by decide +kernel)
theorem gf_RX10_311 {cc : ByteArray} {fr lo nL : Nat} {G : Wc} {Γ : Cx} {us : List (Nat × Ob)} {pc : Nat} {L : List (Nat × Value)} {st : List Value} {u : Nat} {S : Ob} (i : Nat) (hu : us[i]? = some (u, S)) (hk : kd u = 7) (d : decode cc pc = .ok (.getfield 311, 3)) (kk : V cc RX10 fr lo nL G Γ us (pc + 3) L (.ref (wA G u 1) :: st)) : V cc RX10 fr lo nL G Γ us pc L (.ref (wA G u 0) :: st) :=
  V_get (T := TX7) 0 i (Or.inr ⟨_, wf_RX10_311⟩) inX7 rfl (by decide) rfl hu hk (by decide) rfl rfl d kk
theorem wf_RX10_322 : Cond.fieldLinkNest RX10 322 RX0 "rightLines" "I" "CombedOut" ∈ lw_tbl := List.mem_of_getElem? (i := 474) (by decide +kernel)
theorem gf_RX10_322 {cc : ByteArray} {fr lo nL : Nat} {G : Wc} {Γ : Cx} {us : List (Nat × Ob)} {pc : Nat} {L : List (Nat × Value)} {st : List Value} {u : Nat} {S : Ob} (i : Nat) (hu : us[i]? = some (u, S)) (hk : kd u = 0) (d : decode cc pc = .ok (.getfield 322, 3)) (kk : V cc RX10 fr lo nL G Γ us (pc + 3) L (.int (oI S 6) :: st)) : V cc RX10 fr lo nL G Γ us pc L (.ref (wA G u 0) :: st) :=
  V_get (T := TX0) 6 i (Or.inr ⟨_, wf_RX10_322⟩) inX0 rfl (by decide) rfl hu hk (by decide) rfl rfl d kk
theorem wf_RX10_325 : Cond.fieldLinkNest RX10 325 RX0 "why" "I" "CombedOut" ∈ lw_tbl := List.mem_of_getElem? (i := 472) (by decide +kernel)
theorem gf_RX10_325 {cc : ByteArray} {fr lo nL : Nat} {G : Wc} {Γ : Cx} {us : List (Nat × Ob)} {pc : Nat} {L : List (Nat × Value)} {st : List Value} {u : Nat} {S : Ob} (i : Nat) (hu : us[i]? = some (u, S)) (hk : kd u = 0) (d : decode cc pc = .ok (.getfield 325, 3)) (kk : V cc RX10 fr lo nL G Γ us (pc + 3) L (.int (oI S 5) :: st)) : V cc RX10 fr lo nL G Γ us pc L (.ref (wA G u 0) :: st) :=
  V_get (T := TX0) 5 i (Or.inr ⟨_, wf_RX10_325⟩) inX0 rfl (by decide) rfl hu hk (by decide) rfl rfl d kk
theorem wf_RX10_328 : Cond.fieldLinkNest RX10 328 RX0 "wasLived" "Z" "CombedOut" ∈ lw_tbl := List.mem_of_getElem? (i := 470) (by decide +kernel)
theorem gf_RX10_328 {cc : ByteArray} {fr lo nL : Nat} {G : Wc} {Γ : Cx} {us : List (Nat × Ob)} {pc : Nat} {L : List (Nat × Value)} {st : List Value} {u : Nat} {S : Ob} (i : Nat) (hu : us[i]? = some (u, S)) (hk : kd u = 0) (d : decode cc pc = .ok (.getfield 328, 3)) (kk : V cc RX10 fr lo nL G Γ us (pc + 3) L (.int (oI S 4) :: st)) : V cc RX10 fr lo nL G Γ us pc L (.ref (wA G u 0) :: st) :=
  V_get (T := TX0) 4 i (Or.inr ⟨_, wf_RX10_328⟩) inX0 rfl (by decide) rfl hu hk (by decide) rfl rfl d kk
theorem wf_RX10_332 : Cond.fieldLinkNest RX10 332 RX0 "dayThen" "I" "CombedOut" ∈ lw_tbl := List.mem_of_getElem? (i := 476) (by decide +kernel)
theorem gf_RX10_332 {cc : ByteArray} {fr lo nL : Nat} {G : Wc} {Γ : Cx} {us : List (Nat × Ob)} {pc : Nat} {L : List (Nat × Value)} {st : List Value} {u : Nat} {S : Ob} (i : Nat) (hu : us[i]? = some (u, S)) (hk : kd u = 0) (d : decode cc pc = .ok (.getfield 332, 3)) (kk : V cc RX10 fr lo nL G Γ us (pc + 3) L (.int (oI S 7) :: st)) : V cc RX10 fr lo nL G Γ us pc L (.ref (wA G u 0) :: st) :=
  V_get (T := TX0) 7 i (Or.inr ⟨_, wf_RX10_332⟩) inX0 rfl (by decide) rfl hu hk (by decide) rfl rfl d kk
theorem wf_RX10_335 : Cond.fieldLinkNest RX10 335 RX0 "bagThen" "I" "CombedOut" ∈ lw_tbl := List.mem_of_getElem? (i := 478) (by decide +kernel)
theorem gf_RX10_335 {cc : ByteArray} {fr lo nL : Nat} {G : Wc} {Γ : Cx} {us : List (Nat × Ob)} {pc : Nat} {L : List (Nat × Value)} {st : List Value} {u : Nat} {S : Ob} (i : Nat) (hu : us[i]? = some (u, S)) (hk : kd u = 0) (d : decode cc pc = .ok (.getfield 335, 3)) (kk : V cc RX10 fr lo nL G Γ us (pc + 3) L (.int (oI S 8) :: st)) : V cc RX10 fr lo nL G Γ us pc L (.ref (wA G u 0) :: st) :=
  V_get (T := TX0) 8 i (Or.inr ⟨_, wf_RX10_335⟩) inX0 rfl (by decide) rfl hu hk (by decide) rfl rfl d kk
theorem wf_RX10_342 : Cond.fieldLinkNest RX10 342 RX5 "ones" "I" "CombedOut" ∈ lw_tbl := List.mem_of_getElem? (i := 372) (by decide +kernel)
theorem gf_RX10_342 {cc : ByteArray} {fr lo nL : Nat} {G : Wc} {Γ : Cx} {us : List (Nat × Ob)} {pc : Nat} {L : List (Nat × Value)} {st : List Value} {u : Nat} {S : Ob} (i : Nat) (hu : us[i]? = some (u, S)) (hk : kd u = 5) (d : decode cc pc = .ok (.getfield 342, 3)) (kk : V cc RX10 fr lo nL G Γ us (pc + 3) L (.int (oI S 4) :: st)) : V cc RX10 fr lo nL G Γ us pc L (.ref (wA G u 0) :: st) :=
  V_get (T := TX5) 4 i (Or.inr ⟨_, wf_RX10_342⟩) inX5 rfl (by decide) rfl hu hk (by decide) rfl rfl d kk
theorem wf_RX10_352 : Cond.fieldLinkNest RX10 352 RX1 "kept" "Z" "CombedOut" ∈ lw_tbl := List.mem_of_getElem? (i := 420) (by decide +kernel)
theorem gf_RX10_352 {cc : ByteArray} {fr lo nL : Nat} {G : Wc} {Γ : Cx} {us : List (Nat × Ob)} {pc : Nat} {L : List (Nat × Value)} {st : List Value} {u : Nat} {S : Ob} (i : Nat) (hu : us[i]? = some (u, S)) (hk : kd u = 1) (d : decode cc pc = .ok (.getfield 352, 3)) (kk : V cc RX10 fr lo nL G Γ us (pc + 3) L (.int (oI S 3) :: st)) : V cc RX10 fr lo nL G Γ us pc L (.ref (wA G u 0) :: st) :=
  V_get (T := TX1) 3 i (Or.inr ⟨_, wf_RX10_352⟩) inX1 rfl (by decide) rfl hu hk (by decide) rfl rfl d kk
theorem wf_RX10_358 : Cond.fieldLinkNest RX10 358 RX4 "things" "I" "CombedOut" ∈ lw_tbl := List.mem_of_getElem? (i := 206) (by decide +kernel)
theorem gf_RX10_358 {cc : ByteArray} {fr lo nL : Nat} {G : Wc} {Γ : Cx} {us : List (Nat × Ob)} {pc : Nat} {L : List (Nat × Value)} {st : List Value} {u : Nat} {S : Ob} (i : Nat) (hu : us[i]? = some (u, S)) (hk : kd u = 4) (d : decode cc pc = .ok (.getfield 358, 3)) (kk : V cc RX10 fr lo nL G Γ us (pc + 3) L (.int (oI S 0) :: st)) : V cc RX10 fr lo nL G Γ us pc L (.ref (wA G u 0) :: st) :=
  V_get (T := TX4) 0 i (Or.inr ⟨_, wf_RX10_358⟩) inX4 rfl (by decide) rfl hu hk (by decide) rfl rfl d kk
theorem wf_RX10_361 : Cond.fieldLinkNest RX10 361 RX4 "dailies" "I" "CombedOut" ∈ lw_tbl := List.mem_of_getElem? (i := 236) (by decide +kernel)
theorem gf_RX10_361 {cc : ByteArray} {fr lo nL : Nat} {G : Wc} {Γ : Cx} {us : List (Nat × Ob)} {pc : Nat} {L : List (Nat × Value)} {st : List Value} {u : Nat} {S : Ob} (i : Nat) (hu : us[i]? = some (u, S)) (hk : kd u = 4) (d : decode cc pc = .ok (.getfield 361, 3)) (kk : V cc RX10 fr lo nL G Γ us (pc + 3) L (.int (oI S 7) :: st)) : V cc RX10 fr lo nL G Γ us pc L (.ref (wA G u 0) :: st) :=
  V_get (T := TX4) 7 i (Or.inr ⟨_, wf_RX10_361⟩) inX4 rfl (by decide) rfl hu hk (by decide) rfl rfl d kk
theorem wf_RX10_364 : Cond.fieldLinkNest RX10 364 RX4 "beds" "I" "CombedOut" ∈ lw_tbl := List.mem_of_getElem? (i := 247) (by decide +kernel)
theorem gf_RX10_364 {cc : ByteArray} {fr lo nL : Nat} {G : Wc} {Γ : Cx} {us : List (Nat × Ob)} {pc : Nat} {L : List (Nat × Value)} {st : List Value} {u : Nat} {S : Ob} (i : Nat) (hu : us[i]? = some (u, S)) (hk : kd u = 4) (d : decode cc pc = .ok (.getfield 364, 3)) (kk : V cc RX10 fr lo nL G Γ us (pc + 3) L (.int (oI S 11) :: st)) : V cc RX10 fr lo nL G Γ us pc L (.ref (wA G u 0) :: st) :=
  V_get (T := TX4) 11 i (Or.inr ⟨_, wf_RX10_364⟩) inX4 rfl (by decide) rfl hu hk (by decide) rfl rfl d kk
theorem wf_RX10_367 : Cond.fieldLinkNest RX10 367 RX4 "comb" "I" "CombedOut" ∈ lw_tbl := List.mem_of_getElem? (i := 257) (by decide +kernel)
theorem gf_RX10_367 {cc : ByteArray} {fr lo nL : Nat} {G : Wc} {Γ : Cx} {us : List (Nat × Ob)} {pc : Nat} {L : List (Nat × Value)} {st : List Value} {u : Nat} {S : Ob} (i : Nat) (hu : us[i]? = some (u, S)) (hk : kd u = 4) (d : decode cc pc = .ok (.getfield 367, 3)) (kk : V cc RX10 fr lo nL G Γ us (pc + 3) L (.int (oI S 14) :: st)) : V cc RX10 fr lo nL G Γ us pc L (.ref (wA G u 0) :: st) :=
  V_get (T := TX4) 14 i (Or.inr ⟨_, wf_RX10_367⟩) inX4 rfl (by decide) rfl hu hk (by decide) rfl rfl d kk
theorem wf_RX0_13 : Cond.fieldLink RX0 13 RX0 "acts" "[LCombedOut$Word;" ∈ gw := gw_at 465 (by decide +kernel) rfl
theorem gf_RX0_13 {cc : ByteArray} {fr lo nL : Nat} {G : Wc} {Γ : Cx} {us : List (Nat × Ob)} {pc : Nat} {L : List (Nat × Value)} {st : List Value} {u : Nat} {S : Ob} (i : Nat) (hu : us[i]? = some (u, S)) (hk : kd u = 0) (d : decode cc pc = .ok (.getfield 13, 3)) (kk : V cc RX0 fr lo nL G Γ us (pc + 3) L (.ref (wA G u 1) :: st)) : V cc RX0 fr lo nL G Γ us pc L (.ref (wA G u 0) :: st) :=
  V_get (T := TX0) 0 i (Or.inl wf_RX0_13) inX0 rfl (by decide) rfl hu hk (by decide) rfl rfl d kk
theorem wf_RX0_17 : Cond.fieldLink RX0 17 RX0 "whom" "[I" ∈ gw := gw_at 466 (by decide +kernel) rfl
theorem gf_RX0_17 {cc : ByteArray} {fr lo nL : Nat} {G : Wc} {Γ : Cx} {us : List (Nat × Ob)} {pc : Nat} {L : List (Nat × Value)} {st : List Value} {u : Nat} {S : Ob} (i : Nat) (hu : us[i]? = some (u, S)) (hk : kd u = 0) (d : decode cc pc = .ok (.getfield 17, 3)) (kk : V cc RX0 fr lo nL G Γ us (pc + 3) L (.ref (wA G u 2) :: st)) : V cc RX0 fr lo nL G Γ us pc L (.ref (wA G u 0) :: st) :=
  V_get (T := TX0) 1 i (Or.inl wf_RX0_17) inX0 rfl (by decide) rfl hu hk (by decide) rfl rfl d kk
theorem wf_RX0_21 : Cond.fieldLink RX0 21 RX0 "withWhat" "[I" ∈ gw := gw_at 467 (by decide +kernel) rfl
theorem gf_RX0_21 {cc : ByteArray} {fr lo nL : Nat} {G : Wc} {Γ : Cx} {us : List (Nat × Ob)} {pc : Nat} {L : List (Nat × Value)} {st : List Value} {u : Nat} {S : Ob} (i : Nat) (hu : us[i]? = some (u, S)) (hk : kd u = 0) (d : decode cc pc = .ok (.getfield 21, 3)) (kk : V cc RX0 fr lo nL G Γ us (pc + 3) L (.ref (wA G u 3) :: st)) : V cc RX0 fr lo nL G Γ us pc L (.ref (wA G u 0) :: st) :=
  V_get (T := TX0) 2 i (Or.inl wf_RX0_21) inX0 rfl (by decide) rfl hu hk (by decide) rfl rfl d kk
theorem wf_RX0_24 : Cond.fieldLink RX0 24 RX0 "lines" "I" ∈ gw := gw_at 468 (by decide +kernel) rfl
theorem gf_RX0_24 {cc : ByteArray} {fr lo nL : Nat} {G : Wc} {Γ : Cx} {us : List (Nat × Ob)} {pc : Nat} {L : List (Nat × Value)} {st : List Value} {u : Nat} {S : Ob} (i : Nat) (hu : us[i]? = some (u, S)) (hk : kd u = 0) (d : decode cc pc = .ok (.getfield 24, 3)) (kk : V cc RX0 fr lo nL G Γ us (pc + 3) L (.int (oI S 3) :: st)) : V cc RX0 fr lo nL G Γ us pc L (.ref (wA G u 0) :: st) :=
  V_get (T := TX0) 3 i (Or.inl wf_RX0_24) inX0 rfl (by decide) rfl hu hk (by decide) rfl rfl d kk
theorem pf_RX0_24 {cc : ByteArray} {fr lo nL : Nat} {G : Wc} {Γ : Cx} {us : List (Nat × Ob)} {pc : Nat} {L : List (Nat × Value)} {st : List Value} {u : Nat} {S : Ob} {v : Int32} (us1 : List (Nat × Ob)) (i : Nat) (hu : us[i]? = some (u, S)) (hk : kd u = 0) (hus : us.set i (u, sI S 3 v) = us1) (d : decode cc pc = .ok (.putfield 24, 3)) (kk : V cc RX0 fr lo nL G Γ us1 (pc + 3) L st) : V cc RX0 fr lo nL G Γ us pc L (.int v :: .ref (wA G u 0) :: st) :=
  V_put (T := TX0) (ty := .int) tyX0 3 i (Or.inl wf_RX0_24) inX0 tyX0_ok nmX0 rfl (by decide) rfl rfl (tyX0_ok 3 (by decide)) rfl rfl hu hk (by decide) rfl (Nat.le_of_ble_eq_true rfl) rfl hus d kk
theorem wf_RX0_34 : Cond.fieldLinkNest RX0 34 RX8 "kind" "I" "CombedOut" ∈ lw_tbl := List.mem_of_getElem? (i := 155) (by decide +kernel)
theorem gf_RX0_34 {cc : ByteArray} {fr lo nL : Nat} {G : Wc} {Γ : Cx} {us : List (Nat × Ob)} {pc : Nat} {L : List (Nat × Value)} {st : List Value} {u : Nat} {S : Ob} (i : Nat) (hu : us[i]? = some (u, S)) (hk : kd u = 8) (d : decode cc pc = .ok (.getfield 34, 3)) (kk : V cc RX0 fr lo nL G Γ us (pc + 3) L (.int (oI S 4) :: st)) : V cc RX0 fr lo nL G Γ us pc L (.ref (wA G u 0) :: st) :=
  V_get (T := TX8) 4 i (Or.inr ⟨_, wf_RX0_34⟩) inX8 rfl (by decide) rfl hu hk (by decide) rfl rfl d kk
theorem wf_RX0_45 : Cond.fieldLinkNest RX0 45 RX8 "word" "LCombedOut$Word;" "CombedOut" ∈ lw_tbl := List.mem_of_getElem? (i := 163) (by decide +kernel)
theorem gf_RX0_45 {cc : ByteArray} {fr lo nL : Nat} {G : Wc} {Γ : Cx} {us : List (Nat × Ob)} {pc : Nat} {L : List (Nat × Value)} {st : List Value} {u : Nat} {S : Ob} (i : Nat) (hu : us[i]? = some (u, S)) (hk : kd u = 8) (d : decode cc pc = .ok (.getfield 45, 3)) (kk : V cc RX0 fr lo nL G Γ us (pc + 3) L (va_re (wE G) (oW S 8) :: st)) : V cc RX0 fr lo nL G Γ us pc L (.ref (wA G u 0) :: st) :=
  V_get (T := TX8) 8 i (Or.inr ⟨_, wf_RX0_45⟩) inX8 rfl (by decide) rfl hu hk (by decide) rfl rfl d kk
theorem wf_RX0_49 : Cond.fieldLink RX0 49 "CombedOut$Word" "STUFF" "LCombedOut$Word;" ∈ gw := gw_at 1072 (by decide +kernel) rfl
theorem wf_RX0_52 : Cond.fieldLink RX0 52 "CombedOut$Word" "DAY" "LCombedOut$Word;" ∈ gw := gw_at 1074 (by decide +kernel) rfl
theorem wf_RX0_55 : Cond.fieldLinkNest RX0 55 RX4 "personNames" "[J" "CombedOut" ∈ lw_tbl := List.mem_of_getElem? (i := 226) (by decide +kernel)
theorem gf_RX0_55 {cc : ByteArray} {fr lo nL : Nat} {G : Wc} {Γ : Cx} {us : List (Nat × Ob)} {pc : Nat} {L : List (Nat × Value)} {st : List Value} {u : Nat} {S : Ob} (i : Nat) (hu : us[i]? = some (u, S)) (hk : kd u = 4) (d : decode cc pc = .ok (.getfield 55, 3)) (kk : V cc RX0 fr lo nL G Γ us (pc + 3) L (.ref (wA G u 6) :: st)) : V cc RX0 fr lo nL G Γ us pc L (.ref (wA G u 0) :: st) :=
  V_get (T := TX4) 5 i (Or.inr ⟨_, wf_RX0_55⟩) inX4 rfl (by decide) rfl hu hk (by decide) rfl rfl d kk
theorem wf_RX0_61 : Cond.fieldLinkNest RX0 61 RX4 "persons" "I" "CombedOut" ∈ lw_tbl := List.mem_of_getElem? (i := 219) (by decide +kernel)
theorem gf_RX0_61 {cc : ByteArray} {fr lo nL : Nat} {G : Wc} {Γ : Cx} {us : List (Nat × Ob)} {pc : Nat} {L : List (Nat × Value)} {st : List Value} {u : Nat} {S : Ob} (i : Nat) (hu : us[i]? = some (u, S)) (hk : kd u = 4) (d : decode cc pc = .ok (.getfield 61, 3)) (kk : V cc RX0 fr lo nL G Γ us (pc + 3) L (.int (oI S 4) :: st)) : V cc RX0 fr lo nL G Γ us pc L (.ref (wA G u 0) :: st) :=
  V_get (T := TX4) 4 i (Or.inr ⟨_, wf_RX0_61⟩) inX4 rfl (by decide) rfl hu hk (by decide) rfl rfl d kk
theorem wf_RX0_89 : Cond.fieldLinkNest RX0 89 RX4 "bedNames" "[J" "CombedOut" ∈ lw_tbl := List.mem_of_getElem? (i := 249) (by decide +kernel)
theorem gf_RX0_89 {cc : ByteArray} {fr lo nL : Nat} {G : Wc} {Γ : Cx} {us : List (Nat × Ob)} {pc : Nat} {L : List (Nat × Value)} {st : List Value} {u : Nat} {S : Ob} (i : Nat) (hu : us[i]? = some (u, S)) (hk : kd u = 4) (d : decode cc pc = .ok (.getfield 89, 3)) (kk : V cc RX0 fr lo nL G Γ us (pc + 3) L (.ref (wA G u 13) :: st)) : V cc RX0 fr lo nL G Γ us pc L (.ref (wA G u 0) :: st) :=
  V_get (T := TX4) 12 i (Or.inr ⟨_, wf_RX0_89⟩) inX4 rfl (by decide) rfl hu hk (by decide) rfl rfl d kk
theorem wf_RX0_92 : Cond.fieldLinkNest RX0 92 RX4 "beds" "I" "CombedOut" ∈ lw_tbl := List.mem_of_getElem? (i := 244) (by decide +kernel)
theorem gf_RX0_92 {cc : ByteArray} {fr lo nL : Nat} {G : Wc} {Γ : Cx} {us : List (Nat × Ob)} {pc : Nat} {L : List (Nat × Value)} {st : List Value} {u : Nat} {S : Ob} (i : Nat) (hu : us[i]? = some (u, S)) (hk : kd u = 4) (d : decode cc pc = .ok (.getfield 92, 3)) (kk : V cc RX0 fr lo nL G Γ us (pc + 3) L (.int (oI S 11) :: st)) : V cc RX0 fr lo nL G Γ us pc L (.ref (wA G u 0) :: st) :=
  V_get (T := TX4) 11 i (Or.inr ⟨_, wf_RX0_92⟩) inX4 rfl (by decide) rfl hu hk (by decide) rfl rfl d kk
theorem wf_RX0_98 : Cond.fieldLinkNest RX0 98 RX4 "thingNames" "[J" "CombedOut" ∈ lw_tbl := List.mem_of_getElem? (i := 209) (by decide +kernel)
theorem gf_RX0_98 {cc : ByteArray} {fr lo nL : Nat} {G : Wc} {Γ : Cx} {us : List (Nat × Ob)} {pc : Nat} {L : List (Nat × Value)} {st : List Value} {u : Nat} {S : Ob} (i : Nat) (hu : us[i]? = some (u, S)) (hk : kd u = 4) (d : decode cc pc = .ok (.getfield 98, 3)) (kk : V cc RX0 fr lo nL G Γ us (pc + 3) L (.ref (wA G u 2) :: st)) : V cc RX0 fr lo nL G Γ us pc L (.ref (wA G u 0) :: st) :=
  V_get (T := TX4) 1 i (Or.inr ⟨_, wf_RX0_98⟩) inX4 rfl (by decide) rfl hu hk (by decide) rfl rfl d kk
theorem wf_RX0_101 : Cond.fieldLinkNest RX0 101 RX4 "things" "I" "CombedOut" ∈ lw_tbl := List.mem_of_getElem? (i := 202) (by decide +kernel)
theorem gf_RX0_101 {cc : ByteArray} {fr lo nL : Nat} {G : Wc} {Γ : Cx} {us : List (Nat × Ob)} {pc : Nat} {L : List (Nat × Value)} {st : List Value} {u : Nat} {S : Ob} (i : Nat) (hu : us[i]? = some (u, S)) (hk : kd u = 4) (d : decode cc pc = .ok (.getfield 101, 3)) (kk : V cc RX0 fr lo nL G Γ us (pc + 3) L (.int (oI S 0) :: st)) : V cc RX0 fr lo nL G Γ us pc L (.ref (wA G u 0) :: st) :=
  V_get (T := TX4) 0 i (Or.inr ⟨_, wf_RX0_101⟩) inX4 rfl (by decide) rfl hu hk (by decide) rfl rfl d kk
theorem wf_RX0_104 : Cond.fieldLink RX0 104 "CombedOut$Word" "STROKE" "LCombedOut$Word;" ∈ gw := gw_at 1093 (by decide +kernel) rfl
theorem wf_RX0_107 : Cond.fieldLink RX0 107 "CombedOut$Word" "CUT" "LCombedOut$Word;" ∈ gw := gw_at 1095 (by decide +kernel) rfl
theorem wf_RX0_110 : Cond.fieldLink RX0 110 "CombedOut$Word" "CATCHES" "LCombedOut$Word;" ∈ gw := gw_at 1097 (by decide +kernel) rfl
theorem wf_RX0_113 : Cond.fieldLink RX0 113 RX0 "why" "I" ∈ gw := gw_at 471 (by decide +kernel) rfl
theorem gf_RX0_113 {cc : ByteArray} {fr lo nL : Nat} {G : Wc} {Γ : Cx} {us : List (Nat × Ob)} {pc : Nat} {L : List (Nat × Value)} {st : List Value} {u : Nat} {S : Ob} (i : Nat) (hu : us[i]? = some (u, S)) (hk : kd u = 0) (d : decode cc pc = .ok (.getfield 113, 3)) (kk : V cc RX0 fr lo nL G Γ us (pc + 3) L (.int (oI S 5) :: st)) : V cc RX0 fr lo nL G Γ us pc L (.ref (wA G u 0) :: st) :=
  V_get (T := TX0) 5 i (Or.inl wf_RX0_113) inX0 rfl (by decide) rfl hu hk (by decide) rfl rfl d kk
theorem pf_RX0_113 {cc : ByteArray} {fr lo nL : Nat} {G : Wc} {Γ : Cx} {us : List (Nat × Ob)} {pc : Nat} {L : List (Nat × Value)} {st : List Value} {u : Nat} {S : Ob} {v : Int32} (us1 : List (Nat × Ob)) (i : Nat) (hu : us[i]? = some (u, S)) (hk : kd u = 0) (hus : us.set i (u, sI S 5 v) = us1) (d : decode cc pc = .ok (.putfield 113, 3)) (kk : V cc RX0 fr lo nL G Γ us1 (pc + 3) L st) : V cc RX0 fr lo nL G Γ us pc L (.int v :: .ref (wA G u 0) :: st) :=
  V_put (T := TX0) (ty := .int) tyX0 5 i (Or.inl wf_RX0_113) inX0 tyX0_ok nmX0 rfl (by decide) rfl rfl (tyX0_ok 5 (by decide)) rfl rfl hu hk (by decide) rfl (Nat.le_of_ble_eq_true rfl) rfl hus d kk
theorem wf_RX0_116 : Cond.fieldLink RX0 116 RX0 "rightLines" "I" ∈ gw := gw_at 473 (by decide +kernel) rfl
theorem gf_RX0_116 {cc : ByteArray} {fr lo nL : Nat} {G : Wc} {Γ : Cx} {us : List (Nat × Ob)} {pc : Nat} {L : List (Nat × Value)} {st : List Value} {u : Nat} {S : Ob} (i : Nat) (hu : us[i]? = some (u, S)) (hk : kd u = 0) (d : decode cc pc = .ok (.getfield 116, 3)) (kk : V cc RX0 fr lo nL G Γ us (pc + 3) L (.int (oI S 6) :: st)) : V cc RX0 fr lo nL G Γ us pc L (.ref (wA G u 0) :: st) :=
  V_get (T := TX0) 6 i (Or.inl wf_RX0_116) inX0 rfl (by decide) rfl hu hk (by decide) rfl rfl d kk
theorem pf_RX0_116 {cc : ByteArray} {fr lo nL : Nat} {G : Wc} {Γ : Cx} {us : List (Nat × Ob)} {pc : Nat} {L : List (Nat × Value)} {st : List Value} {u : Nat} {S : Ob} {v : Int32} (us1 : List (Nat × Ob)) (i : Nat) (hu : us[i]? = some (u, S)) (hk : kd u = 0) (hus : us.set i (u, sI S 6 v) = us1) (d : decode cc pc = .ok (.putfield 116, 3)) (kk : V cc RX0 fr lo nL G Γ us1 (pc + 3) L st) : V cc RX0 fr lo nL G Γ us pc L (.int v :: .ref (wA G u 0) :: st) :=
  V_put (T := TX0) (ty := .int) tyX0 6 i (Or.inl wf_RX0_116) inX0 tyX0_ok nmX0 rfl (by decide) rfl rfl (tyX0_ok 6 (by decide)) rfl rfl hu hk (by decide) rfl (Nat.le_of_ble_eq_true rfl) rfl hus d kk
theorem wf_RX0_123 : Cond.fieldLinkNest RX0 123 RX6 "day" "I" "CombedOut" ∈ lw_tbl := List.mem_of_getElem? (i := 323) (by decide +kernel)
theorem gf_RX0_123 {cc : ByteArray} {fr lo nL : Nat} {G : Wc} {Γ : Cx} {us : List (Nat × Ob)} {pc : Nat} {L : List (Nat × Value)} {st : List Value} {u : Nat} {S : Ob} (i : Nat) (hu : us[i]? = some (u, S)) (hk : kd u = 6) (d : decode cc pc = .ok (.getfield 123, 3)) (kk : V cc RX0 fr lo nL G Γ us (pc + 3) L (.int (oI S 8) :: st)) : V cc RX0 fr lo nL G Γ us pc L (.ref (wA G u 0) :: st) :=
  V_get (T := TX6) 8 i (Or.inr ⟨_, wf_RX0_123⟩) inX6 rfl (by decide) rfl hu hk (by decide) rfl rfl d kk
theorem wf_RX0_128 : Cond.fieldLink RX0 128 RX0 "dayThen" "I" ∈ gw := gw_at 475 (by decide +kernel) rfl
theorem gf_RX0_128 {cc : ByteArray} {fr lo nL : Nat} {G : Wc} {Γ : Cx} {us : List (Nat × Ob)} {pc : Nat} {L : List (Nat × Value)} {st : List Value} {u : Nat} {S : Ob} (i : Nat) (hu : us[i]? = some (u, S)) (hk : kd u = 0) (d : decode cc pc = .ok (.getfield 128, 3)) (kk : V cc RX0 fr lo nL G Γ us (pc + 3) L (.int (oI S 7) :: st)) : V cc RX0 fr lo nL G Γ us pc L (.ref (wA G u 0) :: st) :=
  V_get (T := TX0) 7 i (Or.inl wf_RX0_128) inX0 rfl (by decide) rfl hu hk (by decide) rfl rfl d kk
theorem pf_RX0_128 {cc : ByteArray} {fr lo nL : Nat} {G : Wc} {Γ : Cx} {us : List (Nat × Ob)} {pc : Nat} {L : List (Nat × Value)} {st : List Value} {u : Nat} {S : Ob} {v : Int32} (us1 : List (Nat × Ob)) (i : Nat) (hu : us[i]? = some (u, S)) (hk : kd u = 0) (hus : us.set i (u, sI S 7 v) = us1) (d : decode cc pc = .ok (.putfield 128, 3)) (kk : V cc RX0 fr lo nL G Γ us1 (pc + 3) L st) : V cc RX0 fr lo nL G Γ us pc L (.int v :: .ref (wA G u 0) :: st) :=
  V_put (T := TX0) (ty := .int) tyX0 7 i (Or.inl wf_RX0_128) inX0 tyX0_ok nmX0 rfl (by decide) rfl rfl (tyX0_ok 7 (by decide)) rfl rfl hu hk (by decide) rfl (Nat.le_of_ble_eq_true rfl) rfl hus d kk
theorem wf_RX0_131 : Cond.fieldLinkNest RX0 131 RX6 "inBag" "I" "CombedOut" ∈ lw_tbl := List.mem_of_getElem? (i := 319) (by decide +kernel)
theorem gf_RX0_131 {cc : ByteArray} {fr lo nL : Nat} {G : Wc} {Γ : Cx} {us : List (Nat × Ob)} {pc : Nat} {L : List (Nat × Value)} {st : List Value} {u : Nat} {S : Ob} (i : Nat) (hu : us[i]? = some (u, S)) (hk : kd u = 6) (d : decode cc pc = .ok (.getfield 131, 3)) (kk : V cc RX0 fr lo nL G Γ us (pc + 3) L (.int (oI S 7) :: st)) : V cc RX0 fr lo nL G Γ us pc L (.ref (wA G u 0) :: st) :=
  V_get (T := TX6) 7 i (Or.inr ⟨_, wf_RX0_131⟩) inX6 rfl (by decide) rfl hu hk (by decide) rfl rfl d kk
theorem wf_RX0_134 : Cond.fieldLink RX0 134 RX0 "bagThen" "I" ∈ gw := gw_at 477 (by decide +kernel) rfl
theorem gf_RX0_134 {cc : ByteArray} {fr lo nL : Nat} {G : Wc} {Γ : Cx} {us : List (Nat × Ob)} {pc : Nat} {L : List (Nat × Value)} {st : List Value} {u : Nat} {S : Ob} (i : Nat) (hu : us[i]? = some (u, S)) (hk : kd u = 0) (d : decode cc pc = .ok (.getfield 134, 3)) (kk : V cc RX0 fr lo nL G Γ us (pc + 3) L (.int (oI S 8) :: st)) : V cc RX0 fr lo nL G Γ us pc L (.ref (wA G u 0) :: st) :=
  V_get (T := TX0) 8 i (Or.inl wf_RX0_134) inX0 rfl (by decide) rfl hu hk (by decide) rfl rfl d kk
theorem pf_RX0_134 {cc : ByteArray} {fr lo nL : Nat} {G : Wc} {Γ : Cx} {us : List (Nat × Ob)} {pc : Nat} {L : List (Nat × Value)} {st : List Value} {u : Nat} {S : Ob} {v : Int32} (us1 : List (Nat × Ob)) (i : Nat) (hu : us[i]? = some (u, S)) (hk : kd u = 0) (hus : us.set i (u, sI S 8 v) = us1) (d : decode cc pc = .ok (.putfield 134, 3)) (kk : V cc RX0 fr lo nL G Γ us1 (pc + 3) L st) : V cc RX0 fr lo nL G Γ us pc L (.int v :: .ref (wA G u 0) :: st) :=
  V_put (T := TX0) (ty := .int) tyX0 8 i (Or.inl wf_RX0_134) inX0 tyX0_ok nmX0 rfl (by decide) rfl rfl (tyX0_ok 8 (by decide)) rfl rfl hu hk (by decide) rfl (Nat.le_of_ble_eq_true rfl) rfl hus d kk
theorem wf_RX0_137 : Cond.fieldLink RX0 137 RX0 "wasLived" "Z" ∈ gw := gw_at 469 (by decide +kernel) rfl
theorem gf_RX0_137 {cc : ByteArray} {fr lo nL : Nat} {G : Wc} {Γ : Cx} {us : List (Nat × Ob)} {pc : Nat} {L : List (Nat × Value)} {st : List Value} {u : Nat} {S : Ob} (i : Nat) (hu : us[i]? = some (u, S)) (hk : kd u = 0) (d : decode cc pc = .ok (.getfield 137, 3)) (kk : V cc RX0 fr lo nL G Γ us (pc + 3) L (.int (oI S 4) :: st)) : V cc RX0 fr lo nL G Γ us pc L (.ref (wA G u 0) :: st) :=
  V_get (T := TX0) 4 i (Or.inl wf_RX0_137) inX0 rfl (by decide) rfl hu hk (by decide) rfl rfl d kk
theorem pf_RX0_137 {cc : ByteArray} {fr lo nL : Nat} {G : Wc} {Γ : Cx} {us : List (Nat × Ob)} {pc : Nat} {L : List (Nat × Value)} {st : List Value} {u : Nat} {S : Ob} {v : Int32} (us1 : List (Nat × Ob)) (i : Nat) (hu : us[i]? = some (u, S)) (hk : kd u = 0) (hz : z01 v = true) (hus : us.set i (u, sI S 4 v) = us1) (d : decode cc pc = .ok (.putfield 137, 3)) (kk : V cc RX0 fr lo nL G Γ us1 (pc + 3) L st) : V cc RX0 fr lo nL G Γ us pc L (.int v :: .ref (wA G u 0) :: st) :=
  V_put (T := TX0) (ty := .boolean) tyX0 4 i (Or.inl wf_RX0_137) inX0 tyX0_ok nmX0 rfl (by decide) rfl rfl (tyX0_ok 4 (by decide)) (z01_nar hz) (z01_fit hz) hu hk (by decide) rfl (Nat.le_of_ble_eq_true rfl) rfl hus d kk
theorem wf_RX1_10 : Cond.fieldLink RX1 10 RX1 "quarter" "LCombedOut$Quarter;" ∈ gw := gw_at 416 (by decide +kernel) rfl
theorem gf_RX1_10 {cc : ByteArray} {fr lo nL : Nat} {G : Wc} {Γ : Cx} {us : List (Nat × Ob)} {pc : Nat} {L : List (Nat × Value)} {st : List Value} {u : Nat} {S : Ob} (i : Nat) (hu : us[i]? = some (u, S)) (hk : kd u = 1) (d : decode cc pc = .ok (.getfield 10, 3)) (kk : V cc RX1 fr lo nL G Γ us (pc + 3) L (.ref (wA G (tgI u + 0) 0) :: st)) : V cc RX1 fr lo nL G Γ us pc L (.ref (wA G u 0) :: st) :=
  V_get (T := TX1) 0 i (Or.inl wf_RX1_10) inX1 rfl (by decide) rfl hu hk (by decide) rfl rfl d kk
theorem wf_RX1_19 : Cond.fieldLink RX1 19 RX1 "state" "LCombedOut$State;" ∈ gw := gw_at 417 (by decide +kernel) rfl
theorem gf_RX1_19 {cc : ByteArray} {fr lo nL : Nat} {G : Wc} {Γ : Cx} {us : List (Nat × Ob)} {pc : Nat} {L : List (Nat × Value)} {st : List Value} {u : Nat} {S : Ob} (i : Nat) (hu : us[i]? = some (u, S)) (hk : kd u = 1) (d : decode cc pc = .ok (.getfield 19, 3)) (kk : V cc RX1 fr lo nL G Γ us (pc + 3) L (.ref (wA G (tgI u + 1) 0) :: st)) : V cc RX1 fr lo nL G Γ us pc L (.ref (wA G u 0) :: st) :=
  V_get (T := TX1) 1 i (Or.inl wf_RX1_19) inX1 rfl (by decide) rfl hu hk (by decide) rfl rfl d kk
theorem wf_RX1_26 : Cond.fieldLink RX1 26 RX1 "sentence" "LCombedOut$Sentence;" ∈ gw := gw_at 418 (by decide +kernel) rfl
theorem gf_RX1_26 {cc : ByteArray} {fr lo nL : Nat} {G : Wc} {Γ : Cx} {us : List (Nat × Ob)} {pc : Nat} {L : List (Nat × Value)} {st : List Value} {u : Nat} {S : Ob} (i : Nat) (hu : us[i]? = some (u, S)) (hk : kd u = 1) (d : decode cc pc = .ok (.getfield 26, 3)) (kk : V cc RX1 fr lo nL G Γ us (pc + 3) L (.ref (wA G (tgI u + 2) 0) :: st)) : V cc RX1 fr lo nL G Γ us pc L (.ref (wA G u 0) :: st) :=
  V_get (T := TX1) 2 i (Or.inl wf_RX1_26) inX1 rfl (by decide) rfl hu hk (by decide) rfl rfl d kk
theorem wf_RX1_40 : Cond.fieldLink RX1 40 RX1 "kept" "Z" ∈ gw := gw_at 419 (by decide +kernel) rfl
theorem gf_RX1_40 {cc : ByteArray} {fr lo nL : Nat} {G : Wc} {Γ : Cx} {us : List (Nat × Ob)} {pc : Nat} {L : List (Nat × Value)} {st : List Value} {u : Nat} {S : Ob} (i : Nat) (hu : us[i]? = some (u, S)) (hk : kd u = 1) (d : decode cc pc = .ok (.getfield 40, 3)) (kk : V cc RX1 fr lo nL G Γ us (pc + 3) L (.int (oI S 3) :: st)) : V cc RX1 fr lo nL G Γ us pc L (.ref (wA G u 0) :: st) :=
  V_get (T := TX1) 3 i (Or.inl wf_RX1_40) inX1 rfl (by decide) rfl hu hk (by decide) rfl rfl d kk
theorem pf_RX1_40 {cc : ByteArray} {fr lo nL : Nat} {G : Wc} {Γ : Cx} {us : List (Nat × Ob)} {pc : Nat} {L : List (Nat × Value)} {st : List Value} {u : Nat} {S : Ob} {v : Int32} (us1 : List (Nat × Ob)) (i : Nat) (hu : us[i]? = some (u, S)) (hk : kd u = 1) (hz : z01 v = true) (hus : us.set i (u, sI S 3 v) = us1) (d : decode cc pc = .ok (.putfield 40, 3)) (kk : V cc RX1 fr lo nL G Γ us1 (pc + 3) L st) : V cc RX1 fr lo nL G Γ us pc L (.int v :: .ref (wA G u 0) :: st) :=
  V_put (T := TX1) (ty := .boolean) tyX1 3 i (Or.inl wf_RX1_40) inX1 tyX1_ok nmX1 rfl (by decide) rfl rfl (tyX1_ok 3 (by decide)) (z01_nar hz) (z01_fit hz) hu hk (by decide) rfl (Nat.le_of_ble_eq_true rfl) rfl hus d kk
theorem wf_RX2_13 : Cond.fieldLink RX2 13 RX2 "kept" "[LCombedOut$State;" ∈ gw := gw_at 393 (by decide +kernel) rfl
theorem gf_RX2_13 {cc : ByteArray} {fr lo nL : Nat} {G : Wc} {Γ : Cx} {us : List (Nat × Ob)} {pc : Nat} {L : List (Nat × Value)} {st : List Value} {u : Nat} {S : Ob} (i : Nat) (hu : us[i]? = some (u, S)) (hk : kd u = 2) (d : decode cc pc = .ok (.getfield 13, 3)) (kk : V cc RX2 fr lo nL G Γ us (pc + 3) L (.ref (wA G u 1) :: st)) : V cc RX2 fr lo nL G Γ us pc L (.ref (wA G u 0) :: st) :=
  V_get (T := TX2) 0 i (Or.inl wf_RX2_13) inX2 rfl (by decide) rfl hu hk (by decide) rfl rfl d kk
theorem wf_RX2_18 : Cond.fieldLink RX2 18 RX2 "next" "I" ∈ gw := gw_at 394 (by decide +kernel) rfl
theorem gf_RX2_18 {cc : ByteArray} {fr lo nL : Nat} {G : Wc} {Γ : Cx} {us : List (Nat × Ob)} {pc : Nat} {L : List (Nat × Value)} {st : List Value} {u : Nat} {S : Ob} (i : Nat) (hu : us[i]? = some (u, S)) (hk : kd u = 2) (d : decode cc pc = .ok (.getfield 18, 3)) (kk : V cc RX2 fr lo nL G Γ us (pc + 3) L (.int (oI S 1) :: st)) : V cc RX2 fr lo nL G Γ us pc L (.ref (wA G u 0) :: st) :=
  V_get (T := TX2) 1 i (Or.inl wf_RX2_18) inX2 rfl (by decide) rfl hu hk (by decide) rfl rfl d kk
theorem pf_RX2_18 {cc : ByteArray} {fr lo nL : Nat} {G : Wc} {Γ : Cx} {us : List (Nat × Ob)} {pc : Nat} {L : List (Nat × Value)} {st : List Value} {u : Nat} {S : Ob} {v : Int32} (us1 : List (Nat × Ob)) (i : Nat) (hu : us[i]? = some (u, S)) (hk : kd u = 2) (hus : us.set i (u, sI S 1 v) = us1) (d : decode cc pc = .ok (.putfield 18, 3)) (kk : V cc RX2 fr lo nL G Γ us1 (pc + 3) L st) : V cc RX2 fr lo nL G Γ us pc L (.int v :: .ref (wA G u 0) :: st) :=
  V_put (T := TX2) (ty := .int) tyX2 1 i (Or.inl wf_RX2_18) inX2 tyX2_ok nmX2 rfl (by decide) rfl rfl (tyX2_ok 1 (by decide)) rfl rfl hu hk (by decide) rfl (Nat.le_of_ble_eq_true rfl) rfl hus d kk
theorem wf_RX2_26 : Cond.fieldLink RX2 26 RX2 "size" "I" ∈ gw := gw_at 395 (by decide +kernel) rfl
theorem gf_RX2_26 {cc : ByteArray} {fr lo nL : Nat} {G : Wc} {Γ : Cx} {us : List (Nat × Ob)} {pc : Nat} {L : List (Nat × Value)} {st : List Value} {u : Nat} {S : Ob} (i : Nat) (hu : us[i]? = some (u, S)) (hk : kd u = 2) (d : decode cc pc = .ok (.getfield 26, 3)) (kk : V cc RX2 fr lo nL G Γ us (pc + 3) L (.int (oI S 2) :: st)) : V cc RX2 fr lo nL G Γ us pc L (.ref (wA G u 0) :: st) :=
  V_get (T := TX2) 2 i (Or.inl wf_RX2_26) inX2 rfl (by decide) rfl hu hk (by decide) rfl rfl d kk
theorem pf_RX2_26 {cc : ByteArray} {fr lo nL : Nat} {G : Wc} {Γ : Cx} {us : List (Nat × Ob)} {pc : Nat} {L : List (Nat × Value)} {st : List Value} {u : Nat} {S : Ob} {v : Int32} (us1 : List (Nat × Ob)) (i : Nat) (hu : us[i]? = some (u, S)) (hk : kd u = 2) (hus : us.set i (u, sI S 2 v) = us1) (d : decode cc pc = .ok (.putfield 26, 3)) (kk : V cc RX2 fr lo nL G Γ us1 (pc + 3) L st) : V cc RX2 fr lo nL G Γ us pc L (.int v :: .ref (wA G u 0) :: st) :=
  V_put (T := TX2) (ty := .int) tyX2 2 i (Or.inl wf_RX2_26) inX2 tyX2_ok nmX2 rfl (by decide) rfl rfl (tyX2_ok 2 (by decide)) rfl rfl hu hk (by decide) rfl (Nat.le_of_ble_eq_true rfl) rfl hus d kk
theorem wf_RX3_9 : Cond.fieldLink RX3 9 RX3 "filled" "[I" ∈ gw := gw_at 436 (by decide +kernel) rfl
theorem gf_RX3_9 {cc : ByteArray} {fr lo nL : Nat} {G : Wc} {Γ : Cx} {us : List (Nat × Ob)} {pc : Nat} {L : List (Nat × Value)} {st : List Value} {u : Nat} {S : Ob} (i : Nat) (hu : us[i]? = some (u, S)) (hk : kd u = 3) (d : decode cc pc = .ok (.getfield 9, 3)) (kk : V cc RX3 fr lo nL G Γ us (pc + 3) L (.ref (wA G u 1) :: st)) : V cc RX3 fr lo nL G Γ us pc L (.ref (wA G u 0) :: st) :=
  V_get (T := TX3) 0 i (Or.inl wf_RX3_9) inX3 rfl (by decide) rfl hu hk (by decide) rfl rfl d kk
theorem wf_RX3_15 : Cond.fieldLink RX3 15 RX3 "bagSprings" "[I" ∈ gw := gw_at 437 (by decide +kernel) rfl
theorem gf_RX3_15 {cc : ByteArray} {fr lo nL : Nat} {G : Wc} {Γ : Cx} {us : List (Nat × Ob)} {pc : Nat} {L : List (Nat × Value)} {st : List Value} {u : Nat} {S : Ob} (i : Nat) (hu : us[i]? = some (u, S)) (hk : kd u = 3) (d : decode cc pc = .ok (.getfield 15, 3)) (kk : V cc RX3 fr lo nL G Γ us (pc + 3) L (.ref (wA G u 2) :: st)) : V cc RX3 fr lo nL G Γ us pc L (.ref (wA G u 0) :: st) :=
  V_get (T := TX3) 1 i (Or.inl wf_RX3_15) inX3 rfl (by decide) rfl hu hk (by decide) rfl rfl d kk
theorem wf_RX3_18 : Cond.fieldLink RX3 18 RX3 "missing" "[I" ∈ gw := gw_at 441 (by decide +kernel) rfl
theorem gf_RX3_18 {cc : ByteArray} {fr lo nL : Nat} {G : Wc} {Γ : Cx} {us : List (Nat × Ob)} {pc : Nat} {L : List (Nat × Value)} {st : List Value} {u : Nat} {S : Ob} (i : Nat) (hu : us[i]? = some (u, S)) (hk : kd u = 3) (d : decode cc pc = .ok (.getfield 18, 3)) (kk : V cc RX3 fr lo nL G Γ us (pc + 3) L (.ref (wA G u 6) :: st)) : V cc RX3 fr lo nL G Γ us pc L (.ref (wA G u 0) :: st) :=
  V_get (T := TX3) 5 i (Or.inl wf_RX3_18) inX3 rfl (by decide) rfl hu hk (by decide) rfl rfl d kk
theorem wf_RX3_21 : Cond.fieldLink RX3 21 RX3 "costs" "[I" ∈ gw := gw_at 442 (by decide +kernel) rfl
theorem gf_RX3_21 {cc : ByteArray} {fr lo nL : Nat} {G : Wc} {Γ : Cx} {us : List (Nat × Ob)} {pc : Nat} {L : List (Nat × Value)} {st : List Value} {u : Nat} {S : Ob} (i : Nat) (hu : us[i]? = some (u, S)) (hk : kd u = 3) (d : decode cc pc = .ok (.getfield 21, 3)) (kk : V cc RX3 fr lo nL G Γ us (pc + 3) L (.ref (wA G u 7) :: st)) : V cc RX3 fr lo nL G Γ us pc L (.ref (wA G u 0) :: st) :=
  V_get (T := TX3) 6 i (Or.inl wf_RX3_21) inX3 rfl (by decide) rfl hu hk (by decide) rfl rfl d kk
theorem wf_RX3_30 : Cond.fieldLinkNest RX3 30 RX4 "bears" "[I" "CombedOut" ∈ lw_tbl := List.mem_of_getElem? (i := 229) (by decide +kernel)
theorem gf_RX3_30 {cc : ByteArray} {fr lo nL : Nat} {G : Wc} {Γ : Cx} {us : List (Nat × Ob)} {pc : Nat} {L : List (Nat × Value)} {st : List Value} {u : Nat} {S : Ob} (i : Nat) (hu : us[i]? = some (u, S)) (hk : kd u = 4) (d : decode cc pc = .ok (.getfield 30, 3)) (kk : V cc RX3 fr lo nL G Γ us (pc + 3) L (.ref (wA G u 7) :: st)) : V cc RX3 fr lo nL G Γ us pc L (.ref (wA G u 0) :: st) :=
  V_get (T := TX4) 6 i (Or.inr ⟨_, wf_RX3_30⟩) inX4 rfl (by decide) rfl hu hk (by decide) rfl rfl d kk
theorem wf_RX3_35 : Cond.fieldLinkNest RX3 35 RX6 "pains" "[I" "CombedOut" ∈ lw_tbl := List.mem_of_getElem? (i := 306) (by decide +kernel)
theorem gf_RX3_35 {cc : ByteArray} {fr lo nL : Nat} {G : Wc} {Γ : Cx} {us : List (Nat × Ob)} {pc : Nat} {L : List (Nat × Value)} {st : List Value} {u : Nat} {S : Ob} (i : Nat) (hu : us[i]? = some (u, S)) (hk : kd u = 6) (d : decode cc pc = .ok (.getfield 35, 3)) (kk : V cc RX3 fr lo nL G Γ us (pc + 3) L (.ref (wA G u 3) :: st)) : V cc RX3 fr lo nL G Γ us pc L (.ref (wA G u 0) :: st) :=
  V_get (T := TX6) 2 i (Or.inr ⟨_, wf_RX3_35⟩) inX6 rfl (by decide) rfl hu hk (by decide) rfl rfl d kk
theorem wf_RX3_38 : Cond.fieldLinkNest RX3 38 RX6 "heights" "[I" "CombedOut" ∈ lw_tbl := List.mem_of_getElem? (i := 302) (by decide +kernel)
theorem gf_RX3_38 {cc : ByteArray} {fr lo nL : Nat} {G : Wc} {Γ : Cx} {us : List (Nat × Ob)} {pc : Nat} {L : List (Nat × Value)} {st : List Value} {u : Nat} {S : Ob} (i : Nat) (hu : us[i]? = some (u, S)) (hk : kd u = 6) (d : decode cc pc = .ok (.getfield 38, 3)) (kk : V cc RX3 fr lo nL G Γ us (pc + 3) L (.ref (wA G u 2) :: st)) : V cc RX3 fr lo nL G Γ us pc L (.ref (wA G u 0) :: st) :=
  V_get (T := TX6) 1 i (Or.inr ⟨_, wf_RX3_38⟩) inX6 rfl (by decide) rfl hu hk (by decide) rfl rfl d kk
theorem wf_RX3_49 : Cond.fieldLinkNest RX3 49 RX4 "comb" "I" "CombedOut" ∈ lw_tbl := List.mem_of_getElem? (i := 255) (by decide +kernel)
theorem gf_RX3_49 {cc : ByteArray} {fr lo nL : Nat} {G : Wc} {Γ : Cx} {us : List (Nat × Ob)} {pc : Nat} {L : List (Nat × Value)} {st : List Value} {u : Nat} {S : Ob} (i : Nat) (hu : us[i]? = some (u, S)) (hk : kd u = 4) (d : decode cc pc = .ok (.getfield 49, 3)) (kk : V cc RX3 fr lo nL G Γ us (pc + 3) L (.int (oI S 14) :: st)) : V cc RX3 fr lo nL G Γ us pc L (.ref (wA G u 0) :: st) :=
  V_get (T := TX4) 14 i (Or.inr ⟨_, wf_RX3_49⟩) inX4 rfl (by decide) rfl hu hk (by decide) rfl rfl d kk
theorem wf_RX3_53 : Cond.fieldLinkNest RX3 53 RX6 "day" "I" "CombedOut" ∈ lw_tbl := List.mem_of_getElem? (i := 322) (by decide +kernel)
theorem gf_RX3_53 {cc : ByteArray} {fr lo nL : Nat} {G : Wc} {Γ : Cx} {us : List (Nat × Ob)} {pc : Nat} {L : List (Nat × Value)} {st : List Value} {u : Nat} {S : Ob} (i : Nat) (hu : us[i]? = some (u, S)) (hk : kd u = 6) (d : decode cc pc = .ok (.getfield 53, 3)) (kk : V cc RX3 fr lo nL G Γ us (pc + 3) L (.int (oI S 8) :: st)) : V cc RX3 fr lo nL G Γ us pc L (.ref (wA G u 0) :: st) :=
  V_get (T := TX6) 8 i (Or.inr ⟨_, wf_RX3_53⟩) inX6 rfl (by decide) rfl hu hk (by decide) rfl rfl d kk
theorem wf_RX3_59 : Cond.fieldLinkNest RX3 59 RX4 "dailies" "I" "CombedOut" ∈ lw_tbl := List.mem_of_getElem? (i := 234) (by decide +kernel)
theorem gf_RX3_59 {cc : ByteArray} {fr lo nL : Nat} {G : Wc} {Γ : Cx} {us : List (Nat × Ob)} {pc : Nat} {L : List (Nat × Value)} {st : List Value} {u : Nat} {S : Ob} (i : Nat) (hu : us[i]? = some (u, S)) (hk : kd u = 4) (d : decode cc pc = .ok (.getfield 59, 3)) (kk : V cc RX3 fr lo nL G Γ us (pc + 3) L (.int (oI S 7) :: st)) : V cc RX3 fr lo nL G Γ us pc L (.ref (wA G u 0) :: st) :=
  V_get (T := TX4) 7 i (Or.inr ⟨_, wf_RX3_59⟩) inX4 rfl (by decide) rfl hu hk (by decide) rfl rfl d kk
theorem wf_RX3_62 : Cond.fieldLinkNest RX3 62 RX4 "dailyPersons" "[I" "CombedOut" ∈ lw_tbl := List.mem_of_getElem? (i := 238) (by decide +kernel)
theorem gf_RX3_62 {cc : ByteArray} {fr lo nL : Nat} {G : Wc} {Γ : Cx} {us : List (Nat × Ob)} {pc : Nat} {L : List (Nat × Value)} {st : List Value} {u : Nat} {S : Ob} (i : Nat) (hu : us[i]? = some (u, S)) (hk : kd u = 4) (d : decode cc pc = .ok (.getfield 62, 3)) (kk : V cc RX3 fr lo nL G Γ us (pc + 3) L (.ref (wA G u 9) :: st)) : V cc RX3 fr lo nL G Γ us pc L (.ref (wA G u 0) :: st) :=
  V_get (T := TX4) 8 i (Or.inr ⟨_, wf_RX3_62⟩) inX4 rfl (by decide) rfl hu hk (by decide) rfl rfl d kk
theorem wf_RX3_69 : Cond.fieldLinkNest RX3 69 RX4 "persons" "I" "CombedOut" ∈ lw_tbl := List.mem_of_getElem? (i := 220) (by decide +kernel)
theorem gf_RX3_69 {cc : ByteArray} {fr lo nL : Nat} {G : Wc} {Γ : Cx} {us : List (Nat × Ob)} {pc : Nat} {L : List (Nat × Value)} {st : List Value} {u : Nat} {S : Ob} (i : Nat) (hu : us[i]? = some (u, S)) (hk : kd u = 4) (d : decode cc pc = .ok (.getfield 69, 3)) (kk : V cc RX3 fr lo nL G Γ us (pc + 3) L (.int (oI S 4) :: st)) : V cc RX3 fr lo nL G Γ us pc L (.ref (wA G u 0) :: st) :=
  V_get (T := TX4) 4 i (Or.inr ⟨_, wf_RX3_69⟩) inX4 rfl (by decide) rfl hu hk (by decide) rfl rfl d kk
theorem wf_RX3_93 : Cond.fieldLinkNest RX3 93 RX4 "beds" "I" "CombedOut" ∈ lw_tbl := List.mem_of_getElem? (i := 245) (by decide +kernel)
theorem gf_RX3_93 {cc : ByteArray} {fr lo nL : Nat} {G : Wc} {Γ : Cx} {us : List (Nat × Ob)} {pc : Nat} {L : List (Nat × Value)} {st : List Value} {u : Nat} {S : Ob} (i : Nat) (hu : us[i]? = some (u, S)) (hk : kd u = 4) (d : decode cc pc = .ok (.getfield 93, 3)) (kk : V cc RX3 fr lo nL G Γ us (pc + 3) L (.int (oI S 11) :: st)) : V cc RX3 fr lo nL G Γ us pc L (.ref (wA G u 0) :: st) :=
  V_get (T := TX4) 11 i (Or.inr ⟨_, wf_RX3_93⟩) inX4 rfl (by decide) rfl hu hk (by decide) rfl rfl d kk
theorem wf_RX3_100 : Cond.fieldLink RX3 100 RX3 "bagSize" "I" ∈ gw := gw_at 438 (by decide +kernel) rfl
theorem gf_RX3_100 {cc : ByteArray} {fr lo nL : Nat} {G : Wc} {Γ : Cx} {us : List (Nat × Ob)} {pc : Nat} {L : List (Nat × Value)} {st : List Value} {u : Nat} {S : Ob} (i : Nat) (hu : us[i]? = some (u, S)) (hk : kd u = 3) (d : decode cc pc = .ok (.getfield 100, 3)) (kk : V cc RX3 fr lo nL G Γ us (pc + 3) L (.int (oI S 2) :: st)) : V cc RX3 fr lo nL G Γ us pc L (.ref (wA G u 0) :: st) :=
  V_get (T := TX3) 2 i (Or.inl wf_RX3_100) inX3 rfl (by decide) rfl hu hk (by decide) rfl rfl d kk
theorem pf_RX3_100 {cc : ByteArray} {fr lo nL : Nat} {G : Wc} {Γ : Cx} {us : List (Nat × Ob)} {pc : Nat} {L : List (Nat × Value)} {st : List Value} {u : Nat} {S : Ob} {v : Int32} (us1 : List (Nat × Ob)) (i : Nat) (hu : us[i]? = some (u, S)) (hk : kd u = 3) (hus : us.set i (u, sI S 2 v) = us1) (d : decode cc pc = .ok (.putfield 100, 3)) (kk : V cc RX3 fr lo nL G Γ us1 (pc + 3) L st) : V cc RX3 fr lo nL G Γ us pc L (.int v :: .ref (wA G u 0) :: st) :=
  V_put (T := TX3) (ty := .int) tyX3 2 i (Or.inl wf_RX3_100) inX3 tyX3_ok nmX3 rfl (by decide) rfl rfl (tyX3_ok 2 (by decide)) rfl rfl hu hk (by decide) rfl (Nat.le_of_ble_eq_true rfl) rfl hus d kk
theorem wf_RX3_103 : Cond.fieldLink RX3 103 RX3 "bagSpring" "I" ∈ gw := gw_at 439 (by decide +kernel) rfl
theorem gf_RX3_103 {cc : ByteArray} {fr lo nL : Nat} {G : Wc} {Γ : Cx} {us : List (Nat × Ob)} {pc : Nat} {L : List (Nat × Value)} {st : List Value} {u : Nat} {S : Ob} (i : Nat) (hu : us[i]? = some (u, S)) (hk : kd u = 3) (d : decode cc pc = .ok (.getfield 103, 3)) (kk : V cc RX3 fr lo nL G Γ us (pc + 3) L (.int (oI S 3) :: st)) : V cc RX3 fr lo nL G Γ us pc L (.ref (wA G u 0) :: st) :=
  V_get (T := TX3) 3 i (Or.inl wf_RX3_103) inX3 rfl (by decide) rfl hu hk (by decide) rfl rfl d kk
theorem pf_RX3_103 {cc : ByteArray} {fr lo nL : Nat} {G : Wc} {Γ : Cx} {us : List (Nat × Ob)} {pc : Nat} {L : List (Nat × Value)} {st : List Value} {u : Nat} {S : Ob} {v : Int32} (us1 : List (Nat × Ob)) (i : Nat) (hu : us[i]? = some (u, S)) (hk : kd u = 3) (hus : us.set i (u, sI S 3 v) = us1) (d : decode cc pc = .ok (.putfield 103, 3)) (kk : V cc RX3 fr lo nL G Γ us1 (pc + 3) L st) : V cc RX3 fr lo nL G Γ us pc L (.int v :: .ref (wA G u 0) :: st) :=
  V_put (T := TX3) (ty := .int) tyX3 3 i (Or.inl wf_RX3_103) inX3 tyX3_ok nmX3 rfl (by decide) rfl rfl (tyX3_ok 3 (by decide)) rfl rfl hu hk (by decide) rfl (Nat.le_of_ble_eq_true rfl) rfl hus d kk
theorem wf_RX3_106 : Cond.fieldLink RX3 106 RX3 "bagLike" "I" ∈ gw := gw_at 440 (by decide +kernel) rfl
theorem gf_RX3_106 {cc : ByteArray} {fr lo nL : Nat} {G : Wc} {Γ : Cx} {us : List (Nat × Ob)} {pc : Nat} {L : List (Nat × Value)} {st : List Value} {u : Nat} {S : Ob} (i : Nat) (hu : us[i]? = some (u, S)) (hk : kd u = 3) (d : decode cc pc = .ok (.getfield 106, 3)) (kk : V cc RX3 fr lo nL G Γ us (pc + 3) L (.int (oI S 4) :: st)) : V cc RX3 fr lo nL G Γ us pc L (.ref (wA G u 0) :: st) :=
  V_get (T := TX3) 4 i (Or.inl wf_RX3_106) inX3 rfl (by decide) rfl hu hk (by decide) rfl rfl d kk
theorem pf_RX3_106 {cc : ByteArray} {fr lo nL : Nat} {G : Wc} {Γ : Cx} {us : List (Nat × Ob)} {pc : Nat} {L : List (Nat × Value)} {st : List Value} {u : Nat} {S : Ob} {v : Int32} (us1 : List (Nat × Ob)) (i : Nat) (hu : us[i]? = some (u, S)) (hk : kd u = 3) (hus : us.set i (u, sI S 4 v) = us1) (d : decode cc pc = .ok (.putfield 106, 3)) (kk : V cc RX3 fr lo nL G Γ us1 (pc + 3) L st) : V cc RX3 fr lo nL G Γ us pc L (.int v :: .ref (wA G u 0) :: st) :=
  V_put (T := TX3) (ty := .int) tyX3 4 i (Or.inl wf_RX3_106) inX3 tyX3_ok nmX3 rfl (by decide) rfl rfl (tyX3_ok 4 (by decide)) rfl rfl hu hk (by decide) rfl (Nat.le_of_ble_eq_true rfl) rfl hus d kk
theorem wf_RX3_109 : Cond.fieldLinkNest RX3 109 RX4 "things" "I" "CombedOut" ∈ lw_tbl := List.mem_of_getElem? (i := 203) (by decide +kernel)
theorem gf_RX3_109 {cc : ByteArray} {fr lo nL : Nat} {G : Wc} {Γ : Cx} {us : List (Nat × Ob)} {pc : Nat} {L : List (Nat × Value)} {st : List Value} {u : Nat} {S : Ob} (i : Nat) (hu : us[i]? = some (u, S)) (hk : kd u = 4) (d : decode cc pc = .ok (.getfield 109, 3)) (kk : V cc RX3 fr lo nL G Γ us (pc + 3) L (.int (oI S 0) :: st)) : V cc RX3 fr lo nL G Γ us pc L (.ref (wA G u 0) :: st) :=
  V_get (T := TX4) 0 i (Or.inr ⟨_, wf_RX3_109⟩) inX4 rfl (by decide) rfl hu hk (by decide) rfl rfl d kk
theorem wf_RX3_112 : Cond.fieldLinkNest RX3 112 RX6 "bag" "[I" "CombedOut" ∈ lw_tbl := List.mem_of_getElem? (i := 310) (by decide +kernel)
theorem gf_RX3_112 {cc : ByteArray} {fr lo nL : Nat} {G : Wc} {Γ : Cx} {us : List (Nat × Ob)} {pc : Nat} {L : List (Nat × Value)} {st : List Value} {u : Nat} {S : Ob} (i : Nat) (hu : us[i]? = some (u, S)) (hk : kd u = 6) (d : decode cc pc = .ok (.getfield 112, 3)) (kk : V cc RX3 fr lo nL G Γ us (pc + 3) L (.ref (wA G u 4) :: st)) : V cc RX3 fr lo nL G Γ us pc L (.ref (wA G u 0) :: st) :=
  V_get (T := TX6) 3 i (Or.inr ⟨_, wf_RX3_112⟩) inX6 rfl (by decide) rfl hu hk (by decide) rfl rfl d kk
theorem wf_RX3_115 : Cond.fieldLinkNest RX3 115 RX4 "springs" "[I" "CombedOut" ∈ lw_tbl := List.mem_of_getElem? (i := 215) (by decide +kernel)
theorem gf_RX3_115 {cc : ByteArray} {fr lo nL : Nat} {G : Wc} {Γ : Cx} {us : List (Nat × Ob)} {pc : Nat} {L : List (Nat × Value)} {st : List Value} {u : Nat} {S : Ob} (i : Nat) (hu : us[i]? = some (u, S)) (hk : kd u = 4) (d : decode cc pc = .ok (.getfield 115, 3)) (kk : V cc RX3 fr lo nL G Γ us (pc + 3) L (.ref (wA G u 4) :: st)) : V cc RX3 fr lo nL G Γ us pc L (.ref (wA G u 0) :: st) :=
  V_get (T := TX4) 3 i (Or.inr ⟨_, wf_RX3_115⟩) inX4 rfl (by decide) rfl hu hk (by decide) rfl rfl d kk
theorem wf_RX3_122 : Cond.fieldLinkNest RX3 122 RX4 "needs" "[I" "CombedOut" ∈ lw_tbl := List.mem_of_getElem? (i := 252) (by decide +kernel)
theorem gf_RX3_122 {cc : ByteArray} {fr lo nL : Nat} {G : Wc} {Γ : Cx} {us : List (Nat × Ob)} {pc : Nat} {L : List (Nat × Value)} {st : List Value} {u : Nat} {S : Ob} (i : Nat) (hu : us[i]? = some (u, S)) (hk : kd u = 4) (d : decode cc pc = .ok (.getfield 122, 3)) (kk : V cc RX3 fr lo nL G Γ us (pc + 3) L (.ref (wA G u 14) :: st)) : V cc RX3 fr lo nL G Γ us pc L (.ref (wA G u 0) :: st) :=
  V_get (T := TX4) 13 i (Or.inr ⟨_, wf_RX3_122⟩) inX4 rfl (by decide) rfl hu hk (by decide) rfl rfl d kk
theorem wf_RX3_125 : Cond.fieldLinkNest RX3 125 RX6 "springs" "[I" "CombedOut" ∈ lw_tbl := List.mem_of_getElem? (i := 314) (by decide +kernel)
theorem gf_RX3_125 {cc : ByteArray} {fr lo nL : Nat} {G : Wc} {Γ : Cx} {us : List (Nat × Ob)} {pc : Nat} {L : List (Nat × Value)} {st : List Value} {u : Nat} {S : Ob} (i : Nat) (hu : us[i]? = some (u, S)) (hk : kd u = 6) (d : decode cc pc = .ok (.getfield 125, 3)) (kk : V cc RX3 fr lo nL G Γ us (pc + 3) L (.ref (wA G u 6) :: st)) : V cc RX3 fr lo nL G Γ us pc L (.ref (wA G u 0) :: st) :=
  V_get (T := TX6) 5 i (Or.inr ⟨_, wf_RX3_125⟩) inX6 rfl (by decide) rfl hu hk (by decide) rfl rfl d kk
theorem wf_RX4_9 : Cond.fieldLink RX4 9 RX4 "thingNames" "[J" ∈ gw := gw_at 207 (by decide +kernel) rfl
theorem gf_RX4_9 {cc : ByteArray} {fr lo nL : Nat} {G : Wc} {Γ : Cx} {us : List (Nat × Ob)} {pc : Nat} {L : List (Nat × Value)} {st : List Value} {u : Nat} {S : Ob} (i : Nat) (hu : us[i]? = some (u, S)) (hk : kd u = 4) (d : decode cc pc = .ok (.getfield 9, 3)) (kk : V cc RX4 fr lo nL G Γ us (pc + 3) L (.ref (wA G u 2) :: st)) : V cc RX4 fr lo nL G Γ us pc L (.ref (wA G u 0) :: st) :=
  V_get (T := TX4) 1 i (Or.inl wf_RX4_9) inX4 rfl (by decide) rfl hu hk (by decide) rfl rfl d kk
theorem wf_RX4_15 : Cond.fieldLink RX4 15 RX4 "holds" "[I" ∈ gw := gw_at 211 (by decide +kernel) rfl
theorem gf_RX4_15 {cc : ByteArray} {fr lo nL : Nat} {G : Wc} {Γ : Cx} {us : List (Nat × Ob)} {pc : Nat} {L : List (Nat × Value)} {st : List Value} {u : Nat} {S : Ob} (i : Nat) (hu : us[i]? = some (u, S)) (hk : kd u = 4) (d : decode cc pc = .ok (.getfield 15, 3)) (kk : V cc RX4 fr lo nL G Γ us (pc + 3) L (.ref (wA G u 3) :: st)) : V cc RX4 fr lo nL G Γ us pc L (.ref (wA G u 0) :: st) :=
  V_get (T := TX4) 2 i (Or.inl wf_RX4_15) inX4 rfl (by decide) rfl hu hk (by decide) rfl rfl d kk
theorem wf_RX4_19 : Cond.fieldLink RX4 19 RX4 "springs" "[I" ∈ gw := gw_at 214 (by decide +kernel) rfl
theorem gf_RX4_19 {cc : ByteArray} {fr lo nL : Nat} {G : Wc} {Γ : Cx} {us : List (Nat × Ob)} {pc : Nat} {L : List (Nat × Value)} {st : List Value} {u : Nat} {S : Ob} (i : Nat) (hu : us[i]? = some (u, S)) (hk : kd u = 4) (d : decode cc pc = .ok (.getfield 19, 3)) (kk : V cc RX4 fr lo nL G Γ us (pc + 3) L (.ref (wA G u 4) :: st)) : V cc RX4 fr lo nL G Γ us pc L (.ref (wA G u 0) :: st) :=
  V_get (T := TX4) 3 i (Or.inl wf_RX4_19) inX4 rfl (by decide) rfl hu hk (by decide) rfl rfl d kk
theorem wf_RX4_22 : Cond.fieldLink RX4 22 RX4 "personNames" "[J" ∈ gw := gw_at 224 (by decide +kernel) rfl
theorem gf_RX4_22 {cc : ByteArray} {fr lo nL : Nat} {G : Wc} {Γ : Cx} {us : List (Nat × Ob)} {pc : Nat} {L : List (Nat × Value)} {st : List Value} {u : Nat} {S : Ob} (i : Nat) (hu : us[i]? = some (u, S)) (hk : kd u = 4) (d : decode cc pc = .ok (.getfield 22, 3)) (kk : V cc RX4 fr lo nL G Γ us (pc + 3) L (.ref (wA G u 6) :: st)) : V cc RX4 fr lo nL G Γ us pc L (.ref (wA G u 0) :: st) :=
  V_get (T := TX4) 5 i (Or.inl wf_RX4_22) inX4 rfl (by decide) rfl hu hk (by decide) rfl rfl d kk
theorem wf_RX4_25 : Cond.fieldLink RX4 25 RX4 "bears" "[I" ∈ gw := gw_at 228 (by decide +kernel) rfl
theorem gf_RX4_25 {cc : ByteArray} {fr lo nL : Nat} {G : Wc} {Γ : Cx} {us : List (Nat × Ob)} {pc : Nat} {L : List (Nat × Value)} {st : List Value} {u : Nat} {S : Ob} (i : Nat) (hu : us[i]? = some (u, S)) (hk : kd u = 4) (d : decode cc pc = .ok (.getfield 25, 3)) (kk : V cc RX4 fr lo nL G Γ us (pc + 3) L (.ref (wA G u 7) :: st)) : V cc RX4 fr lo nL G Γ us pc L (.ref (wA G u 0) :: st) :=
  V_get (T := TX4) 6 i (Or.inl wf_RX4_25) inX4 rfl (by decide) rfl hu hk (by decide) rfl rfl d kk
theorem wf_RX4_28 : Cond.fieldLink RX4 28 RX4 "dailyPersons" "[I" ∈ gw := gw_at 237 (by decide +kernel) rfl
theorem gf_RX4_28 {cc : ByteArray} {fr lo nL : Nat} {G : Wc} {Γ : Cx} {us : List (Nat × Ob)} {pc : Nat} {L : List (Nat × Value)} {st : List Value} {u : Nat} {S : Ob} (i : Nat) (hu : us[i]? = some (u, S)) (hk : kd u = 4) (d : decode cc pc = .ok (.getfield 28, 3)) (kk : V cc RX4 fr lo nL G Γ us (pc + 3) L (.ref (wA G u 9) :: st)) : V cc RX4 fr lo nL G Γ us pc L (.ref (wA G u 0) :: st) :=
  V_get (T := TX4) 8 i (Or.inl wf_RX4_28) inX4 rfl (by decide) rfl hu hk (by decide) rfl rfl d kk
theorem wf_RX4_31 : Cond.fieldLink RX4 31 RX4 "dailyThings" "[I" ∈ gw := gw_at 240 (by decide +kernel) rfl
theorem gf_RX4_31 {cc : ByteArray} {fr lo nL : Nat} {G : Wc} {Γ : Cx} {us : List (Nat × Ob)} {pc : Nat} {L : List (Nat × Value)} {st : List Value} {u : Nat} {S : Ob} (i : Nat) (hu : us[i]? = some (u, S)) (hk : kd u = 4) (d : decode cc pc = .ok (.getfield 31, 3)) (kk : V cc RX4 fr lo nL G Γ us (pc + 3) L (.ref (wA G u 10) :: st)) : V cc RX4 fr lo nL G Γ us pc L (.ref (wA G u 0) :: st) :=
  V_get (T := TX4) 9 i (Or.inl wf_RX4_31) inX4 rfl (by decide) rfl hu hk (by decide) rfl rfl d kk
theorem wf_RX4_34 : Cond.fieldLink RX4 34 RX4 "dailyEvery" "[I" ∈ gw := gw_at 242 (by decide +kernel) rfl
theorem gf_RX4_34 {cc : ByteArray} {fr lo nL : Nat} {G : Wc} {Γ : Cx} {us : List (Nat × Ob)} {pc : Nat} {L : List (Nat × Value)} {st : List Value} {u : Nat} {S : Ob} (i : Nat) (hu : us[i]? = some (u, S)) (hk : kd u = 4) (d : decode cc pc = .ok (.getfield 34, 3)) (kk : V cc RX4 fr lo nL G Γ us (pc + 3) L (.ref (wA G u 11) :: st)) : V cc RX4 fr lo nL G Γ us pc L (.ref (wA G u 0) :: st) :=
  V_get (T := TX4) 10 i (Or.inl wf_RX4_34) inX4 rfl (by decide) rfl hu hk (by decide) rfl rfl d kk
theorem wf_RX4_37 : Cond.fieldLink RX4 37 RX4 "bedNames" "[J" ∈ gw := gw_at 248 (by decide +kernel) rfl
theorem gf_RX4_37 {cc : ByteArray} {fr lo nL : Nat} {G : Wc} {Γ : Cx} {us : List (Nat × Ob)} {pc : Nat} {L : List (Nat × Value)} {st : List Value} {u : Nat} {S : Ob} (i : Nat) (hu : us[i]? = some (u, S)) (hk : kd u = 4) (d : decode cc pc = .ok (.getfield 37, 3)) (kk : V cc RX4 fr lo nL G Γ us (pc + 3) L (.ref (wA G u 13) :: st)) : V cc RX4 fr lo nL G Γ us pc L (.ref (wA G u 0) :: st) :=
  V_get (T := TX4) 12 i (Or.inl wf_RX4_37) inX4 rfl (by decide) rfl hu hk (by decide) rfl rfl d kk
theorem wf_RX4_40 : Cond.fieldLink RX4 40 RX4 "needs" "[I" ∈ gw := gw_at 250 (by decide +kernel) rfl
theorem gf_RX4_40 {cc : ByteArray} {fr lo nL : Nat} {G : Wc} {Γ : Cx} {us : List (Nat × Ob)} {pc : Nat} {L : List (Nat × Value)} {st : List Value} {u : Nat} {S : Ob} (i : Nat) (hu : us[i]? = some (u, S)) (hk : kd u = 4) (d : decode cc pc = .ok (.getfield 40, 3)) (kk : V cc RX4 fr lo nL G Γ us (pc + 3) L (.ref (wA G u 14) :: st)) : V cc RX4 fr lo nL G Γ us pc L (.ref (wA G u 0) :: st) :=
  V_get (T := TX4) 13 i (Or.inl wf_RX4_40) inX4 rfl (by decide) rfl hu hk (by decide) rfl rfl d kk
theorem wf_RX4_43 : Cond.fieldLink RX4 43 RX4 "comb" "I" ∈ gw := gw_at 254 (by decide +kernel) rfl
theorem gf_RX4_43 {cc : ByteArray} {fr lo nL : Nat} {G : Wc} {Γ : Cx} {us : List (Nat × Ob)} {pc : Nat} {L : List (Nat × Value)} {st : List Value} {u : Nat} {S : Ob} (i : Nat) (hu : us[i]? = some (u, S)) (hk : kd u = 4) (d : decode cc pc = .ok (.getfield 43, 3)) (kk : V cc RX4 fr lo nL G Γ us (pc + 3) L (.int (oI S 14) :: st)) : V cc RX4 fr lo nL G Γ us pc L (.ref (wA G u 0) :: st) :=
  V_get (T := TX4) 14 i (Or.inl wf_RX4_43) inX4 rfl (by decide) rfl hu hk (by decide) rfl rfl d kk
theorem pf_RX4_43 {cc : ByteArray} {fr lo nL : Nat} {G : Wc} {Γ : Cx} {us : List (Nat × Ob)} {pc : Nat} {L : List (Nat × Value)} {st : List Value} {u : Nat} {S : Ob} {v : Int32} (us1 : List (Nat × Ob)) (i : Nat) (hu : us[i]? = some (u, S)) (hk : kd u = 4) (hus : us.set i (u, sI S 14 v) = us1) (d : decode cc pc = .ok (.putfield 43, 3)) (kk : V cc RX4 fr lo nL G Γ us1 (pc + 3) L st) : V cc RX4 fr lo nL G Γ us pc L (.int v :: .ref (wA G u 0) :: st) :=
  V_put (T := TX4) (ty := .int) tyX4 14 i (Or.inl wf_RX4_43) inX4 tyX4_ok nmX4 rfl (by decide) rfl rfl (tyX4_ok 14 (by decide)) rfl rfl hu hk (by decide) rfl (Nat.le_of_ble_eq_true rfl) rfl hus d kk
theorem wf_RX4_47 : Cond.fieldLink RX4 47 RX4 "things" "I" ∈ gw := gw_at 201 (by decide +kernel) rfl
theorem gf_RX4_47 {cc : ByteArray} {fr lo nL : Nat} {G : Wc} {Γ : Cx} {us : List (Nat × Ob)} {pc : Nat} {L : List (Nat × Value)} {st : List Value} {u : Nat} {S : Ob} (i : Nat) (hu : us[i]? = some (u, S)) (hk : kd u = 4) (d : decode cc pc = .ok (.getfield 47, 3)) (kk : V cc RX4 fr lo nL G Γ us (pc + 3) L (.int (oI S 0) :: st)) : V cc RX4 fr lo nL G Γ us pc L (.ref (wA G u 0) :: st) :=
  V_get (T := TX4) 0 i (Or.inl wf_RX4_47) inX4 rfl (by decide) rfl hu hk (by decide) rfl rfl d kk
theorem pf_RX4_47 {cc : ByteArray} {fr lo nL : Nat} {G : Wc} {Γ : Cx} {us : List (Nat × Ob)} {pc : Nat} {L : List (Nat × Value)} {st : List Value} {u : Nat} {S : Ob} {v : Int32} (us1 : List (Nat × Ob)) (i : Nat) (hu : us[i]? = some (u, S)) (hk : kd u = 4) (hus : us.set i (u, sI S 0 v) = us1) (d : decode cc pc = .ok (.putfield 47, 3)) (kk : V cc RX4 fr lo nL G Γ us1 (pc + 3) L st) : V cc RX4 fr lo nL G Γ us pc L (.int v :: .ref (wA G u 0) :: st) :=
  V_put (T := TX4) (ty := .int) tyX4 0 i (Or.inl wf_RX4_47) inX4 tyX4_ok nmX4 rfl (by decide) rfl rfl (tyX4_ok 0 (by decide)) rfl rfl hu hk (by decide) rfl (Nat.le_of_ble_eq_true rfl) rfl hus d kk
theorem wf_RX4_56 : Cond.fieldLink RX4 56 RX4 "persons" "I" ∈ gw := gw_at 218 (by decide +kernel) rfl
theorem gf_RX4_56 {cc : ByteArray} {fr lo nL : Nat} {G : Wc} {Γ : Cx} {us : List (Nat × Ob)} {pc : Nat} {L : List (Nat × Value)} {st : List Value} {u : Nat} {S : Ob} (i : Nat) (hu : us[i]? = some (u, S)) (hk : kd u = 4) (d : decode cc pc = .ok (.getfield 56, 3)) (kk : V cc RX4 fr lo nL G Γ us (pc + 3) L (.int (oI S 4) :: st)) : V cc RX4 fr lo nL G Γ us pc L (.ref (wA G u 0) :: st) :=
  V_get (T := TX4) 4 i (Or.inl wf_RX4_56) inX4 rfl (by decide) rfl hu hk (by decide) rfl rfl d kk
theorem pf_RX4_56 {cc : ByteArray} {fr lo nL : Nat} {G : Wc} {Γ : Cx} {us : List (Nat × Ob)} {pc : Nat} {L : List (Nat × Value)} {st : List Value} {u : Nat} {S : Ob} {v : Int32} (us1 : List (Nat × Ob)) (i : Nat) (hu : us[i]? = some (u, S)) (hk : kd u = 4) (hus : us.set i (u, sI S 4 v) = us1) (d : decode cc pc = .ok (.putfield 56, 3)) (kk : V cc RX4 fr lo nL G Γ us1 (pc + 3) L st) : V cc RX4 fr lo nL G Γ us pc L (.int v :: .ref (wA G u 0) :: st) :=
  V_put (T := TX4) (ty := .int) tyX4 4 i (Or.inl wf_RX4_56) inX4 tyX4_ok nmX4 rfl (by decide) rfl rfl (tyX4_ok 4 (by decide)) rfl rfl hu hk (by decide) rfl (Nat.le_of_ble_eq_true rfl) rfl hus d kk
theorem wf_RX4_59 : Cond.fieldLink RX4 59 RX4 "dailies" "I" ∈ gw := gw_at 233 (by decide +kernel) rfl
theorem gf_RX4_59 {cc : ByteArray} {fr lo nL : Nat} {G : Wc} {Γ : Cx} {us : List (Nat × Ob)} {pc : Nat} {L : List (Nat × Value)} {st : List Value} {u : Nat} {S : Ob} (i : Nat) (hu : us[i]? = some (u, S)) (hk : kd u = 4) (d : decode cc pc = .ok (.getfield 59, 3)) (kk : V cc RX4 fr lo nL G Γ us (pc + 3) L (.int (oI S 7) :: st)) : V cc RX4 fr lo nL G Γ us pc L (.ref (wA G u 0) :: st) :=
  V_get (T := TX4) 7 i (Or.inl wf_RX4_59) inX4 rfl (by decide) rfl hu hk (by decide) rfl rfl d kk
theorem pf_RX4_59 {cc : ByteArray} {fr lo nL : Nat} {G : Wc} {Γ : Cx} {us : List (Nat × Ob)} {pc : Nat} {L : List (Nat × Value)} {st : List Value} {u : Nat} {S : Ob} {v : Int32} (us1 : List (Nat × Ob)) (i : Nat) (hu : us[i]? = some (u, S)) (hk : kd u = 4) (hus : us.set i (u, sI S 7 v) = us1) (d : decode cc pc = .ok (.putfield 59, 3)) (kk : V cc RX4 fr lo nL G Γ us1 (pc + 3) L st) : V cc RX4 fr lo nL G Γ us pc L (.int v :: .ref (wA G u 0) :: st) :=
  V_put (T := TX4) (ty := .int) tyX4 7 i (Or.inl wf_RX4_59) inX4 tyX4_ok nmX4 rfl (by decide) rfl rfl (tyX4_ok 7 (by decide)) rfl rfl hu hk (by decide) rfl (Nat.le_of_ble_eq_true rfl) rfl hus d kk
theorem wf_RX4_62 : Cond.fieldLink RX4 62 RX4 "beds" "I" ∈ gw := gw_at 243 (by decide +kernel) rfl
theorem gf_RX4_62 {cc : ByteArray} {fr lo nL : Nat} {G : Wc} {Γ : Cx} {us : List (Nat × Ob)} {pc : Nat} {L : List (Nat × Value)} {st : List Value} {u : Nat} {S : Ob} (i : Nat) (hu : us[i]? = some (u, S)) (hk : kd u = 4) (d : decode cc pc = .ok (.getfield 62, 3)) (kk : V cc RX4 fr lo nL G Γ us (pc + 3) L (.int (oI S 11) :: st)) : V cc RX4 fr lo nL G Γ us pc L (.ref (wA G u 0) :: st) :=
  V_get (T := TX4) 11 i (Or.inl wf_RX4_62) inX4 rfl (by decide) rfl hu hk (by decide) rfl rfl d kk
theorem pf_RX4_62 {cc : ByteArray} {fr lo nL : Nat} {G : Wc} {Γ : Cx} {us : List (Nat × Ob)} {pc : Nat} {L : List (Nat × Value)} {st : List Value} {u : Nat} {S : Ob} {v : Int32} (us1 : List (Nat × Ob)) (i : Nat) (hu : us[i]? = some (u, S)) (hk : kd u = 4) (hus : us.set i (u, sI S 11 v) = us1) (d : decode cc pc = .ok (.putfield 62, 3)) (kk : V cc RX4 fr lo nL G Γ us1 (pc + 3) L st) : V cc RX4 fr lo nL G Γ us pc L (.int v :: .ref (wA G u 0) :: st) :=
  V_put (T := TX4) (ty := .int) tyX4 11 i (Or.inl wf_RX4_62) inX4 tyX4_ok nmX4 rfl (by decide) rfl rfl (tyX4_ok 11 (by decide)) rfl rfl hu hk (by decide) rfl (Nat.le_of_ble_eq_true rfl) rfl hus d kk
theorem wf_RX4_65 : Cond.fieldLink RX4 65 RX4 "combTold" "Z" ∈ gw := gw_at 258 (by decide +kernel) rfl
theorem gf_RX4_65 {cc : ByteArray} {fr lo nL : Nat} {G : Wc} {Γ : Cx} {us : List (Nat × Ob)} {pc : Nat} {L : List (Nat × Value)} {st : List Value} {u : Nat} {S : Ob} (i : Nat) (hu : us[i]? = some (u, S)) (hk : kd u = 4) (d : decode cc pc = .ok (.getfield 65, 3)) (kk : V cc RX4 fr lo nL G Γ us (pc + 3) L (.int (oI S 15) :: st)) : V cc RX4 fr lo nL G Γ us pc L (.ref (wA G u 0) :: st) :=
  V_get (T := TX4) 15 i (Or.inl wf_RX4_65) inX4 rfl (by decide) rfl hu hk (by decide) rfl rfl d kk
theorem pf_RX4_65 {cc : ByteArray} {fr lo nL : Nat} {G : Wc} {Γ : Cx} {us : List (Nat × Ob)} {pc : Nat} {L : List (Nat × Value)} {st : List Value} {u : Nat} {S : Ob} {v : Int32} (us1 : List (Nat × Ob)) (i : Nat) (hu : us[i]? = some (u, S)) (hk : kd u = 4) (hz : z01 v = true) (hus : us.set i (u, sI S 15 v) = us1) (d : decode cc pc = .ok (.putfield 65, 3)) (kk : V cc RX4 fr lo nL G Γ us1 (pc + 3) L st) : V cc RX4 fr lo nL G Γ us pc L (.int v :: .ref (wA G u 0) :: st) :=
  V_put (T := TX4) (ty := .boolean) tyX4 15 i (Or.inl wf_RX4_65) inX4 tyX4_ok nmX4 rfl (by decide) rfl rfl (tyX4_ok 15 (by decide)) (z01_nar hz) (z01_fit hz) hu hk (by decide) rfl (Nat.le_of_ble_eq_true rfl) rfl hus d kk
theorem wf_RX4_80 : Cond.fieldLinkNest RX4 80 RX8 "kind" "I" "CombedOut" ∈ lw_tbl := List.mem_of_getElem? (i := 156) (by decide +kernel)
theorem gf_RX4_80 {cc : ByteArray} {fr lo nL : Nat} {G : Wc} {Γ : Cx} {us : List (Nat × Ob)} {pc : Nat} {L : List (Nat × Value)} {st : List Value} {u : Nat} {S : Ob} (i : Nat) (hu : us[i]? = some (u, S)) (hk : kd u = 8) (d : decode cc pc = .ok (.getfield 80, 3)) (kk : V cc RX4 fr lo nL G Γ us (pc + 3) L (.int (oI S 4) :: st)) : V cc RX4 fr lo nL G Γ us pc L (.ref (wA G u 0) :: st) :=
  V_get (T := TX8) 4 i (Or.inr ⟨_, wf_RX4_80⟩) inX8 rfl (by decide) rfl hu hk (by decide) rfl rfl d kk
theorem wf_RX4_91 : Cond.fieldLinkNest RX4 91 RX8 "word" "LCombedOut$Word;" "CombedOut" ∈ lw_tbl := List.mem_of_getElem? (i := 164) (by decide +kernel)
theorem gf_RX4_91 {cc : ByteArray} {fr lo nL : Nat} {G : Wc} {Γ : Cx} {us : List (Nat × Ob)} {pc : Nat} {L : List (Nat × Value)} {st : List Value} {u : Nat} {S : Ob} (i : Nat) (hu : us[i]? = some (u, S)) (hk : kd u = 8) (d : decode cc pc = .ok (.getfield 91, 3)) (kk : V cc RX4 fr lo nL G Γ us (pc + 3) L (va_re (wE G) (oW S 8) :: st)) : V cc RX4 fr lo nL G Γ us pc L (.ref (wA G u 0) :: st) :=
  V_get (T := TX8) 8 i (Or.inr ⟨_, wf_RX4_91⟩) inX8 rfl (by decide) rfl hu hk (by decide) rfl rfl d kk
theorem wf_RX4_95 : Cond.fieldLink RX4 95 "CombedOut$Word" "THING" "LCombedOut$Word;" ∈ gw := gw_at 613 (by decide +kernel) rfl
theorem wf_RX4_104 : Cond.fieldLink RX4 104 "CombedOut$Word" "PERSON" "LCombedOut$Word;" ∈ gw := gw_at 641 (by decide +kernel) rfl
theorem wf_RX4_110 : Cond.fieldLink RX4 110 "CombedOut$Word" "CAUGHT" "LCombedOut$Word;" ∈ gw := gw_at 647 (by decide +kernel) rfl
theorem wf_RX4_116 : Cond.fieldLink RX4 116 "CombedOut$Word" "DAILY" "LCombedOut$Word;" ∈ gw := gw_at 672 (by decide +kernel) rfl
theorem wf_RX4_122 : Cond.fieldLink RX4 122 "CombedOut$Word" "BED" "LCombedOut$Word;" ∈ gw := gw_at 678 (by decide +kernel) rfl
theorem wf_RX4_128 : Cond.fieldLink RX4 128 "CombedOut$Word" "COMB" "LCombedOut$Word;" ∈ gw := gw_at 684 (by decide +kernel) rfl
theorem wf_RX4_143 : Cond.fieldLinkNest RX4 143 RX8 "code" "J" "CombedOut" ∈ lw_tbl := List.mem_of_getElem? (i := 162) (by decide +kernel)
theorem gf_RX4_143 {cc : ByteArray} {fr lo nL : Nat} {G : Wc} {Γ : Cx} {us : List (Nat × Ob)} {pc : Nat} {L : List (Nat × Value)} {st : List Value} {u : Nat} {S : Ob} (i : Nat) (hu : us[i]? = some (u, S)) (hk : kd u = 8) (d : decode cc pc = .ok (.getfield 143, 3)) (kk : V cc RX4 fr lo nL G Γ us (pc + 3) L (.long (oL S 7) :: st)) : V cc RX4 fr lo nL G Γ us pc L (.ref (wA G u 0) :: st) :=
  V_get (T := TX8) 7 i (Or.inr ⟨_, wf_RX4_143⟩) inX8 rfl (by decide) rfl hu hk (by decide) rfl rfl d kk
theorem wf_RX5_13 : Cond.fieldLink RX5 13 RX5 "steps" "[LCombedOut$Word;" ∈ gw := gw_at 367 (by decide +kernel) rfl
theorem gf_RX5_13 {cc : ByteArray} {fr lo nL : Nat} {G : Wc} {Γ : Cx} {us : List (Nat × Ob)} {pc : Nat} {L : List (Nat × Value)} {st : List Value} {u : Nat} {S : Ob} (i : Nat) (hu : us[i]? = some (u, S)) (hk : kd u = 5) (d : decode cc pc = .ok (.getfield 13, 3)) (kk : V cc RX5 fr lo nL G Γ us (pc + 3) L (.ref (wA G u 1) :: st)) : V cc RX5 fr lo nL G Γ us pc L (.ref (wA G u 0) :: st) :=
  V_get (T := TX5) 0 i (Or.inl wf_RX5_13) inX5 rfl (by decide) rfl hu hk (by decide) rfl rfl d kk
theorem wf_RX5_17 : Cond.fieldLink RX5 17 RX5 "signs" "[I" ∈ gw := gw_at 368 (by decide +kernel) rfl
theorem gf_RX5_17 {cc : ByteArray} {fr lo nL : Nat} {G : Wc} {Γ : Cx} {us : List (Nat × Ob)} {pc : Nat} {L : List (Nat × Value)} {st : List Value} {u : Nat} {S : Ob} (i : Nat) (hu : us[i]? = some (u, S)) (hk : kd u = 5) (d : decode cc pc = .ok (.getfield 17, 3)) (kk : V cc RX5 fr lo nL G Γ us (pc + 3) L (.ref (wA G u 2) :: st)) : V cc RX5 fr lo nL G Γ us pc L (.ref (wA G u 0) :: st) :=
  V_get (T := TX5) 1 i (Or.inl wf_RX5_17) inX5 rfl (by decide) rfl hu hk (by decide) rfl rfl d kk
theorem wf_RX5_21 : Cond.fieldLink RX5 21 RX5 "values" "[I" ∈ gw := gw_at 369 (by decide +kernel) rfl
theorem gf_RX5_21 {cc : ByteArray} {fr lo nL : Nat} {G : Wc} {Γ : Cx} {us : List (Nat × Ob)} {pc : Nat} {L : List (Nat × Value)} {st : List Value} {u : Nat} {S : Ob} (i : Nat) (hu : us[i]? = some (u, S)) (hk : kd u = 5) (d : decode cc pc = .ok (.getfield 21, 3)) (kk : V cc RX5 fr lo nL G Γ us (pc + 3) L (.ref (wA G u 3) :: st)) : V cc RX5 fr lo nL G Γ us pc L (.ref (wA G u 0) :: st) :=
  V_get (T := TX5) 2 i (Or.inl wf_RX5_21) inX5 rfl (by decide) rfl hu hk (by decide) rfl rfl d kk
theorem wf_RX5_24 : Cond.fieldLink RX5 24 RX5 "size" "I" ∈ gw := gw_at 370 (by decide +kernel) rfl
theorem gf_RX5_24 {cc : ByteArray} {fr lo nL : Nat} {G : Wc} {Γ : Cx} {us : List (Nat × Ob)} {pc : Nat} {L : List (Nat × Value)} {st : List Value} {u : Nat} {S : Ob} (i : Nat) (hu : us[i]? = some (u, S)) (hk : kd u = 5) (d : decode cc pc = .ok (.getfield 24, 3)) (kk : V cc RX5 fr lo nL G Γ us (pc + 3) L (.int (oI S 3) :: st)) : V cc RX5 fr lo nL G Γ us pc L (.ref (wA G u 0) :: st) :=
  V_get (T := TX5) 3 i (Or.inl wf_RX5_24) inX5 rfl (by decide) rfl hu hk (by decide) rfl rfl d kk
theorem pf_RX5_24 {cc : ByteArray} {fr lo nL : Nat} {G : Wc} {Γ : Cx} {us : List (Nat × Ob)} {pc : Nat} {L : List (Nat × Value)} {st : List Value} {u : Nat} {S : Ob} {v : Int32} (us1 : List (Nat × Ob)) (i : Nat) (hu : us[i]? = some (u, S)) (hk : kd u = 5) (hus : us.set i (u, sI S 3 v) = us1) (d : decode cc pc = .ok (.putfield 24, 3)) (kk : V cc RX5 fr lo nL G Γ us1 (pc + 3) L st) : V cc RX5 fr lo nL G Γ us pc L (.int v :: .ref (wA G u 0) :: st) :=
  V_put (T := TX5) (ty := .int) tyX5 3 i (Or.inl wf_RX5_24) inX5 tyX5_ok nmX5 rfl (by decide) rfl rfl (tyX5_ok 3 (by decide)) rfl rfl hu hk (by decide) rfl (Nat.le_of_ble_eq_true rfl) rfl hus d kk
theorem wf_RX5_28 : Cond.fieldLink RX5 28 RX5 "ones" "I" ∈ gw := gw_at 371 (by decide +kernel) rfl
theorem gf_RX5_28 {cc : ByteArray} {fr lo nL : Nat} {G : Wc} {Γ : Cx} {us : List (Nat × Ob)} {pc : Nat} {L : List (Nat × Value)} {st : List Value} {u : Nat} {S : Ob} (i : Nat) (hu : us[i]? = some (u, S)) (hk : kd u = 5) (d : decode cc pc = .ok (.getfield 28, 3)) (kk : V cc RX5 fr lo nL G Γ us (pc + 3) L (.int (oI S 4) :: st)) : V cc RX5 fr lo nL G Γ us pc L (.ref (wA G u 0) :: st) :=
  V_get (T := TX5) 4 i (Or.inl wf_RX5_28) inX5 rfl (by decide) rfl hu hk (by decide) rfl rfl d kk
theorem pf_RX5_28 {cc : ByteArray} {fr lo nL : Nat} {G : Wc} {Γ : Cx} {us : List (Nat × Ob)} {pc : Nat} {L : List (Nat × Value)} {st : List Value} {u : Nat} {S : Ob} {v : Int32} (us1 : List (Nat × Ob)) (i : Nat) (hu : us[i]? = some (u, S)) (hk : kd u = 5) (hus : us.set i (u, sI S 4 v) = us1) (d : decode cc pc = .ok (.putfield 28, 3)) (kk : V cc RX5 fr lo nL G Γ us1 (pc + 3) L st) : V cc RX5 fr lo nL G Γ us pc L (.int v :: .ref (wA G u 0) :: st) :=
  V_put (T := TX5) (ty := .int) tyX5 4 i (Or.inl wf_RX5_28) inX5 tyX5_ok nmX5 rfl (by decide) rfl rfl (tyX5_ok 4 (by decide)) rfl rfl hu hk (by decide) rfl (Nat.le_of_ble_eq_true rfl) rfl hus d kk
theorem wf_RX5_50 : Cond.fieldLinkNest RX5 50 RX8 "kind" "I" "CombedOut" ∈ lw_tbl := List.mem_of_getElem? (i := 157) (by decide +kernel)
theorem gf_RX5_50 {cc : ByteArray} {fr lo nL : Nat} {G : Wc} {Γ : Cx} {us : List (Nat × Ob)} {pc : Nat} {L : List (Nat × Value)} {st : List Value} {u : Nat} {S : Ob} (i : Nat) (hu : us[i]? = some (u, S)) (hk : kd u = 8) (d : decode cc pc = .ok (.getfield 50, 3)) (kk : V cc RX5 fr lo nL G Γ us (pc + 3) L (.int (oI S 4) :: st)) : V cc RX5 fr lo nL G Γ us pc L (.ref (wA G u 0) :: st) :=
  V_get (T := TX8) 4 i (Or.inr ⟨_, wf_RX5_50⟩) inX8 rfl (by decide) rfl hu hk (by decide) rfl rfl d kk
theorem wf_RX5_60 : Cond.fieldLinkNest RX5 60 RX8 "word" "LCombedOut$Word;" "CombedOut" ∈ lw_tbl := List.mem_of_getElem? (i := 166) (by decide +kernel)
theorem gf_RX5_60 {cc : ByteArray} {fr lo nL : Nat} {G : Wc} {Γ : Cx} {us : List (Nat × Ob)} {pc : Nat} {L : List (Nat × Value)} {st : List Value} {u : Nat} {S : Ob} (i : Nat) (hu : us[i]? = some (u, S)) (hk : kd u = 8) (d : decode cc pc = .ok (.getfield 60, 3)) (kk : V cc RX5 fr lo nL G Γ us (pc + 3) L (va_re (wE G) (oW S 8) :: st)) : V cc RX5 fr lo nL G Γ us pc L (.ref (wA G u 0) :: st) :=
  V_get (T := TX8) 8 i (Or.inr ⟨_, wf_RX5_60⟩) inX8 rfl (by decide) rfl hu hk (by decide) rfl rfl d kk
theorem wf_RX5_64 : Cond.fieldLink RX5 64 "CombedOut$Word" "AND" "LCombedOut$Word;" ∈ gw := gw_at 1193 (by decide +kernel) rfl
theorem wf_RX5_67 : Cond.fieldLink RX5 67 "CombedOut$Word" "OR" "LCombedOut$Word;" ∈ gw := gw_at 1195 (by decide +kernel) rfl
theorem wf_RX5_84 : Cond.fieldLink RX5 84 "CombedOut$Word" "NOT" "LCombedOut$Word;" ∈ gw := gw_at 1159 (by decide +kernel) rfl
theorem wf_RX5_91 : Cond.fieldLink RX5 91 "CombedOut$Word" "BARE" "LCombedOut$Word;" ∈ gw := gw_at 1161 (by decide +kernel) rfl
theorem wf_RX5_94 : Cond.fieldLink RX5 94 "CombedOut$Word" "NEST" "LCombedOut$Word;" ∈ gw := gw_at 1162 (by decide +kernel) rfl
theorem wf_RX5_97 : Cond.fieldLink RX5 97 "CombedOut$Word" "SORE" "LCombedOut$Word;" ∈ gw := gw_at 1164 (by decide +kernel) rfl
theorem wf_RX5_100 : Cond.fieldLink RX5 100 "CombedOut$Word" "HAS" "LCombedOut$Word;" ∈ gw := gw_at 1166 (by decide +kernel) rfl
theorem wf_RX5_103 : Cond.fieldLink RX5 103 "CombedOut$Word" "LIKE" "LCombedOut$Word;" ∈ gw := gw_at 1168 (by decide +kernel) rfl
theorem wf_RX5_109 : Cond.fieldLink RX5 109 "CombedOut$Word" "CAUGHT" "LCombedOut$Word;" ∈ gw := gw_at 1173 (by decide +kernel) rfl
theorem wf_RX5_112 : Cond.fieldLink RX5 112 "CombedOut$Word" "KNOTS" "LCombedOut$Word;" ∈ gw := gw_at 1174 (by decide +kernel) rfl
theorem wf_RX5_115 : Cond.fieldLink RX5 115 "CombedOut$Word" "PAIN" "LCombedOut$Word;" ∈ gw := gw_at 1176 (by decide +kernel) rfl
theorem wf_RX5_118 : Cond.fieldLink RX5 118 "CombedOut$Word" "NUMBER" "LCombedOut$Word;" ∈ gw := gw_at 1178 (by decide +kernel) rfl
theorem wf_RX5_121 : Cond.fieldLinkNest RX5 121 RX4 "thingNames" "[J" "CombedOut" ∈ lw_tbl := List.mem_of_getElem? (i := 210) (by decide +kernel)
theorem gf_RX5_121 {cc : ByteArray} {fr lo nL : Nat} {G : Wc} {Γ : Cx} {us : List (Nat × Ob)} {pc : Nat} {L : List (Nat × Value)} {st : List Value} {u : Nat} {S : Ob} (i : Nat) (hu : us[i]? = some (u, S)) (hk : kd u = 4) (d : decode cc pc = .ok (.getfield 121, 3)) (kk : V cc RX5 fr lo nL G Γ us (pc + 3) L (.ref (wA G u 2) :: st)) : V cc RX5 fr lo nL G Γ us pc L (.ref (wA G u 0) :: st) :=
  V_get (T := TX4) 1 i (Or.inr ⟨_, wf_RX5_121⟩) inX4 rfl (by decide) rfl hu hk (by decide) rfl rfl d kk
theorem wf_RX5_127 : Cond.fieldLinkNest RX5 127 RX4 "things" "I" "CombedOut" ∈ lw_tbl := List.mem_of_getElem? (i := 204) (by decide +kernel)
theorem gf_RX5_127 {cc : ByteArray} {fr lo nL : Nat} {G : Wc} {Γ : Cx} {us : List (Nat × Ob)} {pc : Nat} {L : List (Nat × Value)} {st : List Value} {u : Nat} {S : Ob} (i : Nat) (hu : us[i]? = some (u, S)) (hk : kd u = 4) (d : decode cc pc = .ok (.getfield 127, 3)) (kk : V cc RX5 fr lo nL G Γ us (pc + 3) L (.int (oI S 0) :: st)) : V cc RX5 fr lo nL G Γ us pc L (.ref (wA G u 0) :: st) :=
  V_get (T := TX4) 0 i (Or.inr ⟨_, wf_RX5_127⟩) inX4 rfl (by decide) rfl hu hk (by decide) rfl rfl d kk
theorem wf_RX5_134 : Cond.fieldLinkNest RX5 134 RX4 "personNames" "[J" "CombedOut" ∈ lw_tbl := List.mem_of_getElem? (i := 227) (by decide +kernel)
theorem gf_RX5_134 {cc : ByteArray} {fr lo nL : Nat} {G : Wc} {Γ : Cx} {us : List (Nat × Ob)} {pc : Nat} {L : List (Nat × Value)} {st : List Value} {u : Nat} {S : Ob} (i : Nat) (hu : us[i]? = some (u, S)) (hk : kd u = 4) (d : decode cc pc = .ok (.getfield 134, 3)) (kk : V cc RX5 fr lo nL G Γ us (pc + 3) L (.ref (wA G u 6) :: st)) : V cc RX5 fr lo nL G Γ us pc L (.ref (wA G u 0) :: st) :=
  V_get (T := TX4) 5 i (Or.inr ⟨_, wf_RX5_134⟩) inX4 rfl (by decide) rfl hu hk (by decide) rfl rfl d kk
theorem wf_RX5_137 : Cond.fieldLinkNest RX5 137 RX4 "persons" "I" "CombedOut" ∈ lw_tbl := List.mem_of_getElem? (i := 221) (by decide +kernel)
theorem gf_RX5_137 {cc : ByteArray} {fr lo nL : Nat} {G : Wc} {Γ : Cx} {us : List (Nat × Ob)} {pc : Nat} {L : List (Nat × Value)} {st : List Value} {u : Nat} {S : Ob} (i : Nat) (hu : us[i]? = some (u, S)) (hk : kd u = 4) (d : decode cc pc = .ok (.getfield 137, 3)) (kk : V cc RX5 fr lo nL G Γ us (pc + 3) L (.int (oI S 4) :: st)) : V cc RX5 fr lo nL G Γ us pc L (.ref (wA G u 0) :: st) :=
  V_get (T := TX4) 4 i (Or.inr ⟨_, wf_RX5_137⟩) inX4 rfl (by decide) rfl hu hk (by decide) rfl rfl d kk
theorem wf_RX5_148 : Cond.fieldLinkNest RX5 148 RX6 "heights" "[I" "CombedOut" ∈ lw_tbl := List.mem_of_getElem? (i := 304) (by decide +kernel)
theorem gf_RX5_148 {cc : ByteArray} {fr lo nL : Nat} {G : Wc} {Γ : Cx} {us : List (Nat × Ob)} {pc : Nat} {L : List (Nat × Value)} {st : List Value} {u : Nat} {S : Ob} (i : Nat) (hu : us[i]? = some (u, S)) (hk : kd u = 6) (d : decode cc pc = .ok (.getfield 148, 3)) (kk : V cc RX5 fr lo nL G Γ us (pc + 3) L (.ref (wA G u 2) :: st)) : V cc RX5 fr lo nL G Γ us pc L (.ref (wA G u 0) :: st) :=
  V_get (T := TX6) 1 i (Or.inr ⟨_, wf_RX5_148⟩) inX6 rfl (by decide) rfl hu hk (by decide) rfl rfl d kk
theorem wf_RX5_156 : Cond.fieldLinkNest RX5 156 RX6 "pains" "[I" "CombedOut" ∈ lw_tbl := List.mem_of_getElem? (i := 308) (by decide +kernel)
theorem gf_RX5_156 {cc : ByteArray} {fr lo nL : Nat} {G : Wc} {Γ : Cx} {us : List (Nat × Ob)} {pc : Nat} {L : List (Nat × Value)} {st : List Value} {u : Nat} {S : Ob} (i : Nat) (hu : us[i]? = some (u, S)) (hk : kd u = 6) (d : decode cc pc = .ok (.getfield 156, 3)) (kk : V cc RX5 fr lo nL G Γ us (pc + 3) L (.ref (wA G u 3) :: st)) : V cc RX5 fr lo nL G Γ us pc L (.ref (wA G u 0) :: st) :=
  V_get (T := TX6) 2 i (Or.inr ⟨_, wf_RX5_156⟩) inX6 rfl (by decide) rfl hu hk (by decide) rfl rfl d kk
theorem wf_RX5_159 : Cond.fieldLinkNest RX5 159 RX4 "bears" "[I" "CombedOut" ∈ lw_tbl := List.mem_of_getElem? (i := 231) (by decide +kernel)
theorem gf_RX5_159 {cc : ByteArray} {fr lo nL : Nat} {G : Wc} {Γ : Cx} {us : List (Nat × Ob)} {pc : Nat} {L : List (Nat × Value)} {st : List Value} {u : Nat} {S : Ob} (i : Nat) (hu : us[i]? = some (u, S)) (hk : kd u = 4) (d : decode cc pc = .ok (.getfield 159, 3)) (kk : V cc RX5 fr lo nL G Γ us (pc + 3) L (.ref (wA G u 7) :: st)) : V cc RX5 fr lo nL G Γ us pc L (.ref (wA G u 0) :: st) :=
  V_get (T := TX4) 6 i (Or.inr ⟨_, wf_RX5_159⟩) inX4 rfl (by decide) rfl hu hk (by decide) rfl rfl d kk
theorem wf_RX6_9 : Cond.fieldLink RX6 9 RX6 "rows" "[I" ∈ gw := gw_at 299 (by decide +kernel) rfl
theorem gf_RX6_9 {cc : ByteArray} {fr lo nL : Nat} {G : Wc} {Γ : Cx} {us : List (Nat × Ob)} {pc : Nat} {L : List (Nat × Value)} {st : List Value} {u : Nat} {S : Ob} (i : Nat) (hu : us[i]? = some (u, S)) (hk : kd u = 6) (d : decode cc pc = .ok (.getfield 9, 3)) (kk : V cc RX6 fr lo nL G Γ us (pc + 3) L (.ref (wA G u 1) :: st)) : V cc RX6 fr lo nL G Γ us pc L (.ref (wA G u 0) :: st) :=
  V_get (T := TX6) 0 i (Or.inl wf_RX6_9) inX6 rfl (by decide) rfl hu hk (by decide) rfl rfl d kk
theorem wf_RX6_15 : Cond.fieldLink RX6 15 RX6 "heights" "[I" ∈ gw := gw_at 300 (by decide +kernel) rfl
theorem gf_RX6_15 {cc : ByteArray} {fr lo nL : Nat} {G : Wc} {Γ : Cx} {us : List (Nat × Ob)} {pc : Nat} {L : List (Nat × Value)} {st : List Value} {u : Nat} {S : Ob} (i : Nat) (hu : us[i]? = some (u, S)) (hk : kd u = 6) (d : decode cc pc = .ok (.getfield 15, 3)) (kk : V cc RX6 fr lo nL G Γ us (pc + 3) L (.ref (wA G u 2) :: st)) : V cc RX6 fr lo nL G Γ us pc L (.ref (wA G u 0) :: st) :=
  V_get (T := TX6) 1 i (Or.inl wf_RX6_15) inX6 rfl (by decide) rfl hu hk (by decide) rfl rfl d kk
theorem wf_RX6_18 : Cond.fieldLink RX6 18 RX6 "pains" "[I" ∈ gw := gw_at 305 (by decide +kernel) rfl
theorem gf_RX6_18 {cc : ByteArray} {fr lo nL : Nat} {G : Wc} {Γ : Cx} {us : List (Nat × Ob)} {pc : Nat} {L : List (Nat × Value)} {st : List Value} {u : Nat} {S : Ob} (i : Nat) (hu : us[i]? = some (u, S)) (hk : kd u = 6) (d : decode cc pc = .ok (.getfield 18, 3)) (kk : V cc RX6 fr lo nL G Γ us (pc + 3) L (.ref (wA G u 3) :: st)) : V cc RX6 fr lo nL G Γ us pc L (.ref (wA G u 0) :: st) :=
  V_get (T := TX6) 2 i (Or.inl wf_RX6_18) inX6 rfl (by decide) rfl hu hk (by decide) rfl rfl d kk
theorem wf_RX6_21 : Cond.fieldLink RX6 21 RX6 "bag" "[I" ∈ gw := gw_at 309 (by decide +kernel) rfl
theorem gf_RX6_21 {cc : ByteArray} {fr lo nL : Nat} {G : Wc} {Γ : Cx} {us : List (Nat × Ob)} {pc : Nat} {L : List (Nat × Value)} {st : List Value} {u : Nat} {S : Ob} (i : Nat) (hu : us[i]? = some (u, S)) (hk : kd u = 6) (d : decode cc pc = .ok (.getfield 21, 3)) (kk : V cc RX6 fr lo nL G Γ us (pc + 3) L (.ref (wA G u 4) :: st)) : V cc RX6 fr lo nL G Γ us pc L (.ref (wA G u 0) :: st) :=
  V_get (T := TX6) 3 i (Or.inl wf_RX6_21) inX6 rfl (by decide) rfl hu hk (by decide) rfl rfl d kk
theorem wf_RX6_24 : Cond.fieldLink RX6 24 RX6 "stuffed" "[I" ∈ gw := gw_at 312 (by decide +kernel) rfl
theorem gf_RX6_24 {cc : ByteArray} {fr lo nL : Nat} {G : Wc} {Γ : Cx} {us : List (Nat × Ob)} {pc : Nat} {L : List (Nat × Value)} {st : List Value} {u : Nat} {S : Ob} (i : Nat) (hu : us[i]? = some (u, S)) (hk : kd u = 6) (d : decode cc pc = .ok (.getfield 24, 3)) (kk : V cc RX6 fr lo nL G Γ us (pc + 3) L (.ref (wA G u 5) :: st)) : V cc RX6 fr lo nL G Γ us pc L (.ref (wA G u 0) :: st) :=
  V_get (T := TX6) 4 i (Or.inl wf_RX6_24) inX6 rfl (by decide) rfl hu hk (by decide) rfl rfl d kk
theorem wf_RX6_27 : Cond.fieldLink RX6 27 RX6 "springs" "[I" ∈ gw := gw_at 313 (by decide +kernel) rfl
theorem gf_RX6_27 {cc : ByteArray} {fr lo nL : Nat} {G : Wc} {Γ : Cx} {us : List (Nat × Ob)} {pc : Nat} {L : List (Nat × Value)} {st : List Value} {u : Nat} {S : Ob} (i : Nat) (hu : us[i]? = some (u, S)) (hk : kd u = 6) (d : decode cc pc = .ok (.getfield 27, 3)) (kk : V cc RX6 fr lo nL G Γ us (pc + 3) L (.ref (wA G u 6) :: st)) : V cc RX6 fr lo nL G Γ us pc L (.ref (wA G u 0) :: st) :=
  V_get (T := TX6) 5 i (Or.inl wf_RX6_27) inX6 rfl (by decide) rfl hu hk (by decide) rfl rfl d kk
theorem wf_RX6_30 : Cond.fieldLink RX6 30 RX6 "fillings" "[I" ∈ gw := gw_at 316 (by decide +kernel) rfl
theorem gf_RX6_30 {cc : ByteArray} {fr lo nL : Nat} {G : Wc} {Γ : Cx} {us : List (Nat × Ob)} {pc : Nat} {L : List (Nat × Value)} {st : List Value} {u : Nat} {S : Ob} (i : Nat) (hu : us[i]? = some (u, S)) (hk : kd u = 6) (d : decode cc pc = .ok (.getfield 30, 3)) (kk : V cc RX6 fr lo nL G Γ us (pc + 3) L (.ref (wA G u 7) :: st)) : V cc RX6 fr lo nL G Γ us pc L (.ref (wA G u 0) :: st) :=
  V_get (T := TX6) 6 i (Or.inl wf_RX6_30) inX6 rfl (by decide) rfl hu hk (by decide) rfl rfl d kk
theorem wf_RX6_33 : Cond.fieldLink RX6 33 RX6 "inBag" "I" ∈ gw := gw_at 318 (by decide +kernel) rfl
theorem gf_RX6_33 {cc : ByteArray} {fr lo nL : Nat} {G : Wc} {Γ : Cx} {us : List (Nat × Ob)} {pc : Nat} {L : List (Nat × Value)} {st : List Value} {u : Nat} {S : Ob} (i : Nat) (hu : us[i]? = some (u, S)) (hk : kd u = 6) (d : decode cc pc = .ok (.getfield 33, 3)) (kk : V cc RX6 fr lo nL G Γ us (pc + 3) L (.int (oI S 7) :: st)) : V cc RX6 fr lo nL G Γ us pc L (.ref (wA G u 0) :: st) :=
  V_get (T := TX6) 7 i (Or.inl wf_RX6_33) inX6 rfl (by decide) rfl hu hk (by decide) rfl rfl d kk
theorem pf_RX6_33 {cc : ByteArray} {fr lo nL : Nat} {G : Wc} {Γ : Cx} {us : List (Nat × Ob)} {pc : Nat} {L : List (Nat × Value)} {st : List Value} {u : Nat} {S : Ob} {v : Int32} (us1 : List (Nat × Ob)) (i : Nat) (hu : us[i]? = some (u, S)) (hk : kd u = 6) (hus : us.set i (u, sI S 7 v) = us1) (d : decode cc pc = .ok (.putfield 33, 3)) (kk : V cc RX6 fr lo nL G Γ us1 (pc + 3) L st) : V cc RX6 fr lo nL G Γ us pc L (.int v :: .ref (wA G u 0) :: st) :=
  V_put (T := TX6) (ty := .int) tyX6 7 i (Or.inl wf_RX6_33) inX6 tyX6_ok nmX6 rfl (by decide) rfl rfl (tyX6_ok 7 (by decide)) rfl rfl hu hk (by decide) rfl (Nat.le_of_ble_eq_true rfl) rfl hus d kk
theorem wf_RX6_37 : Cond.fieldLink RX6 37 RX6 "day" "I" ∈ gw := gw_at 321 (by decide +kernel) rfl
theorem gf_RX6_37 {cc : ByteArray} {fr lo nL : Nat} {G : Wc} {Γ : Cx} {us : List (Nat × Ob)} {pc : Nat} {L : List (Nat × Value)} {st : List Value} {u : Nat} {S : Ob} (i : Nat) (hu : us[i]? = some (u, S)) (hk : kd u = 6) (d : decode cc pc = .ok (.getfield 37, 3)) (kk : V cc RX6 fr lo nL G Γ us (pc + 3) L (.int (oI S 8) :: st)) : V cc RX6 fr lo nL G Γ us pc L (.ref (wA G u 0) :: st) :=
  V_get (T := TX6) 8 i (Or.inl wf_RX6_37) inX6 rfl (by decide) rfl hu hk (by decide) rfl rfl d kk
theorem pf_RX6_37 {cc : ByteArray} {fr lo nL : Nat} {G : Wc} {Γ : Cx} {us : List (Nat × Ob)} {pc : Nat} {L : List (Nat × Value)} {st : List Value} {u : Nat} {S : Ob} {v : Int32} (us1 : List (Nat × Ob)) (i : Nat) (hu : us[i]? = some (u, S)) (hk : kd u = 6) (hus : us.set i (u, sI S 8 v) = us1) (d : decode cc pc = .ok (.putfield 37, 3)) (kk : V cc RX6 fr lo nL G Γ us1 (pc + 3) L st) : V cc RX6 fr lo nL G Γ us pc L (.int v :: .ref (wA G u 0) :: st) :=
  V_put (T := TX6) (ty := .int) tyX6 8 i (Or.inl wf_RX6_37) inX6 tyX6_ok nmX6 rfl (by decide) rfl rfl (tyX6_ok 8 (by decide)) rfl rfl hu hk (by decide) rfl (Nat.le_of_ble_eq_true rfl) rfl hus d kk
theorem wf_RX6_40 : Cond.fieldLink RX6 40 RX6 "strokes" "I" ∈ gw := gw_at 325 (by decide +kernel) rfl
theorem gf_RX6_40 {cc : ByteArray} {fr lo nL : Nat} {G : Wc} {Γ : Cx} {us : List (Nat × Ob)} {pc : Nat} {L : List (Nat × Value)} {st : List Value} {u : Nat} {S : Ob} (i : Nat) (hu : us[i]? = some (u, S)) (hk : kd u = 6) (d : decode cc pc = .ok (.getfield 40, 3)) (kk : V cc RX6 fr lo nL G Γ us (pc + 3) L (.int (oI S 9) :: st)) : V cc RX6 fr lo nL G Γ us pc L (.ref (wA G u 0) :: st) :=
  V_get (T := TX6) 9 i (Or.inl wf_RX6_40) inX6 rfl (by decide) rfl hu hk (by decide) rfl rfl d kk
theorem pf_RX6_40 {cc : ByteArray} {fr lo nL : Nat} {G : Wc} {Γ : Cx} {us : List (Nat × Ob)} {pc : Nat} {L : List (Nat × Value)} {st : List Value} {u : Nat} {S : Ob} {v : Int32} (us1 : List (Nat × Ob)) (i : Nat) (hu : us[i]? = some (u, S)) (hk : kd u = 6) (hus : us.set i (u, sI S 9 v) = us1) (d : decode cc pc = .ok (.putfield 40, 3)) (kk : V cc RX6 fr lo nL G Γ us1 (pc + 3) L st) : V cc RX6 fr lo nL G Γ us pc L (.int v :: .ref (wA G u 0) :: st) :=
  V_put (T := TX6) (ty := .int) tyX6 9 i (Or.inl wf_RX6_40) inX6 tyX6_ok nmX6 rfl (by decide) rfl rfl (tyX6_ok 9 (by decide)) rfl rfl hu hk (by decide) rfl (Nat.le_of_ble_eq_true rfl) rfl hus d kk
theorem wf_RX6_43 : Cond.fieldLink RX6 43 RX6 "cuts" "I" ∈ gw := gw_at 327 (by decide +kernel) rfl
theorem gf_RX6_43 {cc : ByteArray} {fr lo nL : Nat} {G : Wc} {Γ : Cx} {us : List (Nat × Ob)} {pc : Nat} {L : List (Nat × Value)} {st : List Value} {u : Nat} {S : Ob} (i : Nat) (hu : us[i]? = some (u, S)) (hk : kd u = 6) (d : decode cc pc = .ok (.getfield 43, 3)) (kk : V cc RX6 fr lo nL G Γ us (pc + 3) L (.int (oI S 10) :: st)) : V cc RX6 fr lo nL G Γ us pc L (.ref (wA G u 0) :: st) :=
  V_get (T := TX6) 10 i (Or.inl wf_RX6_43) inX6 rfl (by decide) rfl hu hk (by decide) rfl rfl d kk
theorem pf_RX6_43 {cc : ByteArray} {fr lo nL : Nat} {G : Wc} {Γ : Cx} {us : List (Nat × Ob)} {pc : Nat} {L : List (Nat × Value)} {st : List Value} {u : Nat} {S : Ob} {v : Int32} (us1 : List (Nat × Ob)) (i : Nat) (hu : us[i]? = some (u, S)) (hk : kd u = 6) (hus : us.set i (u, sI S 10 v) = us1) (d : decode cc pc = .ok (.putfield 43, 3)) (kk : V cc RX6 fr lo nL G Γ us1 (pc + 3) L st) : V cc RX6 fr lo nL G Γ us pc L (.int v :: .ref (wA G u 0) :: st) :=
  V_put (T := TX6) (ty := .int) tyX6 10 i (Or.inl wf_RX6_43) inX6 tyX6_ok nmX6 rfl (by decide) rfl rfl (tyX6_ok 10 (by decide)) rfl rfl hu hk (by decide) rfl (Nat.le_of_ble_eq_true rfl) rfl hus d kk
theorem wf_RX6_46 : Cond.fieldLink RX6 46 RX6 "lost" "I" ∈ gw := gw_at 329 (by decide +kernel) rfl
theorem gf_RX6_46 {cc : ByteArray} {fr lo nL : Nat} {G : Wc} {Γ : Cx} {us : List (Nat × Ob)} {pc : Nat} {L : List (Nat × Value)} {st : List Value} {u : Nat} {S : Ob} (i : Nat) (hu : us[i]? = some (u, S)) (hk : kd u = 6) (d : decode cc pc = .ok (.getfield 46, 3)) (kk : V cc RX6 fr lo nL G Γ us (pc + 3) L (.int (oI S 11) :: st)) : V cc RX6 fr lo nL G Γ us pc L (.ref (wA G u 0) :: st) :=
  V_get (T := TX6) 11 i (Or.inl wf_RX6_46) inX6 rfl (by decide) rfl hu hk (by decide) rfl rfl d kk
theorem pf_RX6_46 {cc : ByteArray} {fr lo nL : Nat} {G : Wc} {Γ : Cx} {us : List (Nat × Ob)} {pc : Nat} {L : List (Nat × Value)} {st : List Value} {u : Nat} {S : Ob} {v : Int32} (us1 : List (Nat × Ob)) (i : Nat) (hu : us[i]? = some (u, S)) (hk : kd u = 6) (hus : us.set i (u, sI S 11 v) = us1) (d : decode cc pc = .ok (.putfield 46, 3)) (kk : V cc RX6 fr lo nL G Γ us1 (pc + 3) L st) : V cc RX6 fr lo nL G Γ us pc L (.int v :: .ref (wA G u 0) :: st) :=
  V_put (T := TX6) (ty := .int) tyX6 11 i (Or.inl wf_RX6_46) inX6 tyX6_ok nmX6 rfl (by decide) rfl rfl (tyX6_ok 11 (by decide)) rfl rfl hu hk (by decide) rfl (Nat.le_of_ble_eq_true rfl) rfl hus d kk
theorem wf_RX6_59 : Cond.fieldLinkNest RX6 59 RX4 "holds" "[I" "CombedOut" ∈ lw_tbl := List.mem_of_getElem? (i := 213) (by decide +kernel)
theorem gf_RX6_59 {cc : ByteArray} {fr lo nL : Nat} {G : Wc} {Γ : Cx} {us : List (Nat × Ob)} {pc : Nat} {L : List (Nat × Value)} {st : List Value} {u : Nat} {S : Ob} (i : Nat) (hu : us[i]? = some (u, S)) (hk : kd u = 4) (d : decode cc pc = .ok (.getfield 59, 3)) (kk : V cc RX6 fr lo nL G Γ us (pc + 3) L (.ref (wA G u 3) :: st)) : V cc RX6 fr lo nL G Γ us pc L (.ref (wA G u 0) :: st) :=
  V_get (T := TX4) 2 i (Or.inr ⟨_, wf_RX6_59⟩) inX4 rfl (by decide) rfl hu hk (by decide) rfl rfl d kk
theorem wf_RX6_71 : Cond.fieldLinkNest RX6 71 RX4 "persons" "I" "CombedOut" ∈ lw_tbl := List.mem_of_getElem? (i := 222) (by decide +kernel)
theorem gf_RX6_71 {cc : ByteArray} {fr lo nL : Nat} {G : Wc} {Γ : Cx} {us : List (Nat × Ob)} {pc : Nat} {L : List (Nat × Value)} {st : List Value} {u : Nat} {S : Ob} (i : Nat) (hu : us[i]? = some (u, S)) (hk : kd u = 4) (d : decode cc pc = .ok (.getfield 71, 3)) (kk : V cc RX6 fr lo nL G Γ us (pc + 3) L (.int (oI S 4) :: st)) : V cc RX6 fr lo nL G Γ us pc L (.ref (wA G u 0) :: st) :=
  V_get (T := TX4) 4 i (Or.inr ⟨_, wf_RX6_71⟩) inX4 rfl (by decide) rfl hu hk (by decide) rfl rfl d kk
theorem wf_RX6_78 : Cond.fieldLinkNest RX6 78 RX4 "needs" "[I" "CombedOut" ∈ lw_tbl := List.mem_of_getElem? (i := 253) (by decide +kernel)
theorem gf_RX6_78 {cc : ByteArray} {fr lo nL : Nat} {G : Wc} {Γ : Cx} {us : List (Nat × Ob)} {pc : Nat} {L : List (Nat × Value)} {st : List Value} {u : Nat} {S : Ob} (i : Nat) (hu : us[i]? = some (u, S)) (hk : kd u = 4) (d : decode cc pc = .ok (.getfield 78, 3)) (kk : V cc RX6 fr lo nL G Γ us (pc + 3) L (.ref (wA G u 14) :: st)) : V cc RX6 fr lo nL G Γ us pc L (.ref (wA G u 0) :: st) :=
  V_get (T := TX4) 13 i (Or.inr ⟨_, wf_RX6_78⟩) inX4 rfl (by decide) rfl hu hk (by decide) rfl rfl d kk
theorem wf_RX6_81 : Cond.fieldLinkNest RX6 81 RX4 "beds" "I" "CombedOut" ∈ lw_tbl := List.mem_of_getElem? (i := 246) (by decide +kernel)
theorem gf_RX6_81 {cc : ByteArray} {fr lo nL : Nat} {G : Wc} {Γ : Cx} {us : List (Nat × Ob)} {pc : Nat} {L : List (Nat × Value)} {st : List Value} {u : Nat} {S : Ob} (i : Nat) (hu : us[i]? = some (u, S)) (hk : kd u = 4) (d : decode cc pc = .ok (.getfield 81, 3)) (kk : V cc RX6 fr lo nL G Γ us (pc + 3) L (.int (oI S 11) :: st)) : V cc RX6 fr lo nL G Γ us pc L (.ref (wA G u 0) :: st) :=
  V_get (T := TX4) 11 i (Or.inr ⟨_, wf_RX6_81⟩) inX4 rfl (by decide) rfl hu hk (by decide) rfl rfl d kk
theorem wf_RX6_96 : Cond.fieldLinkNest RX6 96 RX4 "comb" "I" "CombedOut" ∈ lw_tbl := List.mem_of_getElem? (i := 256) (by decide +kernel)
theorem gf_RX6_96 {cc : ByteArray} {fr lo nL : Nat} {G : Wc} {Γ : Cx} {us : List (Nat × Ob)} {pc : Nat} {L : List (Nat × Value)} {st : List Value} {u : Nat} {S : Ob} (i : Nat) (hu : us[i]? = some (u, S)) (hk : kd u = 4) (d : decode cc pc = .ok (.getfield 96, 3)) (kk : V cc RX6 fr lo nL G Γ us (pc + 3) L (.int (oI S 14) :: st)) : V cc RX6 fr lo nL G Γ us pc L (.ref (wA G u 0) :: st) :=
  V_get (T := TX4) 14 i (Or.inr ⟨_, wf_RX6_96⟩) inX4 rfl (by decide) rfl hu hk (by decide) rfl rfl d kk
theorem wf_RX6_99 : Cond.fieldLinkNest RX6 99 RX4 "bears" "[I" "CombedOut" ∈ lw_tbl := List.mem_of_getElem? (i := 232) (by decide +kernel)
theorem gf_RX6_99 {cc : ByteArray} {fr lo nL : Nat} {G : Wc} {Γ : Cx} {us : List (Nat × Ob)} {pc : Nat} {L : List (Nat × Value)} {st : List Value} {u : Nat} {S : Ob} (i : Nat) (hu : us[i]? = some (u, S)) (hk : kd u = 4) (d : decode cc pc = .ok (.getfield 99, 3)) (kk : V cc RX6 fr lo nL G Γ us (pc + 3) L (.ref (wA G u 7) :: st)) : V cc RX6 fr lo nL G Γ us pc L (.ref (wA G u 0) :: st) :=
  V_get (T := TX4) 6 i (Or.inr ⟨_, wf_RX6_99⟩) inX4 rfl (by decide) rfl hu hk (by decide) rfl rfl d kk
theorem wf_RX6_114 : Cond.fieldLinkNest RX6 114 RX4 "springs" "[I" "CombedOut" ∈ lw_tbl := List.mem_of_getElem? (i := 217) (by decide +kernel)
theorem gf_RX6_114 {cc : ByteArray} {fr lo nL : Nat} {G : Wc} {Γ : Cx} {us : List (Nat × Ob)} {pc : Nat} {L : List (Nat × Value)} {st : List Value} {u : Nat} {S : Ob} (i : Nat) (hu : us[i]? = some (u, S)) (hk : kd u = 4) (d : decode cc pc = .ok (.getfield 114, 3)) (kk : V cc RX6 fr lo nL G Γ us (pc + 3) L (.ref (wA G u 4) :: st)) : V cc RX6 fr lo nL G Γ us pc L (.ref (wA G u 0) :: st) :=
  V_get (T := TX4) 3 i (Or.inr ⟨_, wf_RX6_114⟩) inX4 rfl (by decide) rfl hu hk (by decide) rfl rfl d kk
theorem wf_RX6_119 : Cond.fieldLinkNest RX6 119 RX4 "dailies" "I" "CombedOut" ∈ lw_tbl := List.mem_of_getElem? (i := 235) (by decide +kernel)
theorem gf_RX6_119 {cc : ByteArray} {fr lo nL : Nat} {G : Wc} {Γ : Cx} {us : List (Nat × Ob)} {pc : Nat} {L : List (Nat × Value)} {st : List Value} {u : Nat} {S : Ob} (i : Nat) (hu : us[i]? = some (u, S)) (hk : kd u = 4) (d : decode cc pc = .ok (.getfield 119, 3)) (kk : V cc RX6 fr lo nL G Γ us (pc + 3) L (.int (oI S 7) :: st)) : V cc RX6 fr lo nL G Γ us pc L (.ref (wA G u 0) :: st) :=
  V_get (T := TX4) 7 i (Or.inr ⟨_, wf_RX6_119⟩) inX4 rfl (by decide) rfl hu hk (by decide) rfl rfl d kk
theorem wf_RX6_125 : Cond.fieldLinkNest RX6 125 RX4 "dailyPersons" "[I" "CombedOut" ∈ lw_tbl := List.mem_of_getElem? (i := 239) (by decide +kernel)
theorem gf_RX6_125 {cc : ByteArray} {fr lo nL : Nat} {G : Wc} {Γ : Cx} {us : List (Nat × Ob)} {pc : Nat} {L : List (Nat × Value)} {st : List Value} {u : Nat} {S : Ob} (i : Nat) (hu : us[i]? = some (u, S)) (hk : kd u = 4) (d : decode cc pc = .ok (.getfield 125, 3)) (kk : V cc RX6 fr lo nL G Γ us (pc + 3) L (.ref (wA G u 9) :: st)) : V cc RX6 fr lo nL G Γ us pc L (.ref (wA G u 0) :: st) :=
  V_get (T := TX4) 8 i (Or.inr ⟨_, wf_RX6_125⟩) inX4 rfl (by decide) rfl hu hk (by decide) rfl rfl d kk
theorem wf_RX6_128 : Cond.fieldLinkNest RX6 128 RX4 "dailyThings" "[I" "CombedOut" ∈ lw_tbl := List.mem_of_getElem? (i := 241) (by decide +kernel)
theorem gf_RX6_128 {cc : ByteArray} {fr lo nL : Nat} {G : Wc} {Γ : Cx} {us : List (Nat × Ob)} {pc : Nat} {L : List (Nat × Value)} {st : List Value} {u : Nat} {S : Ob} (i : Nat) (hu : us[i]? = some (u, S)) (hk : kd u = 4) (d : decode cc pc = .ok (.getfield 128, 3)) (kk : V cc RX6 fr lo nL G Γ us (pc + 3) L (.ref (wA G u 10) :: st)) : V cc RX6 fr lo nL G Γ us pc L (.ref (wA G u 0) :: st) :=
  V_get (T := TX4) 9 i (Or.inr ⟨_, wf_RX6_128⟩) inX4 rfl (by decide) rfl hu hk (by decide) rfl rfl d kk
theorem wf_RX6_135 : Cond.fieldLink RX6 135 RX6 "seed" "I" ∈ gw := gw_at 331 (by decide +kernel) rfl
theorem gf_RX6_135 {cc : ByteArray} {fr lo nL : Nat} {G : Wc} {Γ : Cx} {us : List (Nat × Ob)} {pc : Nat} {L : List (Nat × Value)} {st : List Value} {u : Nat} {S : Ob} (i : Nat) (hu : us[i]? = some (u, S)) (hk : kd u = 6) (d : decode cc pc = .ok (.getfield 135, 3)) (kk : V cc RX6 fr lo nL G Γ us (pc + 3) L (.int (oI S 12) :: st)) : V cc RX6 fr lo nL G Γ us pc L (.ref (wA G u 0) :: st) :=
  V_get (T := TX6) 12 i (Or.inl wf_RX6_135) inX6 rfl (by decide) rfl hu hk (by decide) rfl rfl d kk
theorem pf_RX6_135 {cc : ByteArray} {fr lo nL : Nat} {G : Wc} {Γ : Cx} {us : List (Nat × Ob)} {pc : Nat} {L : List (Nat × Value)} {st : List Value} {u : Nat} {S : Ob} {v : Int32} (us1 : List (Nat × Ob)) (i : Nat) (hu : us[i]? = some (u, S)) (hk : kd u = 6) (hus : us.set i (u, sI S 12 v) = us1) (d : decode cc pc = .ok (.putfield 135, 3)) (kk : V cc RX6 fr lo nL G Γ us1 (pc + 3) L st) : V cc RX6 fr lo nL G Γ us pc L (.int v :: .ref (wA G u 0) :: st) :=
  V_put (T := TX6) (ty := .int) tyX6 12 i (Or.inl wf_RX6_135) inX6 tyX6_ok nmX6 rfl (by decide) rfl rfl (tyX6_ok 12 (by decide)) rfl rfl hu hk (by decide) rfl (Nat.le_of_ble_eq_true rfl) rfl hus d kk
theorem wf_RX6_146 : Cond.fieldLinkNest RX6 146 RX4 "things" "I" "CombedOut" ∈ lw_tbl := List.mem_of_getElem? (i := 205) (by decide +kernel)
theorem gf_RX6_146 {cc : ByteArray} {fr lo nL : Nat} {G : Wc} {Γ : Cx} {us : List (Nat × Ob)} {pc : Nat} {L : List (Nat × Value)} {st : List Value} {u : Nat} {S : Ob} (i : Nat) (hu : us[i]? = some (u, S)) (hk : kd u = 4) (d : decode cc pc = .ok (.getfield 146, 3)) (kk : V cc RX6 fr lo nL G Γ us (pc + 3) L (.int (oI S 0) :: st)) : V cc RX6 fr lo nL G Γ us pc L (.ref (wA G u 0) :: st) :=
  V_get (T := TX4) 0 i (Or.inr ⟨_, wf_RX6_146⟩) inX4 rfl (by decide) rfl hu hk (by decide) rfl rfl d kk
theorem wf_RX7_13 : Cond.fieldLink RX7 13 RX7 "bytes" "[I" ∈ gw := gw_at 504 (by decide +kernel) rfl
theorem gf_RX7_13 {cc : ByteArray} {fr lo nL : Nat} {G : Wc} {Γ : Cx} {us : List (Nat × Ob)} {pc : Nat} {L : List (Nat × Value)} {st : List Value} {u : Nat} {S : Ob} (i : Nat) (hu : us[i]? = some (u, S)) (hk : kd u = 7) (d : decode cc pc = .ok (.getfield 13, 3)) (kk : V cc RX7 fr lo nL G Γ us (pc + 3) L (.ref (wA G u 1) :: st)) : V cc RX7 fr lo nL G Γ us pc L (.ref (wA G u 0) :: st) :=
  V_get (T := TX7) 0 i (Or.inl wf_RX7_13) inX7 rfl (by decide) rfl hu hk (by decide) rfl rfl d kk
theorem wf_RX7_17 : Cond.fieldLink RX7 17 RX7 "size" "I" ∈ gw := gw_at 506 (by decide +kernel) rfl
theorem gf_RX7_17 {cc : ByteArray} {fr lo nL : Nat} {G : Wc} {Γ : Cx} {us : List (Nat × Ob)} {pc : Nat} {L : List (Nat × Value)} {st : List Value} {u : Nat} {S : Ob} (i : Nat) (hu : us[i]? = some (u, S)) (hk : kd u = 7) (d : decode cc pc = .ok (.getfield 17, 3)) (kk : V cc RX7 fr lo nL G Γ us (pc + 3) L (.int (oI S 1) :: st)) : V cc RX7 fr lo nL G Γ us pc L (.ref (wA G u 0) :: st) :=
  V_get (T := TX7) 1 i (Or.inl wf_RX7_17) inX7 rfl (by decide) rfl hu hk (by decide) rfl rfl d kk
theorem pf_RX7_17 {cc : ByteArray} {fr lo nL : Nat} {G : Wc} {Γ : Cx} {us : List (Nat × Ob)} {pc : Nat} {L : List (Nat × Value)} {st : List Value} {u : Nat} {S : Ob} {v : Int32} (us1 : List (Nat × Ob)) (i : Nat) (hu : us[i]? = some (u, S)) (hk : kd u = 7) (hus : us.set i (u, sI S 1 v) = us1) (d : decode cc pc = .ok (.putfield 17, 3)) (kk : V cc RX7 fr lo nL G Γ us1 (pc + 3) L st) : V cc RX7 fr lo nL G Γ us pc L (.int v :: .ref (wA G u 0) :: st) :=
  V_put (T := TX7) (ty := .int) tyX7 1 i (Or.inl wf_RX7_17) inX7 tyX7_ok nmX7 rfl (by decide) rfl rfl (tyX7_ok 1 (by decide)) rfl rfl hu hk (by decide) rfl (Nat.le_of_ble_eq_true rfl) rfl hus d kk
theorem wf_RX7_21 : Cond.fieldLinkNest RX7 21 RX4 "personNames" "[J" "CombedOut" ∈ lw_tbl := List.mem_of_getElem? (i := 225) (by decide +kernel)
theorem gf_RX7_21 {cc : ByteArray} {fr lo nL : Nat} {G : Wc} {Γ : Cx} {us : List (Nat × Ob)} {pc : Nat} {L : List (Nat × Value)} {st : List Value} {u : Nat} {S : Ob} (i : Nat) (hu : us[i]? = some (u, S)) (hk : kd u = 4) (d : decode cc pc = .ok (.getfield 21, 3)) (kk : V cc RX7 fr lo nL G Γ us (pc + 3) L (.ref (wA G u 6) :: st)) : V cc RX7 fr lo nL G Γ us pc L (.ref (wA G u 0) :: st) :=
  V_get (T := TX4) 5 i (Or.inr ⟨_, wf_RX7_21⟩) inX4 rfl (by decide) rfl hu hk (by decide) rfl rfl d kk
theorem wf_RX7_31 : Cond.fieldLinkNest RX7 31 RX6 "heights" "[I" "CombedOut" ∈ lw_tbl := List.mem_of_getElem? (i := 301) (by decide +kernel)
theorem gf_RX7_31 {cc : ByteArray} {fr lo nL : Nat} {G : Wc} {Γ : Cx} {us : List (Nat × Ob)} {pc : Nat} {L : List (Nat × Value)} {st : List Value} {u : Nat} {S : Ob} (i : Nat) (hu : us[i]? = some (u, S)) (hk : kd u = 6) (d : decode cc pc = .ok (.getfield 31, 3)) (kk : V cc RX7 fr lo nL G Γ us (pc + 3) L (.ref (wA G u 2) :: st)) : V cc RX7 fr lo nL G Γ us pc L (.ref (wA G u 0) :: st) :=
  V_get (T := TX6) 1 i (Or.inr ⟨_, wf_RX7_31⟩) inX6 rfl (by decide) rfl hu hk (by decide) rfl rfl d kk
theorem wf_RX7_40 : Cond.fieldLink RX7 40 "CombedOut$Word" "BARE" "LCombedOut$Word;" ∈ gw := gw_at 1022 (by decide +kernel) rfl
theorem wf_RX7_46 : Cond.fieldLinkNest RX7 46 "CombedOut$Word" "code" "J" "CombedOut" ∈ lw_tbl := List.mem_of_getElem? (i := 1986) (by decide +kernel)
theorem wf_RX7_58 : Cond.fieldLinkNest RX7 58 RX4 "thingNames" "[J" "CombedOut" ∈ lw_tbl := List.mem_of_getElem? (i := 208) (by decide +kernel)
theorem gf_RX7_58 {cc : ByteArray} {fr lo nL : Nat} {G : Wc} {Γ : Cx} {us : List (Nat × Ob)} {pc : Nat} {L : List (Nat × Value)} {st : List Value} {u : Nat} {S : Ob} (i : Nat) (hu : us[i]? = some (u, S)) (hk : kd u = 4) (d : decode cc pc = .ok (.getfield 58, 3)) (kk : V cc RX7 fr lo nL G Γ us (pc + 3) L (.ref (wA G u 2) :: st)) : V cc RX7 fr lo nL G Γ us pc L (.ref (wA G u 0) :: st) :=
  V_get (T := TX4) 1 i (Or.inr ⟨_, wf_RX7_58⟩) inX4 rfl (by decide) rfl hu hk (by decide) rfl rfl d kk
theorem wf_RX8_11 : Cond.fieldLink RX8 11 RX8 "bytes" "[I" ∈ gw := gw_at 149 (by decide +kernel) rfl
theorem gf_RX8_11 {cc : ByteArray} {fr lo nL : Nat} {G : Wc} {Γ : Cx} {us : List (Nat × Ob)} {pc : Nat} {L : List (Nat × Value)} {st : List Value} {u : Nat} {S : Ob} (i : Nat) (hu : us[i]? = some (u, S)) (hk : kd u = 8) (d : decode cc pc = .ok (.getfield 11, 3)) (kk : V cc RX8 fr lo nL G Γ us (pc + 3) L (.ref (wA G u 1) :: st)) : V cc RX8 fr lo nL G Γ us pc L (.ref (wA G u 0) :: st) :=
  V_get (T := TX8) 0 i (Or.inl wf_RX8_11) inX8 rfl (by decide) rfl hu hk (by decide) rfl rfl d kk
theorem wf_RX8_15 : Cond.fieldLink RX8 15 RX8 "length" "I" ∈ gw := gw_at 152 (by decide +kernel) rfl
theorem gf_RX8_15 {cc : ByteArray} {fr lo nL : Nat} {G : Wc} {Γ : Cx} {us : List (Nat × Ob)} {pc : Nat} {L : List (Nat × Value)} {st : List Value} {u : Nat} {S : Ob} (i : Nat) (hu : us[i]? = some (u, S)) (hk : kd u = 8) (d : decode cc pc = .ok (.getfield 15, 3)) (kk : V cc RX8 fr lo nL G Γ us (pc + 3) L (.int (oI S 1) :: st)) : V cc RX8 fr lo nL G Γ us pc L (.ref (wA G u 0) :: st) :=
  V_get (T := TX8) 1 i (Or.inl wf_RX8_15) inX8 rfl (by decide) rfl hu hk (by decide) rfl rfl d kk
theorem pf_RX8_15 {cc : ByteArray} {fr lo nL : Nat} {G : Wc} {Γ : Cx} {us : List (Nat × Ob)} {pc : Nat} {L : List (Nat × Value)} {st : List Value} {u : Nat} {S : Ob} {v : Int32} (us1 : List (Nat × Ob)) (i : Nat) (hu : us[i]? = some (u, S)) (hk : kd u = 8) (hus : us.set i (u, sI S 1 v) = us1) (d : decode cc pc = .ok (.putfield 15, 3)) (kk : V cc RX8 fr lo nL G Γ us1 (pc + 3) L st) : V cc RX8 fr lo nL G Γ us pc L (.int v :: .ref (wA G u 0) :: st) :=
  V_put (T := TX8) (ty := .int) tyX8 1 i (Or.inl wf_RX8_15) inX8 tyX8_ok nmX8 rfl (by decide) rfl rfl (tyX8_ok 1 (by decide)) rfl rfl hu hk (by decide) rfl (Nat.le_of_ble_eq_true rfl) rfl hus d kk
theorem wf_RX8_19 : Cond.fieldLink RX8 19 RX8 "limit" "I" ∈ gw := gw_at 153 (by decide +kernel) rfl
theorem gf_RX8_19 {cc : ByteArray} {fr lo nL : Nat} {G : Wc} {Γ : Cx} {us : List (Nat × Ob)} {pc : Nat} {L : List (Nat × Value)} {st : List Value} {u : Nat} {S : Ob} (i : Nat) (hu : us[i]? = some (u, S)) (hk : kd u = 8) (d : decode cc pc = .ok (.getfield 19, 3)) (kk : V cc RX8 fr lo nL G Γ us (pc + 3) L (.int (oI S 2) :: st)) : V cc RX8 fr lo nL G Γ us pc L (.ref (wA G u 0) :: st) :=
  V_get (T := TX8) 2 i (Or.inl wf_RX8_19) inX8 rfl (by decide) rfl hu hk (by decide) rfl rfl d kk
theorem pf_RX8_19 {cc : ByteArray} {fr lo nL : Nat} {G : Wc} {Γ : Cx} {us : List (Nat × Ob)} {pc : Nat} {L : List (Nat × Value)} {st : List Value} {u : Nat} {S : Ob} {v : Int32} (us1 : List (Nat × Ob)) (i : Nat) (hu : us[i]? = some (u, S)) (hk : kd u = 8) (hus : us.set i (u, sI S 2 v) = us1) (d : decode cc pc = .ok (.putfield 19, 3)) (kk : V cc RX8 fr lo nL G Γ us1 (pc + 3) L st) : V cc RX8 fr lo nL G Γ us pc L (.int v :: .ref (wA G u 0) :: st) :=
  V_put (T := TX8) (ty := .int) tyX8 2 i (Or.inl wf_RX8_19) inX8 tyX8_ok nmX8 rfl (by decide) rfl rfl (tyX8_ok 2 (by decide)) rfl rfl hu hk (by decide) rfl (Nat.le_of_ble_eq_true rfl) rfl hus d kk
theorem wf_RX8_22 : Cond.fieldLink RX8 22 RX8 "next" "I" ∈ gw := gw_at 154 (by decide +kernel) rfl
theorem gf_RX8_22 {cc : ByteArray} {fr lo nL : Nat} {G : Wc} {Γ : Cx} {us : List (Nat × Ob)} {pc : Nat} {L : List (Nat × Value)} {st : List Value} {u : Nat} {S : Ob} (i : Nat) (hu : us[i]? = some (u, S)) (hk : kd u = 8) (d : decode cc pc = .ok (.getfield 22, 3)) (kk : V cc RX8 fr lo nL G Γ us (pc + 3) L (.int (oI S 3) :: st)) : V cc RX8 fr lo nL G Γ us pc L (.ref (wA G u 0) :: st) :=
  V_get (T := TX8) 3 i (Or.inl wf_RX8_22) inX8 rfl (by decide) rfl hu hk (by decide) rfl rfl d kk
theorem pf_RX8_22 {cc : ByteArray} {fr lo nL : Nat} {G : Wc} {Γ : Cx} {us : List (Nat × Ob)} {pc : Nat} {L : List (Nat × Value)} {st : List Value} {u : Nat} {S : Ob} {v : Int32} (us1 : List (Nat × Ob)) (i : Nat) (hu : us[i]? = some (u, S)) (hk : kd u = 8) (hus : us.set i (u, sI S 3 v) = us1) (d : decode cc pc = .ok (.putfield 22, 3)) (kk : V cc RX8 fr lo nL G Γ us1 (pc + 3) L st) : V cc RX8 fr lo nL G Γ us pc L (.int v :: .ref (wA G u 0) :: st) :=
  V_put (T := TX8) (ty := .int) tyX8 3 i (Or.inl wf_RX8_22) inX8 tyX8_ok nmX8 rfl (by decide) rfl rfl (tyX8_ok 3 (by decide)) rfl rfl hu hk (by decide) rfl (Nat.le_of_ble_eq_true rfl) rfl hus d kk
theorem wf_RX8_25 : Cond.fieldLink RX8 25 RX8 "faultKind" "I" ∈ gw := gw_at 167 (by decide +kernel) rfl
theorem gf_RX8_25 {cc : ByteArray} {fr lo nL : Nat} {G : Wc} {Γ : Cx} {us : List (Nat × Ob)} {pc : Nat} {L : List (Nat × Value)} {st : List Value} {u : Nat} {S : Ob} (i : Nat) (hu : us[i]? = some (u, S)) (hk : kd u = 8) (d : decode cc pc = .ok (.getfield 25, 3)) (kk : V cc RX8 fr lo nL G Γ us (pc + 3) L (.int (oI S 9) :: st)) : V cc RX8 fr lo nL G Γ us pc L (.ref (wA G u 0) :: st) :=
  V_get (T := TX8) 9 i (Or.inl wf_RX8_25) inX8 rfl (by decide) rfl hu hk (by decide) rfl rfl d kk
theorem pf_RX8_25 {cc : ByteArray} {fr lo nL : Nat} {G : Wc} {Γ : Cx} {us : List (Nat × Ob)} {pc : Nat} {L : List (Nat × Value)} {st : List Value} {u : Nat} {S : Ob} {v : Int32} (us1 : List (Nat × Ob)) (i : Nat) (hu : us[i]? = some (u, S)) (hk : kd u = 8) (hus : us.set i (u, sI S 9 v) = us1) (d : decode cc pc = .ok (.putfield 25, 3)) (kk : V cc RX8 fr lo nL G Γ us1 (pc + 3) L st) : V cc RX8 fr lo nL G Γ us pc L (.int v :: .ref (wA G u 0) :: st) :=
  V_put (T := TX8) (ty := .int) tyX8 9 i (Or.inl wf_RX8_25) inX8 tyX8_ok nmX8 rfl (by decide) rfl rfl (tyX8_ok 9 (by decide)) rfl rfl hu hk (by decide) rfl (Nat.le_of_ble_eq_true rfl) rfl hus d kk
theorem wf_RX8_28 : Cond.fieldLink RX8 28 RX8 "faultPlace" "I" ∈ gw := gw_at 169 (by decide +kernel) rfl
theorem gf_RX8_28 {cc : ByteArray} {fr lo nL : Nat} {G : Wc} {Γ : Cx} {us : List (Nat × Ob)} {pc : Nat} {L : List (Nat × Value)} {st : List Value} {u : Nat} {S : Ob} (i : Nat) (hu : us[i]? = some (u, S)) (hk : kd u = 8) (d : decode cc pc = .ok (.getfield 28, 3)) (kk : V cc RX8 fr lo nL G Γ us (pc + 3) L (.int (oI S 10) :: st)) : V cc RX8 fr lo nL G Γ us pc L (.ref (wA G u 0) :: st) :=
  V_get (T := TX8) 10 i (Or.inl wf_RX8_28) inX8 rfl (by decide) rfl hu hk (by decide) rfl rfl d kk
theorem pf_RX8_28 {cc : ByteArray} {fr lo nL : Nat} {G : Wc} {Γ : Cx} {us : List (Nat × Ob)} {pc : Nat} {L : List (Nat × Value)} {st : List Value} {u : Nat} {S : Ob} {v : Int32} (us1 : List (Nat × Ob)) (i : Nat) (hu : us[i]? = some (u, S)) (hk : kd u = 8) (hus : us.set i (u, sI S 10 v) = us1) (d : decode cc pc = .ok (.putfield 28, 3)) (kk : V cc RX8 fr lo nL G Γ us1 (pc + 3) L st) : V cc RX8 fr lo nL G Γ us pc L (.int v :: .ref (wA G u 0) :: st) :=
  V_put (T := TX8) (ty := .int) tyX8 10 i (Or.inl wf_RX8_28) inX8 tyX8_ok nmX8 rfl (by decide) rfl rfl (tyX8_ok 10 (by decide)) rfl rfl hu hk (by decide) rfl (Nat.le_of_ble_eq_true rfl) rfl hus d kk
theorem wf_RX8_40 : Cond.fieldLink RX8 40 RX8 "word" "LCombedOut$Word;" ∈ gw := gw_at 165 (by decide +kernel) rfl
theorem gf_RX8_40 {cc : ByteArray} {fr lo nL : Nat} {G : Wc} {Γ : Cx} {us : List (Nat × Ob)} {pc : Nat} {L : List (Nat × Value)} {st : List Value} {u : Nat} {S : Ob} (i : Nat) (hu : us[i]? = some (u, S)) (hk : kd u = 8) (d : decode cc pc = .ok (.getfield 40, 3)) (kk : V cc RX8 fr lo nL G Γ us (pc + 3) L (va_re (wE G) (oW S 8) :: st)) : V cc RX8 fr lo nL G Γ us pc L (.ref (wA G u 0) :: st) :=
  V_get (T := TX8) 8 i (Or.inl wf_RX8_40) inX8 rfl (by decide) rfl hu hk (by decide) rfl rfl d kk
theorem pf_RX8_40 {cc : ByteArray} {fr lo nL : Nat} {G : Wc} {Γ : Cx} {us : List (Nat × Ob)} {pc : Nat} {L : List (Nat × Value)} {st : List Value} {u : Nat} {S : Ob} {v : Option Nat} (us1 : List (Nat × Ob)) (i : Nat) (hu : us[i]? = some (u, S)) (hk : kd u = 8) (hus : us.set i (u, sW S 8 v) = us1) (d : decode cc pc = .ok (.putfield 40, 3)) (kk : V cc RX8 fr lo nL G Γ us1 (pc + 3) L st) : V cc RX8 fr lo nL G Γ us pc L (va_re (wE G) v :: .ref (wA G u 0) :: st) :=
  V_put (T := TX8) (ty := .object "CombedOut$Word") tyX8 8 i (Or.inl wf_RX8_40) inX8 tyX8_ok nmX8 rfl (by decide) rfl rfl (tyX8_ok 8 (by decide)) (by cases v <;> rfl) (by cases v <;> rfl) hu hk (by decide) rfl (Nat.le_of_ble_eq_true rfl) rfl hus d kk
theorem wf_RX8_44 : Cond.fieldLink RX8 44 RX8 "place" "I" ∈ gw := gw_at 159 (by decide +kernel) rfl
theorem gf_RX8_44 {cc : ByteArray} {fr lo nL : Nat} {G : Wc} {Γ : Cx} {us : List (Nat × Ob)} {pc : Nat} {L : List (Nat × Value)} {st : List Value} {u : Nat} {S : Ob} (i : Nat) (hu : us[i]? = some (u, S)) (hk : kd u = 8) (d : decode cc pc = .ok (.getfield 44, 3)) (kk : V cc RX8 fr lo nL G Γ us (pc + 3) L (.int (oI S 5) :: st)) : V cc RX8 fr lo nL G Γ us pc L (.ref (wA G u 0) :: st) :=
  V_get (T := TX8) 5 i (Or.inl wf_RX8_44) inX8 rfl (by decide) rfl hu hk (by decide) rfl rfl d kk
theorem pf_RX8_44 {cc : ByteArray} {fr lo nL : Nat} {G : Wc} {Γ : Cx} {us : List (Nat × Ob)} {pc : Nat} {L : List (Nat × Value)} {st : List Value} {u : Nat} {S : Ob} {v : Int32} (us1 : List (Nat × Ob)) (i : Nat) (hu : us[i]? = some (u, S)) (hk : kd u = 8) (hus : us.set i (u, sI S 5 v) = us1) (d : decode cc pc = .ok (.putfield 44, 3)) (kk : V cc RX8 fr lo nL G Γ us1 (pc + 3) L st) : V cc RX8 fr lo nL G Γ us pc L (.int v :: .ref (wA G u 0) :: st) :=
  V_put (T := TX8) (ty := .int) tyX8 5 i (Or.inl wf_RX8_44) inX8 tyX8_ok nmX8 rfl (by decide) rfl rfl (tyX8_ok 5 (by decide)) rfl rfl hu hk (by decide) rfl (Nat.le_of_ble_eq_true rfl) rfl hus d kk
theorem wf_RX8_47 : Cond.fieldLink RX8 47 RX8 "kind" "I" ∈ gw := gw_at 158 (by decide +kernel) rfl
theorem gf_RX8_47 {cc : ByteArray} {fr lo nL : Nat} {G : Wc} {Γ : Cx} {us : List (Nat × Ob)} {pc : Nat} {L : List (Nat × Value)} {st : List Value} {u : Nat} {S : Ob} (i : Nat) (hu : us[i]? = some (u, S)) (hk : kd u = 8) (d : decode cc pc = .ok (.getfield 47, 3)) (kk : V cc RX8 fr lo nL G Γ us (pc + 3) L (.int (oI S 4) :: st)) : V cc RX8 fr lo nL G Γ us pc L (.ref (wA G u 0) :: st) :=
  V_get (T := TX8) 4 i (Or.inl wf_RX8_47) inX8 rfl (by decide) rfl hu hk (by decide) rfl rfl d kk
theorem pf_RX8_47 {cc : ByteArray} {fr lo nL : Nat} {G : Wc} {Γ : Cx} {us : List (Nat × Ob)} {pc : Nat} {L : List (Nat × Value)} {st : List Value} {u : Nat} {S : Ob} {v : Int32} (us1 : List (Nat × Ob)) (i : Nat) (hu : us[i]? = some (u, S)) (hk : kd u = 8) (hus : us.set i (u, sI S 4 v) = us1) (d : decode cc pc = .ok (.putfield 47, 3)) (kk : V cc RX8 fr lo nL G Γ us1 (pc + 3) L st) : V cc RX8 fr lo nL G Γ us pc L (.int v :: .ref (wA G u 0) :: st) :=
  V_put (T := TX8) (ty := .int) tyX8 4 i (Or.inl wf_RX8_47) inX8 tyX8_ok nmX8 rfl (by decide) rfl rfl (tyX8_ok 4 (by decide)) rfl rfl hu hk (by decide) rfl (Nat.le_of_ble_eq_true rfl) rfl hus d kk
theorem wf_RX8_53 : Cond.fieldLink RX8 53 RX8 "code" "J" ∈ gw := gw_at 161 (by decide +kernel) rfl
theorem gf_RX8_53 {cc : ByteArray} {fr lo nL : Nat} {G : Wc} {Γ : Cx} {us : List (Nat × Ob)} {pc : Nat} {L : List (Nat × Value)} {st : List Value} {u : Nat} {S : Ob} (i : Nat) (hu : us[i]? = some (u, S)) (hk : kd u = 8) (d : decode cc pc = .ok (.getfield 53, 3)) (kk : V cc RX8 fr lo nL G Γ us (pc + 3) L (.long (oL S 7) :: st)) : V cc RX8 fr lo nL G Γ us pc L (.ref (wA G u 0) :: st) :=
  V_get (T := TX8) 7 i (Or.inl wf_RX8_53) inX8 rfl (by decide) rfl hu hk (by decide) rfl rfl d kk
theorem pf_RX8_53 {cc : ByteArray} {fr lo nL : Nat} {G : Wc} {Γ : Cx} {us : List (Nat × Ob)} {pc : Nat} {L : List (Nat × Value)} {st : List Value} {u : Nat} {S : Ob} {v : Int64} (us1 : List (Nat × Ob)) (i : Nat) (hu : us[i]? = some (u, S)) (hk : kd u = 8) (hus : us.set i (u, sL S 7 v) = us1) (d : decode cc pc = .ok (.putfield 53, 3)) (kk : V cc RX8 fr lo nL G Γ us1 (pc + 3) L st) : V cc RX8 fr lo nL G Γ us pc L (.long v :: .ref (wA G u 0) :: st) :=
  V_put (T := TX8) (ty := .long) tyX8 7 i (Or.inl wf_RX8_53) inX8 tyX8_ok nmX8 rfl (by decide) rfl rfl (tyX8_ok 7 (by decide)) rfl rfl hu hk (by decide) rfl (Nat.le_of_ble_eq_true rfl) rfl hus d kk
theorem wf_RX8_67 : Cond.fieldLink RX8 67 RX8 "number" "I" ∈ gw := gw_at 160 (by decide +kernel) rfl
theorem gf_RX8_67 {cc : ByteArray} {fr lo nL : Nat} {G : Wc} {Γ : Cx} {us : List (Nat × Ob)} {pc : Nat} {L : List (Nat × Value)} {st : List Value} {u : Nat} {S : Ob} (i : Nat) (hu : us[i]? = some (u, S)) (hk : kd u = 8) (d : decode cc pc = .ok (.getfield 67, 3)) (kk : V cc RX8 fr lo nL G Γ us (pc + 3) L (.int (oI S 6) :: st)) : V cc RX8 fr lo nL G Γ us pc L (.ref (wA G u 0) :: st) :=
  V_get (T := TX8) 6 i (Or.inl wf_RX8_67) inX8 rfl (by decide) rfl hu hk (by decide) rfl rfl d kk
theorem pf_RX8_67 {cc : ByteArray} {fr lo nL : Nat} {G : Wc} {Γ : Cx} {us : List (Nat × Ob)} {pc : Nat} {L : List (Nat × Value)} {st : List Value} {u : Nat} {S : Ob} {v : Int32} (us1 : List (Nat × Ob)) (i : Nat) (hu : us[i]? = some (u, S)) (hk : kd u = 8) (hus : us.set i (u, sI S 6 v) = us1) (d : decode cc pc = .ok (.putfield 67, 3)) (kk : V cc RX8 fr lo nL G Γ us1 (pc + 3) L st) : V cc RX8 fr lo nL G Γ us pc L (.int v :: .ref (wA G u 0) :: st) :=
  V_put (T := TX8) (ty := .int) tyX8 6 i (Or.inl wf_RX8_67) inX8 tyX8_ok nmX8 rfl (by decide) rfl rfl (tyX8_ok 6 (by decide)) rfl rfl hu hk (by decide) rfl (Nat.le_of_ble_eq_true rfl) rfl hus d kk
theorem wf_RX9_93 : Cond.fieldLink RX9 93 "CombedOut$Word" "code" "J" ∈ gw := gw_at 1985 (by decide +kernel) rfl
theorem wf_RX9_107 : Cond.fieldLink RX9 107 "CombedOut$Word" "ALL" "[LCombedOut$Word;" ∈ gw := gw_at 604 (by decide +kernel) rfl
theorem wf_RX11_1 : Cond.fieldLink RX11 1 RX11 "thrown" "I" ∈ gw := gw_at 1381 (by decide +kernel) rfl
theorem gf_RX11_1 {cc : ByteArray} {fr lo nL : Nat} {G : Wc} {Γ : Cx} {us : List (Nat × Ob)} {pc : Nat} {L : List (Nat × Value)} {st : List Value} {u : Nat} {S : Ob} (i : Nat) (hu : us[i]? = some (u, S)) (hk : kd u = 10) (d : decode cc pc = .ok (.getfield 1, 3)) (kk : V cc RX11 fr lo nL G Γ us (pc + 3) L (.int (oI S 0) :: st)) : V cc RX11 fr lo nL G Γ us pc L (.ref (wA G u 0) :: st) :=
  V_get (T := TX11) 0 i (Or.inl wf_RX11_1) inX11 rfl (by decide) rfl hu hk (by decide) rfl rfl d kk
theorem pf_RX11_1 {cc : ByteArray} {fr lo nL : Nat} {G : Wc} {Γ : Cx} {us : List (Nat × Ob)} {pc : Nat} {L : List (Nat × Value)} {st : List Value} {u : Nat} {S : Ob} {v : Int32} (us1 : List (Nat × Ob)) (i : Nat) (hu : us[i]? = some (u, S)) (hk : kd u = 10) (hus : us.set i (u, sI S 0 v) = us1) (d : decode cc pc = .ok (.putfield 1, 3)) (kk : V cc RX11 fr lo nL G Γ us1 (pc + 3) L st) : V cc RX11 fr lo nL G Γ us pc L (.int v :: .ref (wA G u 0) :: st) :=
  V_put (T := TX11) (ty := .int) tyX11 0 i (Or.inl wf_RX11_1) inX11 tyX11_ok nmX11 rfl (by decide) rfl rfl (tyX11_ok 0 (by decide)) rfl rfl hu hk (by decide) rfl (Nat.le_of_ble_eq_true rfl) rfl hus d kk
theorem wf_RX11_7 : Cond.fieldLink RX11 7 RX11 "length" "I" ∈ gw := gw_at 1383 (by decide +kernel) rfl
theorem gf_RX11_7 {cc : ByteArray} {fr lo nL : Nat} {G : Wc} {Γ : Cx} {us : List (Nat × Ob)} {pc : Nat} {L : List (Nat × Value)} {st : List Value} {u : Nat} {S : Ob} (i : Nat) (hu : us[i]? = some (u, S)) (hk : kd u = 10) (d : decode cc pc = .ok (.getfield 7, 3)) (kk : V cc RX11 fr lo nL G Γ us (pc + 3) L (.int (oI S 2) :: st)) : V cc RX11 fr lo nL G Γ us pc L (.ref (wA G u 0) :: st) :=
  V_get (T := TX11) 2 i (Or.inl wf_RX11_7) inX11 rfl (by decide) rfl hu hk (by decide) rfl rfl d kk
theorem pf_RX11_7 {cc : ByteArray} {fr lo nL : Nat} {G : Wc} {Γ : Cx} {us : List (Nat × Ob)} {pc : Nat} {L : List (Nat × Value)} {st : List Value} {u : Nat} {S : Ob} {v : Int32} (us1 : List (Nat × Ob)) (i : Nat) (hu : us[i]? = some (u, S)) (hk : kd u = 10) (hus : us.set i (u, sI S 2 v) = us1) (d : decode cc pc = .ok (.putfield 7, 3)) (kk : V cc RX11 fr lo nL G Γ us1 (pc + 3) L st) : V cc RX11 fr lo nL G Γ us pc L (.int v :: .ref (wA G u 0) :: st) :=
  V_put (T := TX11) (ty := .int) tyX11 2 i (Or.inl wf_RX11_7) inX11 tyX11_ok nmX11 rfl (by decide) rfl rfl (tyX11_ok 2 (by decide)) rfl rfl hu hk (by decide) rfl (Nat.le_of_ble_eq_true rfl) rfl hus d kk
theorem wf_RX11_14 : Cond.fieldLink RX11 14 RX11 "tape" "[B" ∈ gw := gw_at 1382 (by decide +kernel) rfl
theorem gf_RX11_14 {cc : ByteArray} {fr lo nL : Nat} {G : Wc} {Γ : Cx} {us : List (Nat × Ob)} {pc : Nat} {L : List (Nat × Value)} {st : List Value} {u : Nat} {S : Ob} (i : Nat) (hu : us[i]? = some (u, S)) (hk : kd u = 10) (d : decode cc pc = .ok (.getfield 14, 3)) (kk : V cc RX11 fr lo nL G Γ us (pc + 3) L (.ref (wA G u 2) :: st)) : V cc RX11 fr lo nL G Γ us pc L (.ref (wA G u 0) :: st) :=
  V_get (T := TX11) 1 i (Or.inl wf_RX11_14) inX11 rfl (by decide) rfl hu hk (by decide) rfl rfl d kk
theorem wf_RX11_18 : Cond.fieldLink RX11 18 RX11 "size" "I" ∈ gw := gw_at 1384 (by decide +kernel) rfl
theorem gf_RX11_18 {cc : ByteArray} {fr lo nL : Nat} {G : Wc} {Γ : Cx} {us : List (Nat × Ob)} {pc : Nat} {L : List (Nat × Value)} {st : List Value} {u : Nat} {S : Ob} (i : Nat) (hu : us[i]? = some (u, S)) (hk : kd u = 10) (d : decode cc pc = .ok (.getfield 18, 3)) (kk : V cc RX11 fr lo nL G Γ us (pc + 3) L (.int (oI S 3) :: st)) : V cc RX11 fr lo nL G Γ us pc L (.ref (wA G u 0) :: st) :=
  V_get (T := TX11) 3 i (Or.inl wf_RX11_18) inX11 rfl (by decide) rfl hu hk (by decide) rfl rfl d kk
theorem pf_RX11_18 {cc : ByteArray} {fr lo nL : Nat} {G : Wc} {Γ : Cx} {us : List (Nat × Ob)} {pc : Nat} {L : List (Nat × Value)} {st : List Value} {u : Nat} {S : Ob} {v : Int32} (us1 : List (Nat × Ob)) (i : Nat) (hu : us[i]? = some (u, S)) (hk : kd u = 10) (hus : us.set i (u, sI S 3 v) = us1) (d : decode cc pc = .ok (.putfield 18, 3)) (kk : V cc RX11 fr lo nL G Γ us1 (pc + 3) L st) : V cc RX11 fr lo nL G Γ us pc L (.int v :: .ref (wA G u 0) :: st) :=
  V_put (T := TX11) (ty := .int) tyX11 3 i (Or.inl wf_RX11_18) inX11 tyX11_ok nmX11 rfl (by decide) rfl rfl (tyX11_ok 3 (by decide)) rfl rfl hu hk (by decide) rfl (Nat.le_of_ble_eq_true rfl) rfl hus d kk
theorem wf_RX11_21 : Cond.fieldLink RX11 21 RX11 "p" "I" ∈ gw := gw_at 1385 (by decide +kernel) rfl
theorem gf_RX11_21 {cc : ByteArray} {fr lo nL : Nat} {G : Wc} {Γ : Cx} {us : List (Nat × Ob)} {pc : Nat} {L : List (Nat × Value)} {st : List Value} {u : Nat} {S : Ob} (i : Nat) (hu : us[i]? = some (u, S)) (hk : kd u = 10) (d : decode cc pc = .ok (.getfield 21, 3)) (kk : V cc RX11 fr lo nL G Γ us (pc + 3) L (.int (oI S 4) :: st)) : V cc RX11 fr lo nL G Γ us pc L (.ref (wA G u 0) :: st) :=
  V_get (T := TX11) 4 i (Or.inl wf_RX11_21) inX11 rfl (by decide) rfl hu hk (by decide) rfl rfl d kk
theorem pf_RX11_21 {cc : ByteArray} {fr lo nL : Nat} {G : Wc} {Γ : Cx} {us : List (Nat × Ob)} {pc : Nat} {L : List (Nat × Value)} {st : List Value} {u : Nat} {S : Ob} {v : Int32} (us1 : List (Nat × Ob)) (i : Nat) (hu : us[i]? = some (u, S)) (hk : kd u = 10) (hus : us.set i (u, sI S 4 v) = us1) (d : decode cc pc = .ok (.putfield 21, 3)) (kk : V cc RX11 fr lo nL G Γ us1 (pc + 3) L st) : V cc RX11 fr lo nL G Γ us pc L (.int v :: .ref (wA G u 0) :: st) :=
  V_put (T := TX11) (ty := .int) tyX11 4 i (Or.inl wf_RX11_21) inX11 tyX11_ok nmX11 rfl (by decide) rfl rfl (tyX11_ok 4 (by decide)) rfl rfl hu hk (by decide) rfl (Nat.le_of_ble_eq_true rfl) rfl hus d kk
theorem wf_RX11_24 : Cond.fieldLink RX11 24 RX11 "limit" "I" ∈ gw := gw_at 1386 (by decide +kernel) rfl
theorem gf_RX11_24 {cc : ByteArray} {fr lo nL : Nat} {G : Wc} {Γ : Cx} {us : List (Nat × Ob)} {pc : Nat} {L : List (Nat × Value)} {st : List Value} {u : Nat} {S : Ob} (i : Nat) (hu : us[i]? = some (u, S)) (hk : kd u = 10) (d : decode cc pc = .ok (.getfield 24, 3)) (kk : V cc RX11 fr lo nL G Γ us (pc + 3) L (.int (oI S 5) :: st)) : V cc RX11 fr lo nL G Γ us pc L (.ref (wA G u 0) :: st) :=
  V_get (T := TX11) 5 i (Or.inl wf_RX11_24) inX11 rfl (by decide) rfl hu hk (by decide) rfl rfl d kk
theorem pf_RX11_24 {cc : ByteArray} {fr lo nL : Nat} {G : Wc} {Γ : Cx} {us : List (Nat × Ob)} {pc : Nat} {L : List (Nat × Value)} {st : List Value} {u : Nat} {S : Ob} {v : Int32} (us1 : List (Nat × Ob)) (i : Nat) (hu : us[i]? = some (u, S)) (hk : kd u = 10) (hus : us.set i (u, sI S 5 v) = us1) (d : decode cc pc = .ok (.putfield 24, 3)) (kk : V cc RX11 fr lo nL G Γ us1 (pc + 3) L st) : V cc RX11 fr lo nL G Γ us pc L (.int v :: .ref (wA G u 0) :: st) :=
  V_put (T := TX11) (ty := .int) tyX11 5 i (Or.inl wf_RX11_24) inX11 tyX11_ok nmX11 rfl (by decide) rfl rfl (tyX11_ok 5 (by decide)) rfl rfl hu hk (by decide) rfl (Nat.le_of_ble_eq_true rfl) rfl hus d kk
theorem wf_RX11_33 : Cond.fieldLink RX11 33 RX11 "s" "[I" ∈ gw := gw_at 1387 (by decide +kernel) rfl
theorem gf_RX11_33 {cc : ByteArray} {fr lo nL : Nat} {G : Wc} {Γ : Cx} {us : List (Nat × Ob)} {pc : Nat} {L : List (Nat × Value)} {st : List Value} {u : Nat} {S : Ob} (i : Nat) (hu : us[i]? = some (u, S)) (hk : kd u = 10) (d : decode cc pc = .ok (.getfield 33, 3)) (kk : V cc RX11 fr lo nL G Γ us (pc + 3) L (.ref (wA G u 7) :: st)) : V cc RX11 fr lo nL G Γ us pc L (.ref (wA G u 0) :: st) :=
  V_get (T := TX11) 6 i (Or.inl wf_RX11_33) inX11 rfl (by decide) rfl hu hk (by decide) rfl rfl d kk
theorem wf_RX11_37 : Cond.fieldLink RX11 37 RX11 "h" "[I" ∈ gw := gw_at 1388 (by decide +kernel) rfl
theorem gf_RX11_37 {cc : ByteArray} {fr lo nL : Nat} {G : Wc} {Γ : Cx} {us : List (Nat × Ob)} {pc : Nat} {L : List (Nat × Value)} {st : List Value} {u : Nat} {S : Ob} (i : Nat) (hu : us[i]? = some (u, S)) (hk : kd u = 10) (d : decode cc pc = .ok (.getfield 37, 3)) (kk : V cc RX11 fr lo nL G Γ us (pc + 3) L (.ref (wA G u 8) :: st)) : V cc RX11 fr lo nL G Γ us pc L (.ref (wA G u 0) :: st) :=
  V_get (T := TX11) 7 i (Or.inl wf_RX11_37) inX11 rfl (by decide) rfl hu hk (by decide) rfl rfl d kk
theorem wf_RX11_40 : Cond.fieldLink RX11 40 RX11 "read" "[I" ∈ gw := gw_at 1389 (by decide +kernel) rfl
theorem gf_RX11_40 {cc : ByteArray} {fr lo nL : Nat} {G : Wc} {Γ : Cx} {us : List (Nat × Ob)} {pc : Nat} {L : List (Nat × Value)} {st : List Value} {u : Nat} {S : Ob} (i : Nat) (hu : us[i]? = some (u, S)) (hk : kd u = 10) (d : decode cc pc = .ok (.getfield 40, 3)) (kk : V cc RX11 fr lo nL G Γ us (pc + 3) L (.ref (wA G u 9) :: st)) : V cc RX11 fr lo nL G Γ us pc L (.ref (wA G u 0) :: st) :=
  V_get (T := TX11) 8 i (Or.inl wf_RX11_40) inX11 rfl (by decide) rfl hu hk (by decide) rfl rfl d kk
theorem wf_RX11_43 : Cond.fieldLink RX11 43 RX11 "names" "[J" ∈ gw := gw_at 1390 (by decide +kernel) rfl
theorem gf_RX11_43 {cc : ByteArray} {fr lo nL : Nat} {G : Wc} {Γ : Cx} {us : List (Nat × Ob)} {pc : Nat} {L : List (Nat × Value)} {st : List Value} {u : Nat} {S : Ob} (i : Nat) (hu : us[i]? = some (u, S)) (hk : kd u = 10) (d : decode cc pc = .ok (.getfield 43, 3)) (kk : V cc RX11 fr lo nL G Γ us (pc + 3) L (.ref (wA G u 10) :: st)) : V cc RX11 fr lo nL G Γ us pc L (.ref (wA G u 0) :: st) :=
  V_get (T := TX11) 9 i (Or.inl wf_RX11_43) inX11 rfl (by decide) rfl hu hk (by decide) rfl rfl d kk
theorem wf_RX11_47 : Cond.fieldLink RX11 47 RX11 "reserved" "[J" ∈ gw := gw_at 1391 (by decide +kernel) rfl
theorem gf_RX11_47 {cc : ByteArray} {fr lo nL : Nat} {G : Wc} {Γ : Cx} {us : List (Nat × Ob)} {pc : Nat} {L : List (Nat × Value)} {st : List Value} {u : Nat} {S : Ob} (i : Nat) (hu : us[i]? = some (u, S)) (hk : kd u = 10) (d : decode cc pc = .ok (.getfield 47, 3)) (kk : V cc RX11 fr lo nL G Γ us (pc + 3) L (.ref (wA G u 11) :: st)) : V cc RX11 fr lo nL G Γ us pc L (.ref (wA G u 0) :: st) :=
  V_get (T := TX11) 10 i (Or.inl wf_RX11_47) inX11 rfl (by decide) rfl hu hk (by decide) rfl rfl d kk
theorem wf_RX11_50 : Cond.fieldLink RX11 50 RX11 "undone" "[I" ∈ gw := gw_at 1402 (by decide +kernel) rfl
theorem gf_RX11_50 {cc : ByteArray} {fr lo nL : Nat} {G : Wc} {Γ : Cx} {us : List (Nat × Ob)} {pc : Nat} {L : List (Nat × Value)} {st : List Value} {u : Nat} {S : Ob} (i : Nat) (hu : us[i]? = some (u, S)) (hk : kd u = 10) (d : decode cc pc = .ok (.getfield 50, 3)) (kk : V cc RX11 fr lo nL G Γ us (pc + 3) L (.ref (wA G u 22) :: st)) : V cc RX11 fr lo nL G Γ us pc L (.ref (wA G u 0) :: st) :=
  V_get (T := TX11) 21 i (Or.inl wf_RX11_50) inX11 rfl (by decide) rfl hu hk (by decide) rfl rfl d kk
theorem wf_RX11_53 : Cond.fieldLink RX11 53 RX11 "before" "[I" ∈ gw := gw_at 1403 (by decide +kernel) rfl
theorem gf_RX11_53 {cc : ByteArray} {fr lo nL : Nat} {G : Wc} {Γ : Cx} {us : List (Nat × Ob)} {pc : Nat} {L : List (Nat × Value)} {st : List Value} {u : Nat} {S : Ob} (i : Nat) (hu : us[i]? = some (u, S)) (hk : kd u = 10) (d : decode cc pc = .ok (.getfield 53, 3)) (kk : V cc RX11 fr lo nL G Γ us (pc + 3) L (.ref (wA G u 23) :: st)) : V cc RX11 fr lo nL G Γ us pc L (.ref (wA G u 0) :: st) :=
  V_get (T := TX11) 22 i (Or.inl wf_RX11_53) inX11 rfl (by decide) rfl hu hk (by decide) rfl rfl d kk
theorem wf_RX11_56 : Cond.fieldLink RX11 56 RX11 "filled" "[Z" ∈ gw := gw_at 1407 (by decide +kernel) rfl
theorem gf_RX11_56 {cc : ByteArray} {fr lo nL : Nat} {G : Wc} {Γ : Cx} {us : List (Nat × Ob)} {pc : Nat} {L : List (Nat × Value)} {st : List Value} {u : Nat} {S : Ob} (i : Nat) (hu : us[i]? = some (u, S)) (hk : kd u = 10) (d : decode cc pc = .ok (.getfield 56, 3)) (kk : V cc RX11 fr lo nL G Γ us (pc + 3) L (.ref (wA G u 27) :: st)) : V cc RX11 fr lo nL G Γ us pc L (.ref (wA G u 0) :: st) :=
  V_get (T := TX11) 26 i (Or.inl wf_RX11_56) inX11 rfl (by decide) rfl hu hk (by decide) rfl rfl d kk
theorem wf_RX11_60 : Cond.fieldLink RX11 60 RX11 "springs" "[I" ∈ gw := gw_at 1408 (by decide +kernel) rfl
theorem gf_RX11_60 {cc : ByteArray} {fr lo nL : Nat} {G : Wc} {Γ : Cx} {us : List (Nat × Ob)} {pc : Nat} {L : List (Nat × Value)} {st : List Value} {u : Nat} {S : Ob} (i : Nat) (hu : us[i]? = some (u, S)) (hk : kd u = 10) (d : decode cc pc = .ok (.getfield 60, 3)) (kk : V cc RX11 fr lo nL G Γ us (pc + 3) L (.ref (wA G u 28) :: st)) : V cc RX11 fr lo nL G Γ us pc L (.ref (wA G u 0) :: st) :=
  V_get (T := TX11) 27 i (Or.inl wf_RX11_60) inX11 rfl (by decide) rfl hu hk (by decide) rfl rfl d kk
theorem wf_RX11_63 : Cond.fieldLink RX11 63 RX11 "inBag" "[I" ∈ gw := gw_at 1409 (by decide +kernel) rfl
theorem gf_RX11_63 {cc : ByteArray} {fr lo nL : Nat} {G : Wc} {Γ : Cx} {us : List (Nat × Ob)} {pc : Nat} {L : List (Nat × Value)} {st : List Value} {u : Nat} {S : Ob} (i : Nat) (hu : us[i]? = some (u, S)) (hk : kd u = 10) (d : decode cc pc = .ok (.getfield 63, 3)) (kk : V cc RX11 fr lo nL G Γ us (pc + 3) L (.ref (wA G u 29) :: st)) : V cc RX11 fr lo nL G Γ us pc L (.ref (wA G u 0) :: st) :=
  V_get (T := TX11) 28 i (Or.inl wf_RX11_63) inX11 rfl (by decide) rfl hu hk (by decide) rfl rfl d kk
theorem wf_RX11_66 : Cond.fieldLink RX11 66 RX11 "text" "[B" ∈ gw := gw_at 1414 (by decide +kernel) rfl
theorem gf_RX11_66 {cc : ByteArray} {fr lo nL : Nat} {G : Wc} {Γ : Cx} {us : List (Nat × Ob)} {pc : Nat} {L : List (Nat × Value)} {st : List Value} {u : Nat} {S : Ob} (i : Nat) (hu : us[i]? = some (u, S)) (hk : kd u = 10) (d : decode cc pc = .ok (.getfield 66, 3)) (kk : V cc RX11 fr lo nL G Γ us (pc + 3) L (.ref (wA G u 34) :: st)) : V cc RX11 fr lo nL G Γ us pc L (.ref (wA G u 0) :: st) :=
  V_get (T := TX11) 33 i (Or.inl wf_RX11_66) inX11 rfl (by decide) rfl hu hk (by decide) rfl rfl d kk
theorem wf_RX11_69 : Cond.fieldLink RX11 69 RX11 "toldAt" "[I" ∈ gw := gw_at 1418 (by decide +kernel) rfl
theorem gf_RX11_69 {cc : ByteArray} {fr lo nL : Nat} {G : Wc} {Γ : Cx} {us : List (Nat × Ob)} {pc : Nat} {L : List (Nat × Value)} {st : List Value} {u : Nat} {S : Ob} (i : Nat) (hu : us[i]? = some (u, S)) (hk : kd u = 10) (d : decode cc pc = .ok (.getfield 69, 3)) (kk : V cc RX11 fr lo nL G Γ us (pc + 3) L (.ref (wA G u 38) :: st)) : V cc RX11 fr lo nL G Γ us pc L (.ref (wA G u 0) :: st) :=
  V_get (T := TX11) 37 i (Or.inl wf_RX11_69) inX11 rfl (by decide) rfl hu hk (by decide) rfl rfl d kk
theorem wf_RX11_72 : Cond.fieldLink RX11 72 RX11 "stack" "[I" ∈ gw := gw_at 1420 (by decide +kernel) rfl
theorem gf_RX11_72 {cc : ByteArray} {fr lo nL : Nat} {G : Wc} {Γ : Cx} {us : List (Nat × Ob)} {pc : Nat} {L : List (Nat × Value)} {st : List Value} {u : Nat} {S : Ob} (i : Nat) (hu : us[i]? = some (u, S)) (hk : kd u = 10) (d : decode cc pc = .ok (.getfield 72, 3)) (kk : V cc RX11 fr lo nL G Γ us (pc + 3) L (.ref (wA G u 40) :: st)) : V cc RX11 fr lo nL G Γ us pc L (.ref (wA G u 0) :: st) :=
  V_get (T := TX11) 39 i (Or.inl wf_RX11_72) inX11 rfl (by decide) rfl hu hk (by decide) rfl rfl d kk
theorem wf_RX11_75 : Cond.fieldLink RX11 75 RX11 "truths" "[Z" ∈ gw := gw_at 1426 (by decide +kernel) rfl
theorem gf_RX11_75 {cc : ByteArray} {fr lo nL : Nat} {G : Wc} {Γ : Cx} {us : List (Nat × Ob)} {pc : Nat} {L : List (Nat × Value)} {st : List Value} {u : Nat} {S : Ob} (i : Nat) (hu : us[i]? = some (u, S)) (hk : kd u = 10) (d : decode cc pc = .ok (.getfield 75, 3)) (kk : V cc RX11 fr lo nL G Γ us (pc + 3) L (.ref (wA G u 46) :: st)) : V cc RX11 fr lo nL G Γ us pc L (.ref (wA G u 0) :: st) :=
  V_get (T := TX11) 45 i (Or.inl wf_RX11_75) inX11 rfl (by decide) rfl hu hk (by decide) rfl rfl d kk
theorem wf_RX11_78 : Cond.fieldLink RX11 78 RX11 "imaged" "[I" ∈ gw := gw_at 1427 (by decide +kernel) rfl
theorem gf_RX11_78 {cc : ByteArray} {fr lo nL : Nat} {G : Wc} {Γ : Cx} {us : List (Nat × Ob)} {pc : Nat} {L : List (Nat × Value)} {st : List Value} {u : Nat} {S : Ob} (i : Nat) (hu : us[i]? = some (u, S)) (hk : kd u = 10) (d : decode cc pc = .ok (.getfield 78, 3)) (kk : V cc RX11 fr lo nL G Γ us (pc + 3) L (.ref (wA G u 47) :: st)) : V cc RX11 fr lo nL G Γ us pc L (.ref (wA G u 0) :: st) :=
  V_get (T := TX11) 46 i (Or.inl wf_RX11_78) inX11 rfl (by decide) rfl hu hk (by decide) rfl rfl d kk
theorem wf_RX11_81 : Cond.fieldLink RX11 81 RX11 "namesKept" "[J" ∈ gw := gw_at 1428 (by decide +kernel) rfl
theorem gf_RX11_81 {cc : ByteArray} {fr lo nL : Nat} {G : Wc} {Γ : Cx} {us : List (Nat × Ob)} {pc : Nat} {L : List (Nat × Value)} {st : List Value} {u : Nat} {S : Ob} (i : Nat) (hu : us[i]? = some (u, S)) (hk : kd u = 10) (d : decode cc pc = .ok (.getfield 81, 3)) (kk : V cc RX11 fr lo nL G Γ us (pc + 3) L (.ref (wA G u 48) :: st)) : V cc RX11 fr lo nL G Γ us pc L (.ref (wA G u 0) :: st) :=
  V_get (T := TX11) 47 i (Or.inl wf_RX11_81) inX11 rfl (by decide) rfl hu hk (by decide) rfl rfl d kk
theorem wf_RX11_84 : Cond.fieldLink RX11 84 RX11 "areKept" "[Z" ∈ gw := gw_at 1429 (by decide +kernel) rfl
theorem gf_RX11_84 {cc : ByteArray} {fr lo nL : Nat} {G : Wc} {Γ : Cx} {us : List (Nat × Ob)} {pc : Nat} {L : List (Nat × Value)} {st : List Value} {u : Nat} {S : Ob} (i : Nat) (hu : us[i]? = some (u, S)) (hk : kd u = 10) (d : decode cc pc = .ok (.getfield 84, 3)) (kk : V cc RX11 fr lo nL G Γ us (pc + 3) L (.ref (wA G u 49) :: st)) : V cc RX11 fr lo nL G Γ us pc L (.ref (wA G u 0) :: st) :=
  V_get (T := TX11) 48 i (Or.inl wf_RX11_84) inX11 rfl (by decide) rfl hu hk (by decide) rfl rfl d kk
theorem wf_RX11_138 : Cond.fieldLink RX11 138 RX11 "at" "I" ∈ gw := gw_at 1393 (by decide +kernel) rfl
theorem gf_RX11_138 {cc : ByteArray} {fr lo nL : Nat} {G : Wc} {Γ : Cx} {us : List (Nat × Ob)} {pc : Nat} {L : List (Nat × Value)} {st : List Value} {u : Nat} {S : Ob} (i : Nat) (hu : us[i]? = some (u, S)) (hk : kd u = 10) (d : decode cc pc = .ok (.getfield 138, 3)) (kk : V cc RX11 fr lo nL G Γ us (pc + 3) L (.int (oI S 12) :: st)) : V cc RX11 fr lo nL G Γ us pc L (.ref (wA G u 0) :: st) :=
  V_get (T := TX11) 12 i (Or.inl wf_RX11_138) inX11 rfl (by decide) rfl hu hk (by decide) rfl rfl d kk
theorem pf_RX11_138 {cc : ByteArray} {fr lo nL : Nat} {G : Wc} {Γ : Cx} {us : List (Nat × Ob)} {pc : Nat} {L : List (Nat × Value)} {st : List Value} {u : Nat} {S : Ob} {v : Int32} (us1 : List (Nat × Ob)) (i : Nat) (hu : us[i]? = some (u, S)) (hk : kd u = 10) (hus : us.set i (u, sI S 12 v) = us1) (d : decode cc pc = .ok (.putfield 138, 3)) (kk : V cc RX11 fr lo nL G Γ us1 (pc + 3) L st) : V cc RX11 fr lo nL G Γ us pc L (.int v :: .ref (wA G u 0) :: st) :=
  V_put (T := TX11) (ty := .int) tyX11 12 i (Or.inl wf_RX11_138) inX11 tyX11_ok nmX11 rfl (by decide) rfl rfl (tyX11_ok 12 (by decide)) rfl rfl hu hk (by decide) rfl (Nat.le_of_ble_eq_true rfl) rfl hus d kk
theorem wf_RX11_141 : Cond.fieldLink RX11 141 RX11 "span" "I" ∈ gw := gw_at 1394 (by decide +kernel) rfl
theorem gf_RX11_141 {cc : ByteArray} {fr lo nL : Nat} {G : Wc} {Γ : Cx} {us : List (Nat × Ob)} {pc : Nat} {L : List (Nat × Value)} {st : List Value} {u : Nat} {S : Ob} (i : Nat) (hu : us[i]? = some (u, S)) (hk : kd u = 10) (d : decode cc pc = .ok (.getfield 141, 3)) (kk : V cc RX11 fr lo nL G Γ us (pc + 3) L (.int (oI S 13) :: st)) : V cc RX11 fr lo nL G Γ us pc L (.ref (wA G u 0) :: st) :=
  V_get (T := TX11) 13 i (Or.inl wf_RX11_141) inX11 rfl (by decide) rfl hu hk (by decide) rfl rfl d kk
theorem pf_RX11_141 {cc : ByteArray} {fr lo nL : Nat} {G : Wc} {Γ : Cx} {us : List (Nat × Ob)} {pc : Nat} {L : List (Nat × Value)} {st : List Value} {u : Nat} {S : Ob} {v : Int32} (us1 : List (Nat × Ob)) (i : Nat) (hu : us[i]? = some (u, S)) (hk : kd u = 10) (hus : us.set i (u, sI S 13 v) = us1) (d : decode cc pc = .ok (.putfield 141, 3)) (kk : V cc RX11 fr lo nL G Γ us1 (pc + 3) L st) : V cc RX11 fr lo nL G Γ us pc L (.int v :: .ref (wA G u 0) :: st) :=
  V_put (T := TX11) (ty := .int) tyX11 13 i (Or.inl wf_RX11_141) inX11 tyX11_ok nmX11 rfl (by decide) rfl rfl (tyX11_ok 13 (by decide)) rfl rfl hu hk (by decide) rfl (Nat.le_of_ble_eq_true rfl) rfl hus d kk
theorem wf_RX11_144 : Cond.fieldLink RX11 144 RX11 "token" "I" ∈ gw := gw_at 1392 (by decide +kernel) rfl
theorem gf_RX11_144 {cc : ByteArray} {fr lo nL : Nat} {G : Wc} {Γ : Cx} {us : List (Nat × Ob)} {pc : Nat} {L : List (Nat × Value)} {st : List Value} {u : Nat} {S : Ob} (i : Nat) (hu : us[i]? = some (u, S)) (hk : kd u = 10) (d : decode cc pc = .ok (.getfield 144, 3)) (kk : V cc RX11 fr lo nL G Γ us (pc + 3) L (.int (oI S 11) :: st)) : V cc RX11 fr lo nL G Γ us pc L (.ref (wA G u 0) :: st) :=
  V_get (T := TX11) 11 i (Or.inl wf_RX11_144) inX11 rfl (by decide) rfl hu hk (by decide) rfl rfl d kk
theorem pf_RX11_144 {cc : ByteArray} {fr lo nL : Nat} {G : Wc} {Γ : Cx} {us : List (Nat × Ob)} {pc : Nat} {L : List (Nat × Value)} {st : List Value} {u : Nat} {S : Ob} {v : Int32} (us1 : List (Nat × Ob)) (i : Nat) (hu : us[i]? = some (u, S)) (hk : kd u = 10) (hus : us.set i (u, sI S 11 v) = us1) (d : decode cc pc = .ok (.putfield 144, 3)) (kk : V cc RX11 fr lo nL G Γ us1 (pc + 3) L st) : V cc RX11 fr lo nL G Γ us pc L (.int v :: .ref (wA G u 0) :: st) :=
  V_put (T := TX11) (ty := .int) tyX11 11 i (Or.inl wf_RX11_144) inX11 tyX11_ok nmX11 rfl (by decide) rfl rfl (tyX11_ok 11 (by decide)) rfl rfl hu hk (by decide) rfl (Nat.le_of_ble_eq_true rfl) rfl hus d kk
theorem wf_RX11_154 : Cond.fieldLink RX11 154 RX11 "number" "I" ∈ gw := gw_at 1395 (by decide +kernel) rfl
theorem gf_RX11_154 {cc : ByteArray} {fr lo nL : Nat} {G : Wc} {Γ : Cx} {us : List (Nat × Ob)} {pc : Nat} {L : List (Nat × Value)} {st : List Value} {u : Nat} {S : Ob} (i : Nat) (hu : us[i]? = some (u, S)) (hk : kd u = 10) (d : decode cc pc = .ok (.getfield 154, 3)) (kk : V cc RX11 fr lo nL G Γ us (pc + 3) L (.int (oI S 14) :: st)) : V cc RX11 fr lo nL G Γ us pc L (.ref (wA G u 0) :: st) :=
  V_get (T := TX11) 14 i (Or.inl wf_RX11_154) inX11 rfl (by decide) rfl hu hk (by decide) rfl rfl d kk
theorem pf_RX11_154 {cc : ByteArray} {fr lo nL : Nat} {G : Wc} {Γ : Cx} {us : List (Nat × Ob)} {pc : Nat} {L : List (Nat × Value)} {st : List Value} {u : Nat} {S : Ob} {v : Int32} (us1 : List (Nat × Ob)) (i : Nat) (hu : us[i]? = some (u, S)) (hk : kd u = 10) (hus : us.set i (u, sI S 14 v) = us1) (d : decode cc pc = .ok (.putfield 154, 3)) (kk : V cc RX11 fr lo nL G Γ us1 (pc + 3) L st) : V cc RX11 fr lo nL G Γ us pc L (.int v :: .ref (wA G u 0) :: st) :=
  V_put (T := TX11) (ty := .int) tyX11 14 i (Or.inl wf_RX11_154) inX11 tyX11_ok nmX11 rfl (by decide) rfl rfl (tyX11_ok 14 (by decide)) rfl rfl hu hk (by decide) rfl (Nat.le_of_ble_eq_true rfl) rfl hus d kk
theorem wf_RX11_157 : Cond.fieldLink RX11 157 RX11 "word" "J" ∈ gw := gw_at 1398 (by decide +kernel) rfl
theorem gf_RX11_157 {cc : ByteArray} {fr lo nL : Nat} {G : Wc} {Γ : Cx} {us : List (Nat × Ob)} {pc : Nat} {L : List (Nat × Value)} {st : List Value} {u : Nat} {S : Ob} (i : Nat) (hu : us[i]? = some (u, S)) (hk : kd u = 10) (d : decode cc pc = .ok (.getfield 157, 3)) (kk : V cc RX11 fr lo nL G Γ us (pc + 3) L (.long (oL S 17) :: st)) : V cc RX11 fr lo nL G Γ us pc L (.ref (wA G u 0) :: st) :=
  V_get (T := TX11) 17 i (Or.inl wf_RX11_157) inX11 rfl (by decide) rfl hu hk (by decide) rfl rfl d kk
theorem pf_RX11_157 {cc : ByteArray} {fr lo nL : Nat} {G : Wc} {Γ : Cx} {us : List (Nat × Ob)} {pc : Nat} {L : List (Nat × Value)} {st : List Value} {u : Nat} {S : Ob} {v : Int64} (us1 : List (Nat × Ob)) (i : Nat) (hu : us[i]? = some (u, S)) (hk : kd u = 10) (hus : us.set i (u, sL S 17 v) = us1) (d : decode cc pc = .ok (.putfield 157, 3)) (kk : V cc RX11 fr lo nL G Γ us1 (pc + 3) L st) : V cc RX11 fr lo nL G Γ us pc L (.long v :: .ref (wA G u 0) :: st) :=
  V_put (T := TX11) (ty := .long) tyX11 17 i (Or.inl wf_RX11_157) inX11 tyX11_ok nmX11 rfl (by decide) rfl rfl (tyX11_ok 17 (by decide)) rfl rfl hu hk (by decide) rfl (Nat.le_of_ble_eq_true rfl) rfl hus d kk
theorem wf_RX11_161 : Cond.fieldLink RX11 161 RX11 "fault" "I" ∈ gw := gw_at 1396 (by decide +kernel) rfl
theorem gf_RX11_161 {cc : ByteArray} {fr lo nL : Nat} {G : Wc} {Γ : Cx} {us : List (Nat × Ob)} {pc : Nat} {L : List (Nat × Value)} {st : List Value} {u : Nat} {S : Ob} (i : Nat) (hu : us[i]? = some (u, S)) (hk : kd u = 10) (d : decode cc pc = .ok (.getfield 161, 3)) (kk : V cc RX11 fr lo nL G Γ us (pc + 3) L (.int (oI S 15) :: st)) : V cc RX11 fr lo nL G Γ us pc L (.ref (wA G u 0) :: st) :=
  V_get (T := TX11) 15 i (Or.inl wf_RX11_161) inX11 rfl (by decide) rfl hu hk (by decide) rfl rfl d kk
theorem pf_RX11_161 {cc : ByteArray} {fr lo nL : Nat} {G : Wc} {Γ : Cx} {us : List (Nat × Ob)} {pc : Nat} {L : List (Nat × Value)} {st : List Value} {u : Nat} {S : Ob} {v : Int32} (us1 : List (Nat × Ob)) (i : Nat) (hu : us[i]? = some (u, S)) (hk : kd u = 10) (hus : us.set i (u, sI S 15 v) = us1) (d : decode cc pc = .ok (.putfield 161, 3)) (kk : V cc RX11 fr lo nL G Γ us1 (pc + 3) L st) : V cc RX11 fr lo nL G Γ us pc L (.int v :: .ref (wA G u 0) :: st) :=
  V_put (T := TX11) (ty := .int) tyX11 15 i (Or.inl wf_RX11_161) inX11 tyX11_ok nmX11 rfl (by decide) rfl rfl (tyX11_ok 15 (by decide)) rfl rfl hu hk (by decide) rfl (Nat.le_of_ble_eq_true rfl) rfl hus d kk
theorem wf_RX11_164 : Cond.fieldLink RX11 164 RX11 "faultAt" "I" ∈ gw := gw_at 1397 (by decide +kernel) rfl
theorem gf_RX11_164 {cc : ByteArray} {fr lo nL : Nat} {G : Wc} {Γ : Cx} {us : List (Nat × Ob)} {pc : Nat} {L : List (Nat × Value)} {st : List Value} {u : Nat} {S : Ob} (i : Nat) (hu : us[i]? = some (u, S)) (hk : kd u = 10) (d : decode cc pc = .ok (.getfield 164, 3)) (kk : V cc RX11 fr lo nL G Γ us (pc + 3) L (.int (oI S 16) :: st)) : V cc RX11 fr lo nL G Γ us pc L (.ref (wA G u 0) :: st) :=
  V_get (T := TX11) 16 i (Or.inl wf_RX11_164) inX11 rfl (by decide) rfl hu hk (by decide) rfl rfl d kk
theorem pf_RX11_164 {cc : ByteArray} {fr lo nL : Nat} {G : Wc} {Γ : Cx} {us : List (Nat × Ob)} {pc : Nat} {L : List (Nat × Value)} {st : List Value} {u : Nat} {S : Ob} {v : Int32} (us1 : List (Nat × Ob)) (i : Nat) (hu : us[i]? = some (u, S)) (hk : kd u = 10) (hus : us.set i (u, sI S 16 v) = us1) (d : decode cc pc = .ok (.putfield 164, 3)) (kk : V cc RX11 fr lo nL G Γ us1 (pc + 3) L st) : V cc RX11 fr lo nL G Γ us pc L (.int v :: .ref (wA G u 0) :: st) :=
  V_put (T := TX11) (ty := .int) tyX11 16 i (Or.inl wf_RX11_164) inX11 tyX11_ok nmX11 rfl (by decide) rfl rfl (tyX11_ok 16 (by decide)) rfl rfl hu hk (by decide) rfl (Nat.le_of_ble_eq_true rfl) rfl hus d kk
theorem wf_RX11_180 : Cond.fieldLink RX11 180 RX11 "got" "I" ∈ gw := gw_at 1399 (by decide +kernel) rfl
theorem gf_RX11_180 {cc : ByteArray} {fr lo nL : Nat} {G : Wc} {Γ : Cx} {us : List (Nat × Ob)} {pc : Nat} {L : List (Nat × Value)} {st : List Value} {u : Nat} {S : Ob} (i : Nat) (hu : us[i]? = some (u, S)) (hk : kd u = 10) (d : decode cc pc = .ok (.getfield 180, 3)) (kk : V cc RX11 fr lo nL G Γ us (pc + 3) L (.int (oI S 18) :: st)) : V cc RX11 fr lo nL G Γ us pc L (.ref (wA G u 0) :: st) :=
  V_get (T := TX11) 18 i (Or.inl wf_RX11_180) inX11 rfl (by decide) rfl hu hk (by decide) rfl rfl d kk
theorem pf_RX11_180 {cc : ByteArray} {fr lo nL : Nat} {G : Wc} {Γ : Cx} {us : List (Nat × Ob)} {pc : Nat} {L : List (Nat × Value)} {st : List Value} {u : Nat} {S : Ob} {v : Int32} (us1 : List (Nat × Ob)) (i : Nat) (hu : us[i]? = some (u, S)) (hk : kd u = 10) (hus : us.set i (u, sI S 18 v) = us1) (d : decode cc pc = .ok (.putfield 180, 3)) (kk : V cc RX11 fr lo nL G Γ us1 (pc + 3) L st) : V cc RX11 fr lo nL G Γ us pc L (.int v :: .ref (wA G u 0) :: st) :=
  V_put (T := TX11) (ty := .int) tyX11 18 i (Or.inl wf_RX11_180) inX11 tyX11_ok nmX11 rfl (by decide) rfl rfl (tyX11_ok 18 (by decide)) rfl rfl hu hk (by decide) rfl (Nat.le_of_ble_eq_true rfl) rfl hus d kk
theorem wf_RX11_217 : Cond.fieldLink RX11 217 RX11 "hasComb" "Z" ∈ gw := gw_at 1401 (by decide +kernel) rfl
theorem gf_RX11_217 {cc : ByteArray} {fr lo nL : Nat} {G : Wc} {Γ : Cx} {us : List (Nat × Ob)} {pc : Nat} {L : List (Nat × Value)} {st : List Value} {u : Nat} {S : Ob} (i : Nat) (hu : us[i]? = some (u, S)) (hk : kd u = 10) (d : decode cc pc = .ok (.getfield 217, 3)) (kk : V cc RX11 fr lo nL G Γ us (pc + 3) L (.int (oI S 20) :: st)) : V cc RX11 fr lo nL G Γ us pc L (.ref (wA G u 0) :: st) :=
  V_get (T := TX11) 20 i (Or.inl wf_RX11_217) inX11 rfl (by decide) rfl hu hk (by decide) rfl rfl d kk
theorem pf_RX11_217 {cc : ByteArray} {fr lo nL : Nat} {G : Wc} {Γ : Cx} {us : List (Nat × Ob)} {pc : Nat} {L : List (Nat × Value)} {st : List Value} {u : Nat} {S : Ob} {v : Int32} (us1 : List (Nat × Ob)) (i : Nat) (hu : us[i]? = some (u, S)) (hk : kd u = 10) (hz : z01 v = true) (hus : us.set i (u, sI S 20 v) = us1) (d : decode cc pc = .ok (.putfield 217, 3)) (kk : V cc RX11 fr lo nL G Γ us1 (pc + 3) L st) : V cc RX11 fr lo nL G Γ us pc L (.int v :: .ref (wA G u 0) :: st) :=
  V_put (T := TX11) (ty := .boolean) tyX11 20 i (Or.inl wf_RX11_217) inX11 tyX11_ok nmX11 rfl (by decide) rfl rfl (tyX11_ok 20 (by decide)) (z01_nar hz) (z01_fit hz) hu hk (by decide) rfl (Nat.le_of_ble_eq_true rfl) rfl hus d kk
theorem wf_RX11_233 : Cond.fieldLink RX11 233 RX11 "lines" "I" ∈ gw := gw_at 1400 (by decide +kernel) rfl
theorem gf_RX11_233 {cc : ByteArray} {fr lo nL : Nat} {G : Wc} {Γ : Cx} {us : List (Nat × Ob)} {pc : Nat} {L : List (Nat × Value)} {st : List Value} {u : Nat} {S : Ob} (i : Nat) (hu : us[i]? = some (u, S)) (hk : kd u = 10) (d : decode cc pc = .ok (.getfield 233, 3)) (kk : V cc RX11 fr lo nL G Γ us (pc + 3) L (.int (oI S 19) :: st)) : V cc RX11 fr lo nL G Γ us pc L (.ref (wA G u 0) :: st) :=
  V_get (T := TX11) 19 i (Or.inl wf_RX11_233) inX11 rfl (by decide) rfl hu hk (by decide) rfl rfl d kk
theorem pf_RX11_233 {cc : ByteArray} {fr lo nL : Nat} {G : Wc} {Γ : Cx} {us : List (Nat × Ob)} {pc : Nat} {L : List (Nat × Value)} {st : List Value} {u : Nat} {S : Ob} {v : Int32} (us1 : List (Nat × Ob)) (i : Nat) (hu : us[i]? = some (u, S)) (hk : kd u = 10) (hus : us.set i (u, sI S 19 v) = us1) (d : decode cc pc = .ok (.putfield 233, 3)) (kk : V cc RX11 fr lo nL G Γ us1 (pc + 3) L st) : V cc RX11 fr lo nL G Γ us pc L (.int v :: .ref (wA G u 0) :: st) :=
  V_put (T := TX11) (ty := .int) tyX11 19 i (Or.inl wf_RX11_233) inX11 tyX11_ok nmX11 rfl (by decide) rfl rfl (tyX11_ok 19 (by decide)) rfl rfl hu hk (by decide) rfl (Nat.le_of_ble_eq_true rfl) rfl hus d kk
theorem wf_RX11_242 : Cond.fieldLink RX11 242 RX11 "undoMany" "I" ∈ gw := gw_at 1404 (by decide +kernel) rfl
theorem gf_RX11_242 {cc : ByteArray} {fr lo nL : Nat} {G : Wc} {Γ : Cx} {us : List (Nat × Ob)} {pc : Nat} {L : List (Nat × Value)} {st : List Value} {u : Nat} {S : Ob} (i : Nat) (hu : us[i]? = some (u, S)) (hk : kd u = 10) (d : decode cc pc = .ok (.getfield 242, 3)) (kk : V cc RX11 fr lo nL G Γ us (pc + 3) L (.int (oI S 23) :: st)) : V cc RX11 fr lo nL G Γ us pc L (.ref (wA G u 0) :: st) :=
  V_get (T := TX11) 23 i (Or.inl wf_RX11_242) inX11 rfl (by decide) rfl hu hk (by decide) rfl rfl d kk
theorem pf_RX11_242 {cc : ByteArray} {fr lo nL : Nat} {G : Wc} {Γ : Cx} {us : List (Nat × Ob)} {pc : Nat} {L : List (Nat × Value)} {st : List Value} {u : Nat} {S : Ob} {v : Int32} (us1 : List (Nat × Ob)) (i : Nat) (hu : us[i]? = some (u, S)) (hk : kd u = 10) (hus : us.set i (u, sI S 23 v) = us1) (d : decode cc pc = .ok (.putfield 242, 3)) (kk : V cc RX11 fr lo nL G Γ us1 (pc + 3) L st) : V cc RX11 fr lo nL G Γ us pc L (.int v :: .ref (wA G u 0) :: st) :=
  V_put (T := TX11) (ty := .int) tyX11 23 i (Or.inl wf_RX11_242) inX11 tyX11_ok nmX11 rfl (by decide) rfl rfl (tyX11_ok 23 (by decide)) rfl rfl hu hk (by decide) rfl (Nat.le_of_ble_eq_true rfl) rfl hus d kk
theorem wf_RX11_339 : Cond.fieldLink RX11 339 RX11 "hasRound" "Z" ∈ gw := gw_at 1406 (by decide +kernel) rfl
theorem gf_RX11_339 {cc : ByteArray} {fr lo nL : Nat} {G : Wc} {Γ : Cx} {us : List (Nat × Ob)} {pc : Nat} {L : List (Nat × Value)} {st : List Value} {u : Nat} {S : Ob} (i : Nat) (hu : us[i]? = some (u, S)) (hk : kd u = 10) (d : decode cc pc = .ok (.getfield 339, 3)) (kk : V cc RX11 fr lo nL G Γ us (pc + 3) L (.int (oI S 25) :: st)) : V cc RX11 fr lo nL G Γ us pc L (.ref (wA G u 0) :: st) :=
  V_get (T := TX11) 25 i (Or.inl wf_RX11_339) inX11 rfl (by decide) rfl hu hk (by decide) rfl rfl d kk
theorem pf_RX11_339 {cc : ByteArray} {fr lo nL : Nat} {G : Wc} {Γ : Cx} {us : List (Nat × Ob)} {pc : Nat} {L : List (Nat × Value)} {st : List Value} {u : Nat} {S : Ob} {v : Int32} (us1 : List (Nat × Ob)) (i : Nat) (hu : us[i]? = some (u, S)) (hk : kd u = 10) (hz : z01 v = true) (hus : us.set i (u, sI S 25 v) = us1) (d : decode cc pc = .ok (.putfield 339, 3)) (kk : V cc RX11 fr lo nL G Γ us1 (pc + 3) L st) : V cc RX11 fr lo nL G Γ us pc L (.int v :: .ref (wA G u 0) :: st) :=
  V_put (T := TX11) (ty := .boolean) tyX11 25 i (Or.inl wf_RX11_339) inX11 tyX11_ok nmX11 rfl (by decide) rfl rfl (tyX11_ok 25 (by decide)) (z01_nar hz) (z01_fit hz) hu hk (by decide) rfl (Nat.le_of_ble_eq_true rfl) rfl hus d kk
theorem wf_RX11_342 : Cond.fieldLink RX11 342 RX11 "roundSet" "I" ∈ gw := gw_at 1405 (by decide +kernel) rfl
theorem gf_RX11_342 {cc : ByteArray} {fr lo nL : Nat} {G : Wc} {Γ : Cx} {us : List (Nat × Ob)} {pc : Nat} {L : List (Nat × Value)} {st : List Value} {u : Nat} {S : Ob} (i : Nat) (hu : us[i]? = some (u, S)) (hk : kd u = 10) (d : decode cc pc = .ok (.getfield 342, 3)) (kk : V cc RX11 fr lo nL G Γ us (pc + 3) L (.int (oI S 24) :: st)) : V cc RX11 fr lo nL G Γ us pc L (.ref (wA G u 0) :: st) :=
  V_get (T := TX11) 24 i (Or.inl wf_RX11_342) inX11 rfl (by decide) rfl hu hk (by decide) rfl rfl d kk
theorem pf_RX11_342 {cc : ByteArray} {fr lo nL : Nat} {G : Wc} {Γ : Cx} {us : List (Nat × Ob)} {pc : Nat} {L : List (Nat × Value)} {st : List Value} {u : Nat} {S : Ob} {v : Int32} (us1 : List (Nat × Ob)) (i : Nat) (hu : us[i]? = some (u, S)) (hk : kd u = 10) (hus : us.set i (u, sI S 24 v) = us1) (d : decode cc pc = .ok (.putfield 342, 3)) (kk : V cc RX11 fr lo nL G Γ us1 (pc + 3) L st) : V cc RX11 fr lo nL G Γ us pc L (.int v :: .ref (wA G u 0) :: st) :=
  V_put (T := TX11) (ty := .int) tyX11 24 i (Or.inl wf_RX11_342) inX11 tyX11_ok nmX11 rfl (by decide) rfl rfl (tyX11_ok 24 (by decide)) rfl rfl hu hk (by decide) rfl (Nat.le_of_ble_eq_true rfl) rfl hus d kk
theorem wf_RX11_351 : Cond.fieldLink RX11 351 RX11 "hasBeds" "Z" ∈ gw := gw_at 1411 (by decide +kernel) rfl
theorem gf_RX11_351 {cc : ByteArray} {fr lo nL : Nat} {G : Wc} {Γ : Cx} {us : List (Nat × Ob)} {pc : Nat} {L : List (Nat × Value)} {st : List Value} {u : Nat} {S : Ob} (i : Nat) (hu : us[i]? = some (u, S)) (hk : kd u = 10) (d : decode cc pc = .ok (.getfield 351, 3)) (kk : V cc RX11 fr lo nL G Γ us (pc + 3) L (.int (oI S 30) :: st)) : V cc RX11 fr lo nL G Γ us pc L (.ref (wA G u 0) :: st) :=
  V_get (T := TX11) 30 i (Or.inl wf_RX11_351) inX11 rfl (by decide) rfl hu hk (by decide) rfl rfl d kk
theorem pf_RX11_351 {cc : ByteArray} {fr lo nL : Nat} {G : Wc} {Γ : Cx} {us : List (Nat × Ob)} {pc : Nat} {L : List (Nat × Value)} {st : List Value} {u : Nat} {S : Ob} {v : Int32} (us1 : List (Nat × Ob)) (i : Nat) (hu : us[i]? = some (u, S)) (hk : kd u = 10) (hz : z01 v = true) (hus : us.set i (u, sI S 30 v) = us1) (d : decode cc pc = .ok (.putfield 351, 3)) (kk : V cc RX11 fr lo nL G Γ us1 (pc + 3) L st) : V cc RX11 fr lo nL G Γ us pc L (.int v :: .ref (wA G u 0) :: st) :=
  V_put (T := TX11) (ty := .boolean) tyX11 30 i (Or.inl wf_RX11_351) inX11 tyX11_ok nmX11 rfl (by decide) rfl rfl (tyX11_ok 30 (by decide)) (z01_nar hz) (z01_fit hz) hu hk (by decide) rfl (Nat.le_of_ble_eq_true rfl) rfl hus d kk
theorem wf_RX11_354 : Cond.fieldLink RX11 354 RX11 "bedSet" "I" ∈ gw := gw_at 1410 (by decide +kernel) rfl
theorem gf_RX11_354 {cc : ByteArray} {fr lo nL : Nat} {G : Wc} {Γ : Cx} {us : List (Nat × Ob)} {pc : Nat} {L : List (Nat × Value)} {st : List Value} {u : Nat} {S : Ob} (i : Nat) (hu : us[i]? = some (u, S)) (hk : kd u = 10) (d : decode cc pc = .ok (.getfield 354, 3)) (kk : V cc RX11 fr lo nL G Γ us (pc + 3) L (.int (oI S 29) :: st)) : V cc RX11 fr lo nL G Γ us pc L (.ref (wA G u 0) :: st) :=
  V_get (T := TX11) 29 i (Or.inl wf_RX11_354) inX11 rfl (by decide) rfl hu hk (by decide) rfl rfl d kk
theorem pf_RX11_354 {cc : ByteArray} {fr lo nL : Nat} {G : Wc} {Γ : Cx} {us : List (Nat × Ob)} {pc : Nat} {L : List (Nat × Value)} {st : List Value} {u : Nat} {S : Ob} {v : Int32} (us1 : List (Nat × Ob)) (i : Nat) (hu : us[i]? = some (u, S)) (hk : kd u = 10) (hus : us.set i (u, sI S 29 v) = us1) (d : decode cc pc = .ok (.putfield 354, 3)) (kk : V cc RX11 fr lo nL G Γ us1 (pc + 3) L st) : V cc RX11 fr lo nL G Γ us pc L (.int v :: .ref (wA G u 0) :: st) :=
  V_put (T := TX11) (ty := .int) tyX11 29 i (Or.inl wf_RX11_354) inX11 tyX11_ok nmX11 rfl (by decide) rfl rfl (tyX11_ok 29 (by decide)) rfl rfl hu hk (by decide) rfl (Nat.le_of_ble_eq_true rfl) rfl hus d kk
theorem wf_RX11_366 : Cond.fieldLink RX11 366 RX11 "hasFits" "Z" ∈ gw := gw_at 1413 (by decide +kernel) rfl
theorem gf_RX11_366 {cc : ByteArray} {fr lo nL : Nat} {G : Wc} {Γ : Cx} {us : List (Nat × Ob)} {pc : Nat} {L : List (Nat × Value)} {st : List Value} {u : Nat} {S : Ob} (i : Nat) (hu : us[i]? = some (u, S)) (hk : kd u = 10) (d : decode cc pc = .ok (.getfield 366, 3)) (kk : V cc RX11 fr lo nL G Γ us (pc + 3) L (.int (oI S 32) :: st)) : V cc RX11 fr lo nL G Γ us pc L (.ref (wA G u 0) :: st) :=
  V_get (T := TX11) 32 i (Or.inl wf_RX11_366) inX11 rfl (by decide) rfl hu hk (by decide) rfl rfl d kk
theorem pf_RX11_366 {cc : ByteArray} {fr lo nL : Nat} {G : Wc} {Γ : Cx} {us : List (Nat × Ob)} {pc : Nat} {L : List (Nat × Value)} {st : List Value} {u : Nat} {S : Ob} {v : Int32} (us1 : List (Nat × Ob)) (i : Nat) (hu : us[i]? = some (u, S)) (hk : kd u = 10) (hz : z01 v = true) (hus : us.set i (u, sI S 32 v) = us1) (d : decode cc pc = .ok (.putfield 366, 3)) (kk : V cc RX11 fr lo nL G Γ us1 (pc + 3) L st) : V cc RX11 fr lo nL G Γ us pc L (.int v :: .ref (wA G u 0) :: st) :=
  V_put (T := TX11) (ty := .boolean) tyX11 32 i (Or.inl wf_RX11_366) inX11 tyX11_ok nmX11 rfl (by decide) rfl rfl (tyX11_ok 32 (by decide)) (z01_nar hz) (z01_fit hz) hu hk (by decide) rfl (Nat.le_of_ble_eq_true rfl) rfl hus d kk
theorem wf_RX11_369 : Cond.fieldLink RX11 369 RX11 "askLayer" "I" ∈ gw := gw_at 1412 (by decide +kernel) rfl
theorem gf_RX11_369 {cc : ByteArray} {fr lo nL : Nat} {G : Wc} {Γ : Cx} {us : List (Nat × Ob)} {pc : Nat} {L : List (Nat × Value)} {st : List Value} {u : Nat} {S : Ob} (i : Nat) (hu : us[i]? = some (u, S)) (hk : kd u = 10) (d : decode cc pc = .ok (.getfield 369, 3)) (kk : V cc RX11 fr lo nL G Γ us (pc + 3) L (.int (oI S 31) :: st)) : V cc RX11 fr lo nL G Γ us pc L (.ref (wA G u 0) :: st) :=
  V_get (T := TX11) 31 i (Or.inl wf_RX11_369) inX11 rfl (by decide) rfl hu hk (by decide) rfl rfl d kk
theorem pf_RX11_369 {cc : ByteArray} {fr lo nL : Nat} {G : Wc} {Γ : Cx} {us : List (Nat × Ob)} {pc : Nat} {L : List (Nat × Value)} {st : List Value} {u : Nat} {S : Ob} {v : Int32} (us1 : List (Nat × Ob)) (i : Nat) (hu : us[i]? = some (u, S)) (hk : kd u = 10) (hus : us.set i (u, sI S 31 v) = us1) (d : decode cc pc = .ok (.putfield 369, 3)) (kk : V cc RX11 fr lo nL G Γ us1 (pc + 3) L st) : V cc RX11 fr lo nL G Γ us pc L (.int v :: .ref (wA G u 0) :: st) :=
  V_put (T := TX11) (ty := .int) tyX11 31 i (Or.inl wf_RX11_369) inX11 tyX11_ok nmX11 rfl (by decide) rfl rfl (tyX11_ok 31 (by decide)) rfl rfl hu hk (by decide) rfl (Nat.le_of_ble_eq_true rfl) rfl hus d kk
theorem wf_RX11_378 : Cond.fieldLink RX11 378 RX11 "textMany" "I" ∈ gw := gw_at 1415 (by decide +kernel) rfl
theorem gf_RX11_378 {cc : ByteArray} {fr lo nL : Nat} {G : Wc} {Γ : Cx} {us : List (Nat × Ob)} {pc : Nat} {L : List (Nat × Value)} {st : List Value} {u : Nat} {S : Ob} (i : Nat) (hu : us[i]? = some (u, S)) (hk : kd u = 10) (d : decode cc pc = .ok (.getfield 378, 3)) (kk : V cc RX11 fr lo nL G Γ us (pc + 3) L (.int (oI S 34) :: st)) : V cc RX11 fr lo nL G Γ us pc L (.ref (wA G u 0) :: st) :=
  V_get (T := TX11) 34 i (Or.inl wf_RX11_378) inX11 rfl (by decide) rfl hu hk (by decide) rfl rfl d kk
theorem pf_RX11_378 {cc : ByteArray} {fr lo nL : Nat} {G : Wc} {Γ : Cx} {us : List (Nat × Ob)} {pc : Nat} {L : List (Nat × Value)} {st : List Value} {u : Nat} {S : Ob} {v : Int32} (us1 : List (Nat × Ob)) (i : Nat) (hu : us[i]? = some (u, S)) (hk : kd u = 10) (hus : us.set i (u, sI S 34 v) = us1) (d : decode cc pc = .ok (.putfield 378, 3)) (kk : V cc RX11 fr lo nL G Γ us1 (pc + 3) L st) : V cc RX11 fr lo nL G Γ us pc L (.int v :: .ref (wA G u 0) :: st) :=
  V_put (T := TX11) (ty := .int) tyX11 34 i (Or.inl wf_RX11_378) inX11 tyX11_ok nmX11 rfl (by decide) rfl rfl (tyX11_ok 34 (by decide)) rfl rfl hu hk (by decide) rfl (Nat.le_of_ble_eq_true rfl) rfl hus d kk
theorem wf_RX11_393 : Cond.fieldLink RX11 393 RX11 "seed" "I" ∈ gw := gw_at 1416 (by decide +kernel) rfl
theorem gf_RX11_393 {cc : ByteArray} {fr lo nL : Nat} {G : Wc} {Γ : Cx} {us : List (Nat × Ob)} {pc : Nat} {L : List (Nat × Value)} {st : List Value} {u : Nat} {S : Ob} (i : Nat) (hu : us[i]? = some (u, S)) (hk : kd u = 10) (d : decode cc pc = .ok (.getfield 393, 3)) (kk : V cc RX11 fr lo nL G Γ us (pc + 3) L (.int (oI S 35) :: st)) : V cc RX11 fr lo nL G Γ us pc L (.ref (wA G u 0) :: st) :=
  V_get (T := TX11) 35 i (Or.inl wf_RX11_393) inX11 rfl (by decide) rfl hu hk (by decide) rfl rfl d kk
theorem pf_RX11_393 {cc : ByteArray} {fr lo nL : Nat} {G : Wc} {Γ : Cx} {us : List (Nat × Ob)} {pc : Nat} {L : List (Nat × Value)} {st : List Value} {u : Nat} {S : Ob} {v : Int32} (us1 : List (Nat × Ob)) (i : Nat) (hu : us[i]? = some (u, S)) (hk : kd u = 10) (hus : us.set i (u, sI S 35 v) = us1) (d : decode cc pc = .ok (.putfield 393, 3)) (kk : V cc RX11 fr lo nL G Γ us1 (pc + 3) L st) : V cc RX11 fr lo nL G Γ us pc L (.int v :: .ref (wA G u 0) :: st) :=
  V_put (T := TX11) (ty := .int) tyX11 35 i (Or.inl wf_RX11_393) inX11 tyX11_ok nmX11 rfl (by decide) rfl rfl (tyX11_ok 35 (by decide)) rfl rfl hu hk (by decide) rfl (Nat.le_of_ble_eq_true rfl) rfl hus d kk
theorem wf_RX11_406 : Cond.fieldLink RX11 406 RX11 "toldMany" "I" ∈ gw := gw_at 1417 (by decide +kernel) rfl
theorem gf_RX11_406 {cc : ByteArray} {fr lo nL : Nat} {G : Wc} {Γ : Cx} {us : List (Nat × Ob)} {pc : Nat} {L : List (Nat × Value)} {st : List Value} {u : Nat} {S : Ob} (i : Nat) (hu : us[i]? = some (u, S)) (hk : kd u = 10) (d : decode cc pc = .ok (.getfield 406, 3)) (kk : V cc RX11 fr lo nL G Γ us (pc + 3) L (.int (oI S 36) :: st)) : V cc RX11 fr lo nL G Γ us pc L (.ref (wA G u 0) :: st) :=
  V_get (T := TX11) 36 i (Or.inl wf_RX11_406) inX11 rfl (by decide) rfl hu hk (by decide) rfl rfl d kk
theorem pf_RX11_406 {cc : ByteArray} {fr lo nL : Nat} {G : Wc} {Γ : Cx} {us : List (Nat × Ob)} {pc : Nat} {L : List (Nat × Value)} {st : List Value} {u : Nat} {S : Ob} {v : Int32} (us1 : List (Nat × Ob)) (i : Nat) (hu : us[i]? = some (u, S)) (hk : kd u = 10) (hus : us.set i (u, sI S 36 v) = us1) (d : decode cc pc = .ok (.putfield 406, 3)) (kk : V cc RX11 fr lo nL G Γ us1 (pc + 3) L st) : V cc RX11 fr lo nL G Γ us pc L (.int v :: .ref (wA G u 0) :: st) :=
  V_put (T := TX11) (ty := .int) tyX11 36 i (Or.inl wf_RX11_406) inX11 tyX11_ok nmX11 rfl (by decide) rfl rfl (tyX11_ok 36 (by decide)) rfl rfl hu hk (by decide) rfl (Nat.le_of_ble_eq_true rfl) rfl hus d kk
theorem wf_RX11_416 : Cond.fieldLink RX11 416 RX11 "hasTold" "Z" ∈ gw := gw_at 1419 (by decide +kernel) rfl
theorem gf_RX11_416 {cc : ByteArray} {fr lo nL : Nat} {G : Wc} {Γ : Cx} {us : List (Nat × Ob)} {pc : Nat} {L : List (Nat × Value)} {st : List Value} {u : Nat} {S : Ob} (i : Nat) (hu : us[i]? = some (u, S)) (hk : kd u = 10) (d : decode cc pc = .ok (.getfield 416, 3)) (kk : V cc RX11 fr lo nL G Γ us (pc + 3) L (.int (oI S 38) :: st)) : V cc RX11 fr lo nL G Γ us pc L (.ref (wA G u 0) :: st) :=
  V_get (T := TX11) 38 i (Or.inl wf_RX11_416) inX11 rfl (by decide) rfl hu hk (by decide) rfl rfl d kk
theorem pf_RX11_416 {cc : ByteArray} {fr lo nL : Nat} {G : Wc} {Γ : Cx} {us : List (Nat × Ob)} {pc : Nat} {L : List (Nat × Value)} {st : List Value} {u : Nat} {S : Ob} {v : Int32} (us1 : List (Nat × Ob)) (i : Nat) (hu : us[i]? = some (u, S)) (hk : kd u = 10) (hz : z01 v = true) (hus : us.set i (u, sI S 38 v) = us1) (d : decode cc pc = .ok (.putfield 416, 3)) (kk : V cc RX11 fr lo nL G Γ us1 (pc + 3) L st) : V cc RX11 fr lo nL G Γ us pc L (.int v :: .ref (wA G u 0) :: st) :=
  V_put (T := TX11) (ty := .boolean) tyX11 38 i (Or.inl wf_RX11_416) inX11 tyX11_ok nmX11 rfl (by decide) rfl rfl (tyX11_ok 38 (by decide)) (z01_nar hz) (z01_fit hz) hu hk (by decide) rfl (Nat.le_of_ble_eq_true rfl) rfl hus d kk
theorem wf_RX11_419 : Cond.fieldLink RX11 419 RX11 "codes" "I" ∈ gw := gw_at 1421 (by decide +kernel) rfl
theorem gf_RX11_419 {cc : ByteArray} {fr lo nL : Nat} {G : Wc} {Γ : Cx} {us : List (Nat × Ob)} {pc : Nat} {L : List (Nat × Value)} {st : List Value} {u : Nat} {S : Ob} (i : Nat) (hu : us[i]? = some (u, S)) (hk : kd u = 10) (d : decode cc pc = .ok (.getfield 419, 3)) (kk : V cc RX11 fr lo nL G Γ us (pc + 3) L (.int (oI S 40) :: st)) : V cc RX11 fr lo nL G Γ us pc L (.ref (wA G u 0) :: st) :=
  V_get (T := TX11) 40 i (Or.inl wf_RX11_419) inX11 rfl (by decide) rfl hu hk (by decide) rfl rfl d kk
theorem pf_RX11_419 {cc : ByteArray} {fr lo nL : Nat} {G : Wc} {Γ : Cx} {us : List (Nat × Ob)} {pc : Nat} {L : List (Nat × Value)} {st : List Value} {u : Nat} {S : Ob} {v : Int32} (us1 : List (Nat × Ob)) (i : Nat) (hu : us[i]? = some (u, S)) (hk : kd u = 10) (hus : us.set i (u, sI S 40 v) = us1) (d : decode cc pc = .ok (.putfield 419, 3)) (kk : V cc RX11 fr lo nL G Γ us1 (pc + 3) L st) : V cc RX11 fr lo nL G Γ us pc L (.int v :: .ref (wA G u 0) :: st) :=
  V_put (T := TX11) (ty := .int) tyX11 40 i (Or.inl wf_RX11_419) inX11 tyX11_ok nmX11 rfl (by decide) rfl rfl (tyX11_ok 40 (by decide)) rfl rfl hu hk (by decide) rfl (Nat.le_of_ble_eq_true rfl) rfl hus d kk
theorem wf_RX11_422 : Cond.fieldLink RX11 422 RX11 "top" "I" ∈ gw := gw_at 1423 (by decide +kernel) rfl
theorem gf_RX11_422 {cc : ByteArray} {fr lo nL : Nat} {G : Wc} {Γ : Cx} {us : List (Nat × Ob)} {pc : Nat} {L : List (Nat × Value)} {st : List Value} {u : Nat} {S : Ob} (i : Nat) (hu : us[i]? = some (u, S)) (hk : kd u = 10) (d : decode cc pc = .ok (.getfield 422, 3)) (kk : V cc RX11 fr lo nL G Γ us (pc + 3) L (.int (oI S 42) :: st)) : V cc RX11 fr lo nL G Γ us pc L (.ref (wA G u 0) :: st) :=
  V_get (T := TX11) 42 i (Or.inl wf_RX11_422) inX11 rfl (by decide) rfl hu hk (by decide) rfl rfl d kk
theorem pf_RX11_422 {cc : ByteArray} {fr lo nL : Nat} {G : Wc} {Γ : Cx} {us : List (Nat × Ob)} {pc : Nat} {L : List (Nat × Value)} {st : List Value} {u : Nat} {S : Ob} {v : Int32} (us1 : List (Nat × Ob)) (i : Nat) (hu : us[i]? = some (u, S)) (hk : kd u = 10) (hus : us.set i (u, sI S 42 v) = us1) (d : decode cc pc = .ok (.putfield 422, 3)) (kk : V cc RX11 fr lo nL G Γ us1 (pc + 3) L st) : V cc RX11 fr lo nL G Γ us pc L (.int v :: .ref (wA G u 0) :: st) :=
  V_put (T := TX11) (ty := .int) tyX11 42 i (Or.inl wf_RX11_422) inX11 tyX11_ok nmX11 rfl (by decide) rfl rfl (tyX11_ok 42 (by decide)) rfl rfl hu hk (by decide) rfl (Nat.le_of_ble_eq_true rfl) rfl hus d kk
theorem wf_RX11_429 : Cond.fieldLink RX11 429 RX11 "deep" "I" ∈ gw := gw_at 1424 (by decide +kernel) rfl
theorem gf_RX11_429 {cc : ByteArray} {fr lo nL : Nat} {G : Wc} {Γ : Cx} {us : List (Nat × Ob)} {pc : Nat} {L : List (Nat × Value)} {st : List Value} {u : Nat} {S : Ob} (i : Nat) (hu : us[i]? = some (u, S)) (hk : kd u = 10) (d : decode cc pc = .ok (.getfield 429, 3)) (kk : V cc RX11 fr lo nL G Γ us (pc + 3) L (.int (oI S 43) :: st)) : V cc RX11 fr lo nL G Γ us pc L (.ref (wA G u 0) :: st) :=
  V_get (T := TX11) 43 i (Or.inl wf_RX11_429) inX11 rfl (by decide) rfl hu hk (by decide) rfl rfl d kk
theorem pf_RX11_429 {cc : ByteArray} {fr lo nL : Nat} {G : Wc} {Γ : Cx} {us : List (Nat × Ob)} {pc : Nat} {L : List (Nat × Value)} {st : List Value} {u : Nat} {S : Ob} {v : Int32} (us1 : List (Nat × Ob)) (i : Nat) (hu : us[i]? = some (u, S)) (hk : kd u = 10) (hus : us.set i (u, sI S 43 v) = us1) (d : decode cc pc = .ok (.putfield 429, 3)) (kk : V cc RX11 fr lo nL G Γ us1 (pc + 3) L st) : V cc RX11 fr lo nL G Γ us pc L (.int v :: .ref (wA G u 0) :: st) :=
  V_put (T := TX11) (ty := .int) tyX11 43 i (Or.inl wf_RX11_429) inX11 tyX11_ok nmX11 rfl (by decide) rfl rfl (tyX11_ok 43 (by decide)) rfl rfl hu hk (by decide) rfl (Nat.le_of_ble_eq_true rfl) rfl hus d kk
theorem wf_RX11_435 : Cond.fieldLink RX11 435 RX11 "ones" "I" ∈ gw := gw_at 1422 (by decide +kernel) rfl
theorem gf_RX11_435 {cc : ByteArray} {fr lo nL : Nat} {G : Wc} {Γ : Cx} {us : List (Nat × Ob)} {pc : Nat} {L : List (Nat × Value)} {st : List Value} {u : Nat} {S : Ob} (i : Nat) (hu : us[i]? = some (u, S)) (hk : kd u = 10) (d : decode cc pc = .ok (.getfield 435, 3)) (kk : V cc RX11 fr lo nL G Γ us (pc + 3) L (.int (oI S 41) :: st)) : V cc RX11 fr lo nL G Γ us pc L (.ref (wA G u 0) :: st) :=
  V_get (T := TX11) 41 i (Or.inl wf_RX11_435) inX11 rfl (by decide) rfl hu hk (by decide) rfl rfl d kk
theorem pf_RX11_435 {cc : ByteArray} {fr lo nL : Nat} {G : Wc} {Γ : Cx} {us : List (Nat × Ob)} {pc : Nat} {L : List (Nat × Value)} {st : List Value} {u : Nat} {S : Ob} {v : Int32} (us1 : List (Nat × Ob)) (i : Nat) (hu : us[i]? = some (u, S)) (hk : kd u = 10) (hus : us.set i (u, sI S 41 v) = us1) (d : decode cc pc = .ok (.putfield 435, 3)) (kk : V cc RX11 fr lo nL G Γ us1 (pc + 3) L st) : V cc RX11 fr lo nL G Γ us pc L (.int v :: .ref (wA G u 0) :: st) :=
  V_put (T := TX11) (ty := .int) tyX11 41 i (Or.inl wf_RX11_435) inX11 tyX11_ok nmX11 rfl (by decide) rfl rfl (tyX11_ok 41 (by decide)) rfl rfl hu hk (by decide) rfl (Nat.le_of_ble_eq_true rfl) rfl hus d kk
theorem wf_RX11_438 : Cond.fieldLink RX11 438 RX11 "isWhole" "Z" ∈ gw := gw_at 1425 (by decide +kernel) rfl
theorem gf_RX11_438 {cc : ByteArray} {fr lo nL : Nat} {G : Wc} {Γ : Cx} {us : List (Nat × Ob)} {pc : Nat} {L : List (Nat × Value)} {st : List Value} {u : Nat} {S : Ob} (i : Nat) (hu : us[i]? = some (u, S)) (hk : kd u = 10) (d : decode cc pc = .ok (.getfield 438, 3)) (kk : V cc RX11 fr lo nL G Γ us (pc + 3) L (.int (oI S 44) :: st)) : V cc RX11 fr lo nL G Γ us pc L (.ref (wA G u 0) :: st) :=
  V_get (T := TX11) 44 i (Or.inl wf_RX11_438) inX11 rfl (by decide) rfl hu hk (by decide) rfl rfl d kk
theorem pf_RX11_438 {cc : ByteArray} {fr lo nL : Nat} {G : Wc} {Γ : Cx} {us : List (Nat × Ob)} {pc : Nat} {L : List (Nat × Value)} {st : List Value} {u : Nat} {S : Ob} {v : Int32} (us1 : List (Nat × Ob)) (i : Nat) (hu : us[i]? = some (u, S)) (hk : kd u = 10) (hz : z01 v = true) (hus : us.set i (u, sI S 44 v) = us1) (d : decode cc pc = .ok (.putfield 438, 3)) (kk : V cc RX11 fr lo nL G Γ us1 (pc + 3) L st) : V cc RX11 fr lo nL G Γ us pc L (.int v :: .ref (wA G u 0) :: st) :=
  V_put (T := TX11) (ty := .boolean) tyX11 44 i (Or.inl wf_RX11_438) inX11 tyX11_ok nmX11 rfl (by decide) rfl rfl (tyX11_ok 44 (by decide)) (z01_nar hz) (z01_fit hz) hu hk (by decide) rfl (Nat.le_of_ble_eq_true rfl) rfl hus d kk
theorem al_X0_0 {cc : ByteArray} {own : String} {fr lo nL : Nat} {G : Wc} {Γ : Cx} {us : List (Nat × Ob)} {pc : Nat} {L : List (Nat × Value)} {st : List Value} {u : Nat} {S : Ob} {i : Int32} (j x : Nat) (hu : us[x]? = some (u, S)) (hk : kd u = 0) (hj : i.toNatClampNeg = j) (hin : inB i 40 = true) (d : decode cc pc = .ok (.aaload, 1)) (kk : V cc own fr lo nL G Γ us (pc + 1) L (va_re (wE G) (oX S 0 j) :: st)) : V cc own fr lo nL G Γ us pc L (.int i :: .ref (wA G u 1) :: st) := by
  subst hj
  exact V_wald x 1 hu hk (by decide) rfl hin d kk
theorem as_X0_0 {cc : ByteArray} {own : String} {fr lo nL : Nat} {G : Wc} {Γ : Cx} {us : List (Nat × Ob)} {pc : Nat} {L : List (Nat × Value)} {st : List Value} {u : Nat} {S : Ob} {i : Int32} {v : Option Nat} (us1 : List (Nat × Ob)) (j x : Nat) (hu : us[x]? = some (u, S)) (hk : kd u = 0) (hj : i.toNatClampNeg = j) (hin : inB i 40 = true) (hz : wOk v = true) (hus : us.set x (u, sX S 0 (va_up (oX S 0) j v)) = us1) (d : decode cc pc = .ok (.aastore, 1)) (kk : V cc own fr lo nL G Γ us1 (pc + 1) L st) : V cc own fr lo nL G Γ us pc L (va_re (wE G) v :: .int i :: .ref (wA G u 1) :: st) := by
  subst hj
  exact V_wast x 1 hu hk (by decide) rfl hin hz rfl hus d kk
theorem al_X0_1 {cc : ByteArray} {own : String} {fr lo nL : Nat} {G : Wc} {Γ : Cx} {us : List (Nat × Ob)} {pc : Nat} {L : List (Nat × Value)} {st : List Value} {u : Nat} {S : Ob} {i : Int32} (j x : Nat) (hu : us[x]? = some (u, S)) (hk : kd u = 0) (hj : i.toNatClampNeg = j) (hin : inB i 40 = true) (d : decode cc pc = .ok (.iaload, 1)) (kk : V cc own fr lo nL G Γ us (pc + 1) L (.int (oA S 1 j) :: st)) : V cc own fr lo nL G Γ us pc L (.int i :: .ref (wA G u 2) :: st) := by
  subst hj
  exact V_iald x 2 hu hk (by decide) rfl hin d kk
theorem as_X0_1 {cc : ByteArray} {own : String} {fr lo nL : Nat} {G : Wc} {Γ : Cx} {us : List (Nat × Ob)} {pc : Nat} {L : List (Nat × Value)} {st : List Value} {u : Nat} {S : Ob} {i : Int32} {v : Int32} (us1 : List (Nat × Ob)) (j x : Nat) (hu : us[x]? = some (u, S)) (hk : kd u = 0) (hj : i.toNatClampNeg = j) (hin : inB i 40 = true) (hus : us.set x (u, sA S 1 (va_up (oA S 1) j v)) = us1) (d : decode cc pc = .ok (.iastore, 1)) (kk : V cc own fr lo nL G Γ us1 (pc + 1) L st) : V cc own fr lo nL G Γ us pc L (.int v :: .int i :: .ref (wA G u 2) :: st) := by
  subst hj
  exact V_iast x 2 hu hk (by decide) rfl hin rfl hus d kk
theorem al_X0_2 {cc : ByteArray} {own : String} {fr lo nL : Nat} {G : Wc} {Γ : Cx} {us : List (Nat × Ob)} {pc : Nat} {L : List (Nat × Value)} {st : List Value} {u : Nat} {S : Ob} {i : Int32} (j x : Nat) (hu : us[x]? = some (u, S)) (hk : kd u = 0) (hj : i.toNatClampNeg = j) (hin : inB i 40 = true) (d : decode cc pc = .ok (.iaload, 1)) (kk : V cc own fr lo nL G Γ us (pc + 1) L (.int (oA S 2 j) :: st)) : V cc own fr lo nL G Γ us pc L (.int i :: .ref (wA G u 3) :: st) := by
  subst hj
  exact V_iald x 3 hu hk (by decide) rfl hin d kk
theorem as_X0_2 {cc : ByteArray} {own : String} {fr lo nL : Nat} {G : Wc} {Γ : Cx} {us : List (Nat × Ob)} {pc : Nat} {L : List (Nat × Value)} {st : List Value} {u : Nat} {S : Ob} {i : Int32} {v : Int32} (us1 : List (Nat × Ob)) (j x : Nat) (hu : us[x]? = some (u, S)) (hk : kd u = 0) (hj : i.toNatClampNeg = j) (hin : inB i 40 = true) (hus : us.set x (u, sA S 2 (va_up (oA S 2) j v)) = us1) (d : decode cc pc = .ok (.iastore, 1)) (kk : V cc own fr lo nL G Γ us1 (pc + 1) L st) : V cc own fr lo nL G Γ us pc L (.int v :: .int i :: .ref (wA G u 3) :: st) := by
  subst hj
  exact V_iast x 3 hu hk (by decide) rfl hin rfl hus d kk
theorem al_X3_0 {cc : ByteArray} {own : String} {fr lo nL : Nat} {G : Wc} {Γ : Cx} {us : List (Nat × Ob)} {pc : Nat} {L : List (Nat × Value)} {st : List Value} {u : Nat} {S : Ob} {i : Int32} (j x : Nat) (hu : us[x]? = some (u, S)) (hk : kd u = 3) (hj : i.toNatClampNeg = j) (hin : inB i 1024 = true) (d : decode cc pc = .ok (.iaload, 1)) (kk : V cc own fr lo nL G Γ us (pc + 1) L (.int (oA S 0 j) :: st)) : V cc own fr lo nL G Γ us pc L (.int i :: .ref (wA G u 1) :: st) := by
  subst hj
  exact V_iald x 1 hu hk (by decide) rfl hin d kk
theorem as_X3_0 {cc : ByteArray} {own : String} {fr lo nL : Nat} {G : Wc} {Γ : Cx} {us : List (Nat × Ob)} {pc : Nat} {L : List (Nat × Value)} {st : List Value} {u : Nat} {S : Ob} {i : Int32} {v : Int32} (us1 : List (Nat × Ob)) (j x : Nat) (hu : us[x]? = some (u, S)) (hk : kd u = 3) (hj : i.toNatClampNeg = j) (hin : inB i 1024 = true) (hus : us.set x (u, sA S 0 (va_up (oA S 0) j v)) = us1) (d : decode cc pc = .ok (.iastore, 1)) (kk : V cc own fr lo nL G Γ us1 (pc + 1) L st) : V cc own fr lo nL G Γ us pc L (.int v :: .int i :: .ref (wA G u 1) :: st) := by
  subst hj
  exact V_iast x 1 hu hk (by decide) rfl hin rfl hus d kk
theorem al_X3_1 {cc : ByteArray} {own : String} {fr lo nL : Nat} {G : Wc} {Γ : Cx} {us : List (Nat × Ob)} {pc : Nat} {L : List (Nat × Value)} {st : List Value} {u : Nat} {S : Ob} {i : Int32} (j x : Nat) (hu : us[x]? = some (u, S)) (hk : kd u = 3) (hj : i.toNatClampNeg = j) (hin : inB i 10 = true) (d : decode cc pc = .ok (.iaload, 1)) (kk : V cc own fr lo nL G Γ us (pc + 1) L (.int (oA S 1 j) :: st)) : V cc own fr lo nL G Γ us pc L (.int i :: .ref (wA G u 2) :: st) := by
  subst hj
  exact V_iald x 2 hu hk (by decide) rfl hin d kk
theorem as_X3_1 {cc : ByteArray} {own : String} {fr lo nL : Nat} {G : Wc} {Γ : Cx} {us : List (Nat × Ob)} {pc : Nat} {L : List (Nat × Value)} {st : List Value} {u : Nat} {S : Ob} {i : Int32} {v : Int32} (us1 : List (Nat × Ob)) (j x : Nat) (hu : us[x]? = some (u, S)) (hk : kd u = 3) (hj : i.toNatClampNeg = j) (hin : inB i 10 = true) (hus : us.set x (u, sA S 1 (va_up (oA S 1) j v)) = us1) (d : decode cc pc = .ok (.iastore, 1)) (kk : V cc own fr lo nL G Γ us1 (pc + 1) L st) : V cc own fr lo nL G Γ us pc L (.int v :: .int i :: .ref (wA G u 2) :: st) := by
  subst hj
  exact V_iast x 2 hu hk (by decide) rfl hin rfl hus d kk
theorem al_X3_5 {cc : ByteArray} {own : String} {fr lo nL : Nat} {G : Wc} {Γ : Cx} {us : List (Nat × Ob)} {pc : Nat} {L : List (Nat × Value)} {st : List Value} {u : Nat} {S : Ob} {i : Int32} (j x : Nat) (hu : us[x]? = some (u, S)) (hk : kd u = 3) (hj : i.toNatClampNeg = j) (hin : inB i 4 = true) (d : decode cc pc = .ok (.iaload, 1)) (kk : V cc own fr lo nL G Γ us (pc + 1) L (.int (oA S 5 j) :: st)) : V cc own fr lo nL G Γ us pc L (.int i :: .ref (wA G u 6) :: st) := by
  subst hj
  exact V_iald x 3 hu hk (by decide) rfl hin d kk
theorem as_X3_5 {cc : ByteArray} {own : String} {fr lo nL : Nat} {G : Wc} {Γ : Cx} {us : List (Nat × Ob)} {pc : Nat} {L : List (Nat × Value)} {st : List Value} {u : Nat} {S : Ob} {i : Int32} {v : Int32} (us1 : List (Nat × Ob)) (j x : Nat) (hu : us[x]? = some (u, S)) (hk : kd u = 3) (hj : i.toNatClampNeg = j) (hin : inB i 4 = true) (hus : us.set x (u, sA S 5 (va_up (oA S 5) j v)) = us1) (d : decode cc pc = .ok (.iastore, 1)) (kk : V cc own fr lo nL G Γ us1 (pc + 1) L st) : V cc own fr lo nL G Γ us pc L (.int v :: .int i :: .ref (wA G u 6) :: st) := by
  subst hj
  exact V_iast x 3 hu hk (by decide) rfl hin rfl hus d kk
theorem al_X3_6 {cc : ByteArray} {own : String} {fr lo nL : Nat} {G : Wc} {Γ : Cx} {us : List (Nat × Ob)} {pc : Nat} {L : List (Nat × Value)} {st : List Value} {u : Nat} {S : Ob} {i : Int32} (j x : Nat) (hu : us[x]? = some (u, S)) (hk : kd u = 3) (hj : i.toNatClampNeg = j) (hin : inB i 6 = true) (d : decode cc pc = .ok (.iaload, 1)) (kk : V cc own fr lo nL G Γ us (pc + 1) L (.int (oA S 6 j) :: st)) : V cc own fr lo nL G Γ us pc L (.int i :: .ref (wA G u 7) :: st) := by
  subst hj
  exact V_iald x 4 hu hk (by decide) rfl hin d kk
theorem as_X3_6 {cc : ByteArray} {own : String} {fr lo nL : Nat} {G : Wc} {Γ : Cx} {us : List (Nat × Ob)} {pc : Nat} {L : List (Nat × Value)} {st : List Value} {u : Nat} {S : Ob} {i : Int32} {v : Int32} (us1 : List (Nat × Ob)) (j x : Nat) (hu : us[x]? = some (u, S)) (hk : kd u = 3) (hj : i.toNatClampNeg = j) (hin : inB i 6 = true) (hus : us.set x (u, sA S 6 (va_up (oA S 6) j v)) = us1) (d : decode cc pc = .ok (.iastore, 1)) (kk : V cc own fr lo nL G Γ us1 (pc + 1) L st) : V cc own fr lo nL G Γ us pc L (.int v :: .int i :: .ref (wA G u 7) :: st) := by
  subst hj
  exact V_iast x 4 hu hk (by decide) rfl hin rfl hus d kk
theorem al_X4_1 {cc : ByteArray} {own : String} {fr lo nL : Nat} {G : Wc} {Γ : Cx} {us : List (Nat × Ob)} {pc : Nat} {L : List (Nat × Value)} {st : List Value} {u : Nat} {S : Ob} {i : Int32} (j x : Nat) (hu : us[x]? = some (u, S)) (hk : kd u = 4) (hj : i.toNatClampNeg = j) (hin : inB i 8 = true) (d : decode cc pc = .ok (.laload, 1)) (kk : V cc own fr lo nL G Γ us (pc + 1) L (.long (oJ S 1 j) :: st)) : V cc own fr lo nL G Γ us pc L (.int i :: .ref (wA G u 2) :: st) := by
  subst hj
  exact V_lald x 1 hu hk (by decide) rfl hin d kk
theorem as_X4_1 {cc : ByteArray} {own : String} {fr lo nL : Nat} {G : Wc} {Γ : Cx} {us : List (Nat × Ob)} {pc : Nat} {L : List (Nat × Value)} {st : List Value} {u : Nat} {S : Ob} {i : Int32} {v : Int64} (us1 : List (Nat × Ob)) (j x : Nat) (hu : us[x]? = some (u, S)) (hk : kd u = 4) (hj : i.toNatClampNeg = j) (hin : inB i 8 = true) (hus : us.set x (u, sJ S 1 (va_up (oJ S 1) j v)) = us1) (d : decode cc pc = .ok (.lastore, 1)) (kk : V cc own fr lo nL G Γ us1 (pc + 1) L st) : V cc own fr lo nL G Γ us pc L (.long v :: .int i :: .ref (wA G u 2) :: st) := by
  subst hj
  exact V_last x 1 hu hk (by decide) rfl hin rfl hus d kk
theorem al_X4_2 {cc : ByteArray} {own : String} {fr lo nL : Nat} {G : Wc} {Γ : Cx} {us : List (Nat × Ob)} {pc : Nat} {L : List (Nat × Value)} {st : List Value} {u : Nat} {S : Ob} {i : Int32} (j x : Nat) (hu : us[x]? = some (u, S)) (hk : kd u = 4) (hj : i.toNatClampNeg = j) (hin : inB i 8 = true) (d : decode cc pc = .ok (.iaload, 1)) (kk : V cc own fr lo nL G Γ us (pc + 1) L (.int (oA S 2 j) :: st)) : V cc own fr lo nL G Γ us pc L (.int i :: .ref (wA G u 3) :: st) := by
  subst hj
  exact V_iald x 2 hu hk (by decide) rfl hin d kk
theorem as_X4_2 {cc : ByteArray} {own : String} {fr lo nL : Nat} {G : Wc} {Γ : Cx} {us : List (Nat × Ob)} {pc : Nat} {L : List (Nat × Value)} {st : List Value} {u : Nat} {S : Ob} {i : Int32} {v : Int32} (us1 : List (Nat × Ob)) (j x : Nat) (hu : us[x]? = some (u, S)) (hk : kd u = 4) (hj : i.toNatClampNeg = j) (hin : inB i 8 = true) (hus : us.set x (u, sA S 2 (va_up (oA S 2) j v)) = us1) (d : decode cc pc = .ok (.iastore, 1)) (kk : V cc own fr lo nL G Γ us1 (pc + 1) L st) : V cc own fr lo nL G Γ us pc L (.int v :: .int i :: .ref (wA G u 3) :: st) := by
  subst hj
  exact V_iast x 2 hu hk (by decide) rfl hin rfl hus d kk
theorem al_X4_3 {cc : ByteArray} {own : String} {fr lo nL : Nat} {G : Wc} {Γ : Cx} {us : List (Nat × Ob)} {pc : Nat} {L : List (Nat × Value)} {st : List Value} {u : Nat} {S : Ob} {i : Int32} (j x : Nat) (hu : us[x]? = some (u, S)) (hk : kd u = 4) (hj : i.toNatClampNeg = j) (hin : inB i 8 = true) (d : decode cc pc = .ok (.iaload, 1)) (kk : V cc own fr lo nL G Γ us (pc + 1) L (.int (oA S 3 j) :: st)) : V cc own fr lo nL G Γ us pc L (.int i :: .ref (wA G u 4) :: st) := by
  subst hj
  exact V_iald x 3 hu hk (by decide) rfl hin d kk
theorem as_X4_3 {cc : ByteArray} {own : String} {fr lo nL : Nat} {G : Wc} {Γ : Cx} {us : List (Nat × Ob)} {pc : Nat} {L : List (Nat × Value)} {st : List Value} {u : Nat} {S : Ob} {i : Int32} {v : Int32} (us1 : List (Nat × Ob)) (j x : Nat) (hu : us[x]? = some (u, S)) (hk : kd u = 4) (hj : i.toNatClampNeg = j) (hin : inB i 8 = true) (hus : us.set x (u, sA S 3 (va_up (oA S 3) j v)) = us1) (d : decode cc pc = .ok (.iastore, 1)) (kk : V cc own fr lo nL G Γ us1 (pc + 1) L st) : V cc own fr lo nL G Γ us pc L (.int v :: .int i :: .ref (wA G u 4) :: st) := by
  subst hj
  exact V_iast x 3 hu hk (by decide) rfl hin rfl hus d kk
theorem al_X4_5 {cc : ByteArray} {own : String} {fr lo nL : Nat} {G : Wc} {Γ : Cx} {us : List (Nat × Ob)} {pc : Nat} {L : List (Nat × Value)} {st : List Value} {u : Nat} {S : Ob} {i : Int32} (j x : Nat) (hu : us[x]? = some (u, S)) (hk : kd u = 4) (hj : i.toNatClampNeg = j) (hin : inB i 6 = true) (d : decode cc pc = .ok (.laload, 1)) (kk : V cc own fr lo nL G Γ us (pc + 1) L (.long (oJ S 5 j) :: st)) : V cc own fr lo nL G Γ us pc L (.int i :: .ref (wA G u 6) :: st) := by
  subst hj
  exact V_lald x 4 hu hk (by decide) rfl hin d kk
theorem as_X4_5 {cc : ByteArray} {own : String} {fr lo nL : Nat} {G : Wc} {Γ : Cx} {us : List (Nat × Ob)} {pc : Nat} {L : List (Nat × Value)} {st : List Value} {u : Nat} {S : Ob} {i : Int32} {v : Int64} (us1 : List (Nat × Ob)) (j x : Nat) (hu : us[x]? = some (u, S)) (hk : kd u = 4) (hj : i.toNatClampNeg = j) (hin : inB i 6 = true) (hus : us.set x (u, sJ S 5 (va_up (oJ S 5) j v)) = us1) (d : decode cc pc = .ok (.lastore, 1)) (kk : V cc own fr lo nL G Γ us1 (pc + 1) L st) : V cc own fr lo nL G Γ us pc L (.long v :: .int i :: .ref (wA G u 6) :: st) := by
  subst hj
  exact V_last x 4 hu hk (by decide) rfl hin rfl hus d kk
theorem al_X4_6 {cc : ByteArray} {own : String} {fr lo nL : Nat} {G : Wc} {Γ : Cx} {us : List (Nat × Ob)} {pc : Nat} {L : List (Nat × Value)} {st : List Value} {u : Nat} {S : Ob} {i : Int32} (j x : Nat) (hu : us[x]? = some (u, S)) (hk : kd u = 4) (hj : i.toNatClampNeg = j) (hin : inB i 6 = true) (d : decode cc pc = .ok (.iaload, 1)) (kk : V cc own fr lo nL G Γ us (pc + 1) L (.int (oA S 6 j) :: st)) : V cc own fr lo nL G Γ us pc L (.int i :: .ref (wA G u 7) :: st) := by
  subst hj
  exact V_iald x 5 hu hk (by decide) rfl hin d kk
theorem as_X4_6 {cc : ByteArray} {own : String} {fr lo nL : Nat} {G : Wc} {Γ : Cx} {us : List (Nat × Ob)} {pc : Nat} {L : List (Nat × Value)} {st : List Value} {u : Nat} {S : Ob} {i : Int32} {v : Int32} (us1 : List (Nat × Ob)) (j x : Nat) (hu : us[x]? = some (u, S)) (hk : kd u = 4) (hj : i.toNatClampNeg = j) (hin : inB i 6 = true) (hus : us.set x (u, sA S 6 (va_up (oA S 6) j v)) = us1) (d : decode cc pc = .ok (.iastore, 1)) (kk : V cc own fr lo nL G Γ us1 (pc + 1) L st) : V cc own fr lo nL G Γ us pc L (.int v :: .int i :: .ref (wA G u 7) :: st) := by
  subst hj
  exact V_iast x 5 hu hk (by decide) rfl hin rfl hus d kk
theorem al_X4_8 {cc : ByteArray} {own : String} {fr lo nL : Nat} {G : Wc} {Γ : Cx} {us : List (Nat × Ob)} {pc : Nat} {L : List (Nat × Value)} {st : List Value} {u : Nat} {S : Ob} {i : Int32} (j x : Nat) (hu : us[x]? = some (u, S)) (hk : kd u = 4) (hj : i.toNatClampNeg = j) (hin : inB i 12 = true) (d : decode cc pc = .ok (.iaload, 1)) (kk : V cc own fr lo nL G Γ us (pc + 1) L (.int (oA S 8 j) :: st)) : V cc own fr lo nL G Γ us pc L (.int i :: .ref (wA G u 9) :: st) := by
  subst hj
  exact V_iald x 6 hu hk (by decide) rfl hin d kk
theorem as_X4_8 {cc : ByteArray} {own : String} {fr lo nL : Nat} {G : Wc} {Γ : Cx} {us : List (Nat × Ob)} {pc : Nat} {L : List (Nat × Value)} {st : List Value} {u : Nat} {S : Ob} {i : Int32} {v : Int32} (us1 : List (Nat × Ob)) (j x : Nat) (hu : us[x]? = some (u, S)) (hk : kd u = 4) (hj : i.toNatClampNeg = j) (hin : inB i 12 = true) (hus : us.set x (u, sA S 8 (va_up (oA S 8) j v)) = us1) (d : decode cc pc = .ok (.iastore, 1)) (kk : V cc own fr lo nL G Γ us1 (pc + 1) L st) : V cc own fr lo nL G Γ us pc L (.int v :: .int i :: .ref (wA G u 9) :: st) := by
  subst hj
  exact V_iast x 6 hu hk (by decide) rfl hin rfl hus d kk
theorem al_X4_9 {cc : ByteArray} {own : String} {fr lo nL : Nat} {G : Wc} {Γ : Cx} {us : List (Nat × Ob)} {pc : Nat} {L : List (Nat × Value)} {st : List Value} {u : Nat} {S : Ob} {i : Int32} (j x : Nat) (hu : us[x]? = some (u, S)) (hk : kd u = 4) (hj : i.toNatClampNeg = j) (hin : inB i 12 = true) (d : decode cc pc = .ok (.iaload, 1)) (kk : V cc own fr lo nL G Γ us (pc + 1) L (.int (oA S 9 j) :: st)) : V cc own fr lo nL G Γ us pc L (.int i :: .ref (wA G u 10) :: st) := by
  subst hj
  exact V_iald x 7 hu hk (by decide) rfl hin d kk
theorem as_X4_9 {cc : ByteArray} {own : String} {fr lo nL : Nat} {G : Wc} {Γ : Cx} {us : List (Nat × Ob)} {pc : Nat} {L : List (Nat × Value)} {st : List Value} {u : Nat} {S : Ob} {i : Int32} {v : Int32} (us1 : List (Nat × Ob)) (j x : Nat) (hu : us[x]? = some (u, S)) (hk : kd u = 4) (hj : i.toNatClampNeg = j) (hin : inB i 12 = true) (hus : us.set x (u, sA S 9 (va_up (oA S 9) j v)) = us1) (d : decode cc pc = .ok (.iastore, 1)) (kk : V cc own fr lo nL G Γ us1 (pc + 1) L st) : V cc own fr lo nL G Γ us pc L (.int v :: .int i :: .ref (wA G u 10) :: st) := by
  subst hj
  exact V_iast x 7 hu hk (by decide) rfl hin rfl hus d kk
theorem al_X4_10 {cc : ByteArray} {own : String} {fr lo nL : Nat} {G : Wc} {Γ : Cx} {us : List (Nat × Ob)} {pc : Nat} {L : List (Nat × Value)} {st : List Value} {u : Nat} {S : Ob} {i : Int32} (j x : Nat) (hu : us[x]? = some (u, S)) (hk : kd u = 4) (hj : i.toNatClampNeg = j) (hin : inB i 12 = true) (d : decode cc pc = .ok (.iaload, 1)) (kk : V cc own fr lo nL G Γ us (pc + 1) L (.int (oA S 10 j) :: st)) : V cc own fr lo nL G Γ us pc L (.int i :: .ref (wA G u 11) :: st) := by
  subst hj
  exact V_iald x 8 hu hk (by decide) rfl hin d kk
theorem as_X4_10 {cc : ByteArray} {own : String} {fr lo nL : Nat} {G : Wc} {Γ : Cx} {us : List (Nat × Ob)} {pc : Nat} {L : List (Nat × Value)} {st : List Value} {u : Nat} {S : Ob} {i : Int32} {v : Int32} (us1 : List (Nat × Ob)) (j x : Nat) (hu : us[x]? = some (u, S)) (hk : kd u = 4) (hj : i.toNatClampNeg = j) (hin : inB i 12 = true) (hus : us.set x (u, sA S 10 (va_up (oA S 10) j v)) = us1) (d : decode cc pc = .ok (.iastore, 1)) (kk : V cc own fr lo nL G Γ us1 (pc + 1) L st) : V cc own fr lo nL G Γ us pc L (.int v :: .int i :: .ref (wA G u 11) :: st) := by
  subst hj
  exact V_iast x 8 hu hk (by decide) rfl hin rfl hus d kk
theorem al_X4_12 {cc : ByteArray} {own : String} {fr lo nL : Nat} {G : Wc} {Γ : Cx} {us : List (Nat × Ob)} {pc : Nat} {L : List (Nat × Value)} {st : List Value} {u : Nat} {S : Ob} {i : Int32} (j x : Nat) (hu : us[x]? = some (u, S)) (hk : kd u = 4) (hj : i.toNatClampNeg = j) (hin : inB i 4 = true) (d : decode cc pc = .ok (.laload, 1)) (kk : V cc own fr lo nL G Γ us (pc + 1) L (.long (oJ S 12 j) :: st)) : V cc own fr lo nL G Γ us pc L (.int i :: .ref (wA G u 13) :: st) := by
  subst hj
  exact V_lald x 9 hu hk (by decide) rfl hin d kk
theorem as_X4_12 {cc : ByteArray} {own : String} {fr lo nL : Nat} {G : Wc} {Γ : Cx} {us : List (Nat × Ob)} {pc : Nat} {L : List (Nat × Value)} {st : List Value} {u : Nat} {S : Ob} {i : Int32} {v : Int64} (us1 : List (Nat × Ob)) (j x : Nat) (hu : us[x]? = some (u, S)) (hk : kd u = 4) (hj : i.toNatClampNeg = j) (hin : inB i 4 = true) (hus : us.set x (u, sJ S 12 (va_up (oJ S 12) j v)) = us1) (d : decode cc pc = .ok (.lastore, 1)) (kk : V cc own fr lo nL G Γ us1 (pc + 1) L st) : V cc own fr lo nL G Γ us pc L (.long v :: .int i :: .ref (wA G u 13) :: st) := by
  subst hj
  exact V_last x 9 hu hk (by decide) rfl hin rfl hus d kk
theorem al_X4_13 {cc : ByteArray} {own : String} {fr lo nL : Nat} {G : Wc} {Γ : Cx} {us : List (Nat × Ob)} {pc : Nat} {L : List (Nat × Value)} {st : List Value} {u : Nat} {S : Ob} {i : Int32} (j x : Nat) (hu : us[x]? = some (u, S)) (hk : kd u = 4) (hj : i.toNatClampNeg = j) (hin : inB i 4 = true) (d : decode cc pc = .ok (.iaload, 1)) (kk : V cc own fr lo nL G Γ us (pc + 1) L (.int (oA S 13 j) :: st)) : V cc own fr lo nL G Γ us pc L (.int i :: .ref (wA G u 14) :: st) := by
  subst hj
  exact V_iald x 10 hu hk (by decide) rfl hin d kk
theorem as_X4_13 {cc : ByteArray} {own : String} {fr lo nL : Nat} {G : Wc} {Γ : Cx} {us : List (Nat × Ob)} {pc : Nat} {L : List (Nat × Value)} {st : List Value} {u : Nat} {S : Ob} {i : Int32} {v : Int32} (us1 : List (Nat × Ob)) (j x : Nat) (hu : us[x]? = some (u, S)) (hk : kd u = 4) (hj : i.toNatClampNeg = j) (hin : inB i 4 = true) (hus : us.set x (u, sA S 13 (va_up (oA S 13) j v)) = us1) (d : decode cc pc = .ok (.iastore, 1)) (kk : V cc own fr lo nL G Γ us1 (pc + 1) L st) : V cc own fr lo nL G Γ us pc L (.int v :: .int i :: .ref (wA G u 14) :: st) := by
  subst hj
  exact V_iast x 10 hu hk (by decide) rfl hin rfl hus d kk
theorem al_X5_0 {cc : ByteArray} {own : String} {fr lo nL : Nat} {G : Wc} {Γ : Cx} {us : List (Nat × Ob)} {pc : Nat} {L : List (Nat × Value)} {st : List Value} {u : Nat} {S : Ob} {i : Int32} (j x : Nat) (hu : us[x]? = some (u, S)) (hk : kd u = 5) (hj : i.toNatClampNeg = j) (hin : inB i 40 = true) (d : decode cc pc = .ok (.aaload, 1)) (kk : V cc own fr lo nL G Γ us (pc + 1) L (va_re (wE G) (oX S 0 j) :: st)) : V cc own fr lo nL G Γ us pc L (.int i :: .ref (wA G u 1) :: st) := by
  subst hj
  exact V_wald x 1 hu hk (by decide) rfl hin d kk
theorem as_X5_0 {cc : ByteArray} {own : String} {fr lo nL : Nat} {G : Wc} {Γ : Cx} {us : List (Nat × Ob)} {pc : Nat} {L : List (Nat × Value)} {st : List Value} {u : Nat} {S : Ob} {i : Int32} {v : Option Nat} (us1 : List (Nat × Ob)) (j x : Nat) (hu : us[x]? = some (u, S)) (hk : kd u = 5) (hj : i.toNatClampNeg = j) (hin : inB i 40 = true) (hz : wOk v = true) (hus : us.set x (u, sX S 0 (va_up (oX S 0) j v)) = us1) (d : decode cc pc = .ok (.aastore, 1)) (kk : V cc own fr lo nL G Γ us1 (pc + 1) L st) : V cc own fr lo nL G Γ us pc L (va_re (wE G) v :: .int i :: .ref (wA G u 1) :: st) := by
  subst hj
  exact V_wast x 1 hu hk (by decide) rfl hin hz rfl hus d kk
theorem al_X5_1 {cc : ByteArray} {own : String} {fr lo nL : Nat} {G : Wc} {Γ : Cx} {us : List (Nat × Ob)} {pc : Nat} {L : List (Nat × Value)} {st : List Value} {u : Nat} {S : Ob} {i : Int32} (j x : Nat) (hu : us[x]? = some (u, S)) (hk : kd u = 5) (hj : i.toNatClampNeg = j) (hin : inB i 40 = true) (d : decode cc pc = .ok (.iaload, 1)) (kk : V cc own fr lo nL G Γ us (pc + 1) L (.int (oA S 1 j) :: st)) : V cc own fr lo nL G Γ us pc L (.int i :: .ref (wA G u 2) :: st) := by
  subst hj
  exact V_iald x 2 hu hk (by decide) rfl hin d kk
theorem as_X5_1 {cc : ByteArray} {own : String} {fr lo nL : Nat} {G : Wc} {Γ : Cx} {us : List (Nat × Ob)} {pc : Nat} {L : List (Nat × Value)} {st : List Value} {u : Nat} {S : Ob} {i : Int32} {v : Int32} (us1 : List (Nat × Ob)) (j x : Nat) (hu : us[x]? = some (u, S)) (hk : kd u = 5) (hj : i.toNatClampNeg = j) (hin : inB i 40 = true) (hus : us.set x (u, sA S 1 (va_up (oA S 1) j v)) = us1) (d : decode cc pc = .ok (.iastore, 1)) (kk : V cc own fr lo nL G Γ us1 (pc + 1) L st) : V cc own fr lo nL G Γ us pc L (.int v :: .int i :: .ref (wA G u 2) :: st) := by
  subst hj
  exact V_iast x 2 hu hk (by decide) rfl hin rfl hus d kk
theorem al_X5_2 {cc : ByteArray} {own : String} {fr lo nL : Nat} {G : Wc} {Γ : Cx} {us : List (Nat × Ob)} {pc : Nat} {L : List (Nat × Value)} {st : List Value} {u : Nat} {S : Ob} {i : Int32} (j x : Nat) (hu : us[x]? = some (u, S)) (hk : kd u = 5) (hj : i.toNatClampNeg = j) (hin : inB i 40 = true) (d : decode cc pc = .ok (.iaload, 1)) (kk : V cc own fr lo nL G Γ us (pc + 1) L (.int (oA S 2 j) :: st)) : V cc own fr lo nL G Γ us pc L (.int i :: .ref (wA G u 3) :: st) := by
  subst hj
  exact V_iald x 3 hu hk (by decide) rfl hin d kk
theorem as_X5_2 {cc : ByteArray} {own : String} {fr lo nL : Nat} {G : Wc} {Γ : Cx} {us : List (Nat × Ob)} {pc : Nat} {L : List (Nat × Value)} {st : List Value} {u : Nat} {S : Ob} {i : Int32} {v : Int32} (us1 : List (Nat × Ob)) (j x : Nat) (hu : us[x]? = some (u, S)) (hk : kd u = 5) (hj : i.toNatClampNeg = j) (hin : inB i 40 = true) (hus : us.set x (u, sA S 2 (va_up (oA S 2) j v)) = us1) (d : decode cc pc = .ok (.iastore, 1)) (kk : V cc own fr lo nL G Γ us1 (pc + 1) L st) : V cc own fr lo nL G Γ us pc L (.int v :: .int i :: .ref (wA G u 3) :: st) := by
  subst hj
  exact V_iast x 3 hu hk (by decide) rfl hin rfl hus d kk
theorem al_X6_0 {cc : ByteArray} {own : String} {fr lo nL : Nat} {G : Wc} {Γ : Cx} {us : List (Nat × Ob)} {pc : Nat} {L : List (Nat × Value)} {st : List Value} {u : Nat} {S : Ob} {i : Int32} (j x : Nat) (hu : us[x]? = some (u, S)) (hk : kd u = 6) (hj : i.toNatClampNeg = j) (hin : inB i 48 = true) (d : decode cc pc = .ok (.iaload, 1)) (kk : V cc own fr lo nL G Γ us (pc + 1) L (.int (oA S 0 j) :: st)) : V cc own fr lo nL G Γ us pc L (.int i :: .ref (wA G u 1) :: st) := by
  subst hj
  exact V_iald x 1 hu hk (by decide) rfl hin d kk
theorem as_X6_0 {cc : ByteArray} {own : String} {fr lo nL : Nat} {G : Wc} {Γ : Cx} {us : List (Nat × Ob)} {pc : Nat} {L : List (Nat × Value)} {st : List Value} {u : Nat} {S : Ob} {i : Int32} {v : Int32} (us1 : List (Nat × Ob)) (j x : Nat) (hu : us[x]? = some (u, S)) (hk : kd u = 6) (hj : i.toNatClampNeg = j) (hin : inB i 48 = true) (hus : us.set x (u, sA S 0 (va_up (oA S 0) j v)) = us1) (d : decode cc pc = .ok (.iastore, 1)) (kk : V cc own fr lo nL G Γ us1 (pc + 1) L st) : V cc own fr lo nL G Γ us pc L (.int v :: .int i :: .ref (wA G u 1) :: st) := by
  subst hj
  exact V_iast x 1 hu hk (by decide) rfl hin rfl hus d kk
theorem al_X6_1 {cc : ByteArray} {own : String} {fr lo nL : Nat} {G : Wc} {Γ : Cx} {us : List (Nat × Ob)} {pc : Nat} {L : List (Nat × Value)} {st : List Value} {u : Nat} {S : Ob} {i : Int32} (j x : Nat) (hu : us[x]? = some (u, S)) (hk : kd u = 6) (hj : i.toNatClampNeg = j) (hin : inB i 6 = true) (d : decode cc pc = .ok (.iaload, 1)) (kk : V cc own fr lo nL G Γ us (pc + 1) L (.int (oA S 1 j) :: st)) : V cc own fr lo nL G Γ us pc L (.int i :: .ref (wA G u 2) :: st) := by
  subst hj
  exact V_iald x 2 hu hk (by decide) rfl hin d kk
theorem as_X6_1 {cc : ByteArray} {own : String} {fr lo nL : Nat} {G : Wc} {Γ : Cx} {us : List (Nat × Ob)} {pc : Nat} {L : List (Nat × Value)} {st : List Value} {u : Nat} {S : Ob} {i : Int32} {v : Int32} (us1 : List (Nat × Ob)) (j x : Nat) (hu : us[x]? = some (u, S)) (hk : kd u = 6) (hj : i.toNatClampNeg = j) (hin : inB i 6 = true) (hus : us.set x (u, sA S 1 (va_up (oA S 1) j v)) = us1) (d : decode cc pc = .ok (.iastore, 1)) (kk : V cc own fr lo nL G Γ us1 (pc + 1) L st) : V cc own fr lo nL G Γ us pc L (.int v :: .int i :: .ref (wA G u 2) :: st) := by
  subst hj
  exact V_iast x 2 hu hk (by decide) rfl hin rfl hus d kk
theorem al_X6_2 {cc : ByteArray} {own : String} {fr lo nL : Nat} {G : Wc} {Γ : Cx} {us : List (Nat × Ob)} {pc : Nat} {L : List (Nat × Value)} {st : List Value} {u : Nat} {S : Ob} {i : Int32} (j x : Nat) (hu : us[x]? = some (u, S)) (hk : kd u = 6) (hj : i.toNatClampNeg = j) (hin : inB i 6 = true) (d : decode cc pc = .ok (.iaload, 1)) (kk : V cc own fr lo nL G Γ us (pc + 1) L (.int (oA S 2 j) :: st)) : V cc own fr lo nL G Γ us pc L (.int i :: .ref (wA G u 3) :: st) := by
  subst hj
  exact V_iald x 3 hu hk (by decide) rfl hin d kk
theorem as_X6_2 {cc : ByteArray} {own : String} {fr lo nL : Nat} {G : Wc} {Γ : Cx} {us : List (Nat × Ob)} {pc : Nat} {L : List (Nat × Value)} {st : List Value} {u : Nat} {S : Ob} {i : Int32} {v : Int32} (us1 : List (Nat × Ob)) (j x : Nat) (hu : us[x]? = some (u, S)) (hk : kd u = 6) (hj : i.toNatClampNeg = j) (hin : inB i 6 = true) (hus : us.set x (u, sA S 2 (va_up (oA S 2) j v)) = us1) (d : decode cc pc = .ok (.iastore, 1)) (kk : V cc own fr lo nL G Γ us1 (pc + 1) L st) : V cc own fr lo nL G Γ us pc L (.int v :: .int i :: .ref (wA G u 3) :: st) := by
  subst hj
  exact V_iast x 3 hu hk (by decide) rfl hin rfl hus d kk
theorem al_X6_3 {cc : ByteArray} {own : String} {fr lo nL : Nat} {G : Wc} {Γ : Cx} {us : List (Nat × Ob)} {pc : Nat} {L : List (Nat × Value)} {st : List Value} {u : Nat} {S : Ob} {i : Int32} (j x : Nat) (hu : us[x]? = some (u, S)) (hk : kd u = 6) (hj : i.toNatClampNeg = j) (hin : inB i 8 = true) (d : decode cc pc = .ok (.iaload, 1)) (kk : V cc own fr lo nL G Γ us (pc + 1) L (.int (oA S 3 j) :: st)) : V cc own fr lo nL G Γ us pc L (.int i :: .ref (wA G u 4) :: st) := by
  subst hj
  exact V_iald x 4 hu hk (by decide) rfl hin d kk
theorem as_X6_3 {cc : ByteArray} {own : String} {fr lo nL : Nat} {G : Wc} {Γ : Cx} {us : List (Nat × Ob)} {pc : Nat} {L : List (Nat × Value)} {st : List Value} {u : Nat} {S : Ob} {i : Int32} {v : Int32} (us1 : List (Nat × Ob)) (j x : Nat) (hu : us[x]? = some (u, S)) (hk : kd u = 6) (hj : i.toNatClampNeg = j) (hin : inB i 8 = true) (hus : us.set x (u, sA S 3 (va_up (oA S 3) j v)) = us1) (d : decode cc pc = .ok (.iastore, 1)) (kk : V cc own fr lo nL G Γ us1 (pc + 1) L st) : V cc own fr lo nL G Γ us pc L (.int v :: .int i :: .ref (wA G u 4) :: st) := by
  subst hj
  exact V_iast x 4 hu hk (by decide) rfl hin rfl hus d kk
theorem al_X6_4 {cc : ByteArray} {own : String} {fr lo nL : Nat} {G : Wc} {Γ : Cx} {us : List (Nat × Ob)} {pc : Nat} {L : List (Nat × Value)} {st : List Value} {u : Nat} {S : Ob} {i : Int32} (j x : Nat) (hu : us[x]? = some (u, S)) (hk : kd u = 6) (hj : i.toNatClampNeg = j) (hin : inB i 8 = true) (d : decode cc pc = .ok (.iaload, 1)) (kk : V cc own fr lo nL G Γ us (pc + 1) L (.int (oA S 4 j) :: st)) : V cc own fr lo nL G Γ us pc L (.int i :: .ref (wA G u 5) :: st) := by
  subst hj
  exact V_iald x 5 hu hk (by decide) rfl hin d kk
theorem as_X6_4 {cc : ByteArray} {own : String} {fr lo nL : Nat} {G : Wc} {Γ : Cx} {us : List (Nat × Ob)} {pc : Nat} {L : List (Nat × Value)} {st : List Value} {u : Nat} {S : Ob} {i : Int32} {v : Int32} (us1 : List (Nat × Ob)) (j x : Nat) (hu : us[x]? = some (u, S)) (hk : kd u = 6) (hj : i.toNatClampNeg = j) (hin : inB i 8 = true) (hus : us.set x (u, sA S 4 (va_up (oA S 4) j v)) = us1) (d : decode cc pc = .ok (.iastore, 1)) (kk : V cc own fr lo nL G Γ us1 (pc + 1) L st) : V cc own fr lo nL G Γ us pc L (.int v :: .int i :: .ref (wA G u 5) :: st) := by
  subst hj
  exact V_iast x 5 hu hk (by decide) rfl hin rfl hus d kk
theorem al_X6_5 {cc : ByteArray} {own : String} {fr lo nL : Nat} {G : Wc} {Γ : Cx} {us : List (Nat × Ob)} {pc : Nat} {L : List (Nat × Value)} {st : List Value} {u : Nat} {S : Ob} {i : Int32} (j x : Nat) (hu : us[x]? = some (u, S)) (hk : kd u = 6) (hj : i.toNatClampNeg = j) (hin : inB i 4 = true) (d : decode cc pc = .ok (.iaload, 1)) (kk : V cc own fr lo nL G Γ us (pc + 1) L (.int (oA S 5 j) :: st)) : V cc own fr lo nL G Γ us pc L (.int i :: .ref (wA G u 6) :: st) := by
  subst hj
  exact V_iald x 6 hu hk (by decide) rfl hin d kk
theorem as_X6_5 {cc : ByteArray} {own : String} {fr lo nL : Nat} {G : Wc} {Γ : Cx} {us : List (Nat × Ob)} {pc : Nat} {L : List (Nat × Value)} {st : List Value} {u : Nat} {S : Ob} {i : Int32} {v : Int32} (us1 : List (Nat × Ob)) (j x : Nat) (hu : us[x]? = some (u, S)) (hk : kd u = 6) (hj : i.toNatClampNeg = j) (hin : inB i 4 = true) (hus : us.set x (u, sA S 5 (va_up (oA S 5) j v)) = us1) (d : decode cc pc = .ok (.iastore, 1)) (kk : V cc own fr lo nL G Γ us1 (pc + 1) L st) : V cc own fr lo nL G Γ us pc L (.int v :: .int i :: .ref (wA G u 6) :: st) := by
  subst hj
  exact V_iast x 6 hu hk (by decide) rfl hin rfl hus d kk
theorem al_X6_6 {cc : ByteArray} {own : String} {fr lo nL : Nat} {G : Wc} {Γ : Cx} {us : List (Nat × Ob)} {pc : Nat} {L : List (Nat × Value)} {st : List Value} {u : Nat} {S : Ob} {i : Int32} (j x : Nat) (hu : us[x]? = some (u, S)) (hk : kd u = 6) (hj : i.toNatClampNeg = j) (hin : inB i 4 = true) (d : decode cc pc = .ok (.iaload, 1)) (kk : V cc own fr lo nL G Γ us (pc + 1) L (.int (oA S 6 j) :: st)) : V cc own fr lo nL G Γ us pc L (.int i :: .ref (wA G u 7) :: st) := by
  subst hj
  exact V_iald x 7 hu hk (by decide) rfl hin d kk
theorem as_X6_6 {cc : ByteArray} {own : String} {fr lo nL : Nat} {G : Wc} {Γ : Cx} {us : List (Nat × Ob)} {pc : Nat} {L : List (Nat × Value)} {st : List Value} {u : Nat} {S : Ob} {i : Int32} {v : Int32} (us1 : List (Nat × Ob)) (j x : Nat) (hu : us[x]? = some (u, S)) (hk : kd u = 6) (hj : i.toNatClampNeg = j) (hin : inB i 4 = true) (hus : us.set x (u, sA S 6 (va_up (oA S 6) j v)) = us1) (d : decode cc pc = .ok (.iastore, 1)) (kk : V cc own fr lo nL G Γ us1 (pc + 1) L st) : V cc own fr lo nL G Γ us pc L (.int v :: .int i :: .ref (wA G u 7) :: st) := by
  subst hj
  exact V_iast x 7 hu hk (by decide) rfl hin rfl hus d kk
theorem al_X7_0 {cc : ByteArray} {own : String} {fr lo nL : Nat} {G : Wc} {Γ : Cx} {us : List (Nat × Ob)} {pc : Nat} {L : List (Nat × Value)} {st : List Value} {u : Nat} {S : Ob} {i : Int32} (j x : Nat) (hu : us[x]? = some (u, S)) (hk : kd u = 7) (hj : i.toNatClampNeg = j) (hin : inB i 79 = true) (d : decode cc pc = .ok (.iaload, 1)) (kk : V cc own fr lo nL G Γ us (pc + 1) L (.int (oA S 0 j) :: st)) : V cc own fr lo nL G Γ us pc L (.int i :: .ref (wA G u 1) :: st) := by
  subst hj
  exact V_iald x 1 hu hk (by decide) rfl hin d kk
theorem as_X7_0 {cc : ByteArray} {own : String} {fr lo nL : Nat} {G : Wc} {Γ : Cx} {us : List (Nat × Ob)} {pc : Nat} {L : List (Nat × Value)} {st : List Value} {u : Nat} {S : Ob} {i : Int32} {v : Int32} (us1 : List (Nat × Ob)) (j x : Nat) (hu : us[x]? = some (u, S)) (hk : kd u = 7) (hj : i.toNatClampNeg = j) (hin : inB i 79 = true) (hus : us.set x (u, sA S 0 (va_up (oA S 0) j v)) = us1) (d : decode cc pc = .ok (.iastore, 1)) (kk : V cc own fr lo nL G Γ us1 (pc + 1) L st) : V cc own fr lo nL G Γ us pc L (.int v :: .int i :: .ref (wA G u 1) :: st) := by
  subst hj
  exact V_iast x 1 hu hk (by decide) rfl hin rfl hus d kk
theorem al_X8_0 {cc : ByteArray} {own : String} {fr lo nL : Nat} {G : Wc} {Γ : Cx} {us : List (Nat × Ob)} {pc : Nat} {L : List (Nat × Value)} {st : List Value} {u : Nat} {S : Ob} {i : Int32} (j x : Nat) (hu : us[x]? = some (u, S)) (hk : kd u = 8) (hj : i.toNatClampNeg = j) (hin : inB i 940 = true) (d : decode cc pc = .ok (.iaload, 1)) (kk : V cc own fr lo nL G Γ us (pc + 1) L (.int (oA S 0 j) :: st)) : V cc own fr lo nL G Γ us pc L (.int i :: .ref (wA G u 1) :: st) := by
  subst hj
  exact V_iald x 1 hu hk (by decide) rfl hin d kk
theorem as_X8_0 {cc : ByteArray} {own : String} {fr lo nL : Nat} {G : Wc} {Γ : Cx} {us : List (Nat × Ob)} {pc : Nat} {L : List (Nat × Value)} {st : List Value} {u : Nat} {S : Ob} {i : Int32} {v : Int32} (us1 : List (Nat × Ob)) (j x : Nat) (hu : us[x]? = some (u, S)) (hk : kd u = 8) (hj : i.toNatClampNeg = j) (hin : inB i 940 = true) (hus : us.set x (u, sA S 0 (va_up (oA S 0) j v)) = us1) (d : decode cc pc = .ok (.iastore, 1)) (kk : V cc own fr lo nL G Γ us1 (pc + 1) L st) : V cc own fr lo nL G Γ us pc L (.int v :: .int i :: .ref (wA G u 1) :: st) := by
  subst hj
  exact V_iast x 1 hu hk (by decide) rfl hin rfl hus d kk
theorem al_X11_1 {cc : ByteArray} {own : String} {fr lo nL : Nat} {G : Wc} {Γ : Cx} {us : List (Nat × Ob)} {pc : Nat} {L : List (Nat × Value)} {st : List Value} {u : Nat} {S : Ob} {i : Int32} (j x : Nat) (hu : us[x]? = some (u, S)) (hk : kd u = 10) (hj : i.toNatClampNeg = j) (hin : inB i 940 = true) (d : decode cc pc = .ok (.baload, 1)) (kk : V cc own fr lo nL G Γ us (pc + 1) L (.int (oA S 1 j) :: st)) : V cc own fr lo nL G Γ us pc L (.int i :: .ref (wA G u 2) :: st) := by
  subst hj
  exact V_bald x 1 hu hk (by decide) rfl hin d kk
theorem as_X11_1 {cc : ByteArray} {own : String} {fr lo nL : Nat} {G : Wc} {Γ : Cx} {us : List (Nat × Ob)} {pc : Nat} {L : List (Nat × Value)} {st : List Value} {u : Nat} {S : Ob} {i : Int32} {v : Int32} (us1 : List (Nat × Ob)) (j x : Nat) (hu : us[x]? = some (u, S)) (hk : kd u = 10) (hj : i.toNatClampNeg = j) (hin : inB i 940 = true) (hus : us.set x (u, sA S 1 (va_up (oA S 1) j v.toInt8.toInt32)) = us1) (d : decode cc pc = .ok (.bastore, 1)) (kk : V cc own fr lo nL G Γ us1 (pc + 1) L st) : V cc own fr lo nL G Γ us pc L (.int v :: .int i :: .ref (wA G u 2) :: st) := by
  subst hj
  exact V_bast x 1 hu hk (by decide) rfl hin rfl hus d kk
theorem al_X11_6 {cc : ByteArray} {own : String} {fr lo nL : Nat} {G : Wc} {Γ : Cx} {us : List (Nat × Ob)} {pc : Nat} {L : List (Nat × Value)} {st : List Value} {u : Nat} {S : Ob} {i : Int32} (j x : Nat) (hu : us[x]? = some (u, S)) (hk : kd u = 10) (hj : i.toNatClampNeg = j) (hin : inB i 390 = true) (d : decode cc pc = .ok (.iaload, 1)) (kk : V cc own fr lo nL G Γ us (pc + 1) L (.int (oA S 6 j) :: st)) : V cc own fr lo nL G Γ us pc L (.int i :: .ref (wA G u 7) :: st) := by
  subst hj
  exact V_iald x 2 hu hk (by decide) rfl hin d kk
theorem as_X11_6 {cc : ByteArray} {own : String} {fr lo nL : Nat} {G : Wc} {Γ : Cx} {us : List (Nat × Ob)} {pc : Nat} {L : List (Nat × Value)} {st : List Value} {u : Nat} {S : Ob} {i : Int32} {v : Int32} (us1 : List (Nat × Ob)) (j x : Nat) (hu : us[x]? = some (u, S)) (hk : kd u = 10) (hj : i.toNatClampNeg = j) (hin : inB i 390 = true) (hus : us.set x (u, sA S 6 (va_up (oA S 6) j v)) = us1) (d : decode cc pc = .ok (.iastore, 1)) (kk : V cc own fr lo nL G Γ us1 (pc + 1) L st) : V cc own fr lo nL G Γ us pc L (.int v :: .int i :: .ref (wA G u 7) :: st) := by
  subst hj
  exact V_iast x 2 hu hk (by decide) rfl hin rfl hus d kk
theorem al_X11_7 {cc : ByteArray} {own : String} {fr lo nL : Nat} {G : Wc} {Γ : Cx} {us : List (Nat × Ob)} {pc : Nat} {L : List (Nat × Value)} {st : List Value} {u : Nat} {S : Ob} {i : Int32} (j x : Nat) (hu : us[x]? = some (u, S)) (hk : kd u = 10) (hj : i.toNatClampNeg = j) (hin : inB i 121 = true) (d : decode cc pc = .ok (.iaload, 1)) (kk : V cc own fr lo nL G Γ us (pc + 1) L (.int (oA S 7 j) :: st)) : V cc own fr lo nL G Γ us pc L (.int i :: .ref (wA G u 8) :: st) := by
  subst hj
  exact V_iald x 3 hu hk (by decide) rfl hin d kk
theorem as_X11_7 {cc : ByteArray} {own : String} {fr lo nL : Nat} {G : Wc} {Γ : Cx} {us : List (Nat × Ob)} {pc : Nat} {L : List (Nat × Value)} {st : List Value} {u : Nat} {S : Ob} {i : Int32} {v : Int32} (us1 : List (Nat × Ob)) (j x : Nat) (hu : us[x]? = some (u, S)) (hk : kd u = 10) (hj : i.toNatClampNeg = j) (hin : inB i 121 = true) (hus : us.set x (u, sA S 7 (va_up (oA S 7) j v)) = us1) (d : decode cc pc = .ok (.iastore, 1)) (kk : V cc own fr lo nL G Γ us1 (pc + 1) L st) : V cc own fr lo nL G Γ us pc L (.int v :: .int i :: .ref (wA G u 8) :: st) := by
  subst hj
  exact V_iast x 3 hu hk (by decide) rfl hin rfl hus d kk
theorem al_X11_8 {cc : ByteArray} {own : String} {fr lo nL : Nat} {G : Wc} {Γ : Cx} {us : List (Nat × Ob)} {pc : Nat} {L : List (Nat × Value)} {st : List Value} {u : Nat} {S : Ob} {i : Int32} (j x : Nat) (hu : us[x]? = some (u, S)) (hk : kd u = 10) (hj : i.toNatClampNeg = j) (hin : inB i 135 = true) (d : decode cc pc = .ok (.iaload, 1)) (kk : V cc own fr lo nL G Γ us (pc + 1) L (.int (oA S 8 j) :: st)) : V cc own fr lo nL G Γ us pc L (.int i :: .ref (wA G u 9) :: st) := by
  subst hj
  exact V_iald x 4 hu hk (by decide) rfl hin d kk
theorem as_X11_8 {cc : ByteArray} {own : String} {fr lo nL : Nat} {G : Wc} {Γ : Cx} {us : List (Nat × Ob)} {pc : Nat} {L : List (Nat × Value)} {st : List Value} {u : Nat} {S : Ob} {i : Int32} {v : Int32} (us1 : List (Nat × Ob)) (j x : Nat) (hu : us[x]? = some (u, S)) (hk : kd u = 10) (hj : i.toNatClampNeg = j) (hin : inB i 135 = true) (hus : us.set x (u, sA S 8 (va_up (oA S 8) j v)) = us1) (d : decode cc pc = .ok (.iastore, 1)) (kk : V cc own fr lo nL G Γ us1 (pc + 1) L st) : V cc own fr lo nL G Γ us pc L (.int v :: .int i :: .ref (wA G u 9) :: st) := by
  subst hj
  exact V_iast x 4 hu hk (by decide) rfl hin rfl hus d kk
theorem al_X11_9 {cc : ByteArray} {own : String} {fr lo nL : Nat} {G : Wc} {Γ : Cx} {us : List (Nat × Ob)} {pc : Nat} {L : List (Nat × Value)} {st : List Value} {u : Nat} {S : Ob} {i : Int32} (j x : Nat) (hu : us[x]? = some (u, S)) (hk : kd u = 10) (hj : i.toNatClampNeg = j) (hin : inB i 36 = true) (d : decode cc pc = .ok (.laload, 1)) (kk : V cc own fr lo nL G Γ us (pc + 1) L (.long (oJ S 9 j) :: st)) : V cc own fr lo nL G Γ us pc L (.int i :: .ref (wA G u 10) :: st) := by
  subst hj
  exact V_lald x 5 hu hk (by decide) rfl hin d kk
theorem as_X11_9 {cc : ByteArray} {own : String} {fr lo nL : Nat} {G : Wc} {Γ : Cx} {us : List (Nat × Ob)} {pc : Nat} {L : List (Nat × Value)} {st : List Value} {u : Nat} {S : Ob} {i : Int32} {v : Int64} (us1 : List (Nat × Ob)) (j x : Nat) (hu : us[x]? = some (u, S)) (hk : kd u = 10) (hj : i.toNatClampNeg = j) (hin : inB i 36 = true) (hus : us.set x (u, sJ S 9 (va_up (oJ S 9) j v)) = us1) (d : decode cc pc = .ok (.lastore, 1)) (kk : V cc own fr lo nL G Γ us1 (pc + 1) L st) : V cc own fr lo nL G Γ us pc L (.long v :: .int i :: .ref (wA G u 10) :: st) := by
  subst hj
  exact V_last x 5 hu hk (by decide) rfl hin rfl hus d kk
theorem al_X11_10 {cc : ByteArray} {own : String} {fr lo nL : Nat} {G : Wc} {Γ : Cx} {us : List (Nat × Ob)} {pc : Nat} {L : List (Nat × Value)} {st : List Value} {u : Nat} {S : Ob} {i : Int32} (j x : Nat) (hu : us[x]? = some (u, S)) (hk : kd u = 10) (hj : i.toNatClampNeg = j) (hin : inB i 22 = true) (d : decode cc pc = .ok (.laload, 1)) (kk : V cc own fr lo nL G Γ us (pc + 1) L (.long (oJ S 10 j) :: st)) : V cc own fr lo nL G Γ us pc L (.int i :: .ref (wA G u 11) :: st) := by
  subst hj
  exact V_lald x 6 hu hk (by decide) rfl hin d kk
theorem al_X11_21 {cc : ByteArray} {own : String} {fr lo nL : Nat} {G : Wc} {Γ : Cx} {us : List (Nat × Ob)} {pc : Nat} {L : List (Nat × Value)} {st : List Value} {u : Nat} {S : Ob} {i : Int32} (j x : Nat) (hu : us[x]? = some (u, S)) (hk : kd u = 10) (hj : i.toNatClampNeg = j) (hin : inB i 704 = true) (d : decode cc pc = .ok (.iaload, 1)) (kk : V cc own fr lo nL G Γ us (pc + 1) L (.int (oA S 21 j) :: st)) : V cc own fr lo nL G Γ us pc L (.int i :: .ref (wA G u 22) :: st) := by
  subst hj
  exact V_iald x 7 hu hk (by decide) rfl hin d kk
theorem as_X11_21 {cc : ByteArray} {own : String} {fr lo nL : Nat} {G : Wc} {Γ : Cx} {us : List (Nat × Ob)} {pc : Nat} {L : List (Nat × Value)} {st : List Value} {u : Nat} {S : Ob} {i : Int32} {v : Int32} (us1 : List (Nat × Ob)) (j x : Nat) (hu : us[x]? = some (u, S)) (hk : kd u = 10) (hj : i.toNatClampNeg = j) (hin : inB i 704 = true) (hus : us.set x (u, sA S 21 (va_up (oA S 21) j v)) = us1) (d : decode cc pc = .ok (.iastore, 1)) (kk : V cc own fr lo nL G Γ us1 (pc + 1) L st) : V cc own fr lo nL G Γ us pc L (.int v :: .int i :: .ref (wA G u 22) :: st) := by
  subst hj
  exact V_iast x 7 hu hk (by decide) rfl hin rfl hus d kk
theorem al_X11_22 {cc : ByteArray} {own : String} {fr lo nL : Nat} {G : Wc} {Γ : Cx} {us : List (Nat × Ob)} {pc : Nat} {L : List (Nat × Value)} {st : List Value} {u : Nat} {S : Ob} {i : Int32} (j x : Nat) (hu : us[x]? = some (u, S)) (hk : kd u = 10) (hj : i.toNatClampNeg = j) (hin : inB i 88 = true) (d : decode cc pc = .ok (.iaload, 1)) (kk : V cc own fr lo nL G Γ us (pc + 1) L (.int (oA S 22 j) :: st)) : V cc own fr lo nL G Γ us pc L (.int i :: .ref (wA G u 23) :: st) := by
  subst hj
  exact V_iald x 8 hu hk (by decide) rfl hin d kk
theorem as_X11_22 {cc : ByteArray} {own : String} {fr lo nL : Nat} {G : Wc} {Γ : Cx} {us : List (Nat × Ob)} {pc : Nat} {L : List (Nat × Value)} {st : List Value} {u : Nat} {S : Ob} {i : Int32} {v : Int32} (us1 : List (Nat × Ob)) (j x : Nat) (hu : us[x]? = some (u, S)) (hk : kd u = 10) (hj : i.toNatClampNeg = j) (hin : inB i 88 = true) (hus : us.set x (u, sA S 22 (va_up (oA S 22) j v)) = us1) (d : decode cc pc = .ok (.iastore, 1)) (kk : V cc own fr lo nL G Γ us1 (pc + 1) L st) : V cc own fr lo nL G Γ us pc L (.int v :: .int i :: .ref (wA G u 23) :: st) := by
  subst hj
  exact V_iast x 8 hu hk (by decide) rfl hin rfl hus d kk
theorem al_X11_26 {cc : ByteArray} {own : String} {fr lo nL : Nat} {G : Wc} {Γ : Cx} {us : List (Nat × Ob)} {pc : Nat} {L : List (Nat × Value)} {st : List Value} {u : Nat} {S : Ob} {i : Int32} (j x : Nat) (hu : us[x]? = some (u, S)) (hk : kd u = 10) (hj : i.toNatClampNeg = j) (hin : inB i 16384 = true) (d : decode cc pc = .ok (.baload, 1)) (kk : V cc own fr lo nL G Γ us (pc + 1) L (.int (oA S 26 j) :: st)) : V cc own fr lo nL G Γ us pc L (.int i :: .ref (wA G u 27) :: st) := by
  subst hj
  exact V_zald x 9 hu hk (by decide) rfl hin d kk
theorem as_X11_26 {cc : ByteArray} {own : String} {fr lo nL : Nat} {G : Wc} {Γ : Cx} {us : List (Nat × Ob)} {pc : Nat} {L : List (Nat × Value)} {st : List Value} {u : Nat} {S : Ob} {i : Int32} {v : Int32} (us1 : List (Nat × Ob)) (j x : Nat) (hu : us[x]? = some (u, S)) (hk : kd u = 10) (hj : i.toNatClampNeg = j) (hin : inB i 16384 = true) (hz : z01 v = true) (hus : us.set x (u, sA S 26 (va_up (oA S 26) j v)) = us1) (d : decode cc pc = .ok (.bastore, 1)) (kk : V cc own fr lo nL G Γ us1 (pc + 1) L st) : V cc own fr lo nL G Γ us pc L (.int v :: .int i :: .ref (wA G u 27) :: st) := by
  subst hj
  exact V_zast x 9 hu hk (by decide) rfl hin hz rfl hus d kk
theorem al_X11_27 {cc : ByteArray} {own : String} {fr lo nL : Nat} {G : Wc} {Γ : Cx} {us : List (Nat × Ob)} {pc : Nat} {L : List (Nat × Value)} {st : List Value} {u : Nat} {S : Ob} {i : Int32} (j x : Nat) (hu : us[x]? = some (u, S)) (hk : kd u = 10) (hj : i.toNatClampNeg = j) (hin : inB i 1024 = true) (d : decode cc pc = .ok (.iaload, 1)) (kk : V cc own fr lo nL G Γ us (pc + 1) L (.int (oA S 27 j) :: st)) : V cc own fr lo nL G Γ us pc L (.int i :: .ref (wA G u 28) :: st) := by
  subst hj
  exact V_iald x 10 hu hk (by decide) rfl hin d kk
theorem as_X11_27 {cc : ByteArray} {own : String} {fr lo nL : Nat} {G : Wc} {Γ : Cx} {us : List (Nat × Ob)} {pc : Nat} {L : List (Nat × Value)} {st : List Value} {u : Nat} {S : Ob} {i : Int32} {v : Int32} (us1 : List (Nat × Ob)) (j x : Nat) (hu : us[x]? = some (u, S)) (hk : kd u = 10) (hj : i.toNatClampNeg = j) (hin : inB i 1024 = true) (hus : us.set x (u, sA S 27 (va_up (oA S 27) j v)) = us1) (d : decode cc pc = .ok (.iastore, 1)) (kk : V cc own fr lo nL G Γ us1 (pc + 1) L st) : V cc own fr lo nL G Γ us pc L (.int v :: .int i :: .ref (wA G u 28) :: st) := by
  subst hj
  exact V_iast x 10 hu hk (by decide) rfl hin rfl hus d kk
theorem al_X11_28 {cc : ByteArray} {own : String} {fr lo nL : Nat} {G : Wc} {Γ : Cx} {us : List (Nat × Ob)} {pc : Nat} {L : List (Nat × Value)} {st : List Value} {u : Nat} {S : Ob} {i : Int32} (j x : Nat) (hu : us[x]? = some (u, S)) (hk : kd u = 10) (hj : i.toNatClampNeg = j) (hin : inB i 10 = true) (d : decode cc pc = .ok (.iaload, 1)) (kk : V cc own fr lo nL G Γ us (pc + 1) L (.int (oA S 28 j) :: st)) : V cc own fr lo nL G Γ us pc L (.int i :: .ref (wA G u 29) :: st) := by
  subst hj
  exact V_iald x 11 hu hk (by decide) rfl hin d kk
theorem as_X11_28 {cc : ByteArray} {own : String} {fr lo nL : Nat} {G : Wc} {Γ : Cx} {us : List (Nat × Ob)} {pc : Nat} {L : List (Nat × Value)} {st : List Value} {u : Nat} {S : Ob} {i : Int32} {v : Int32} (us1 : List (Nat × Ob)) (j x : Nat) (hu : us[x]? = some (u, S)) (hk : kd u = 10) (hj : i.toNatClampNeg = j) (hin : inB i 10 = true) (hus : us.set x (u, sA S 28 (va_up (oA S 28) j v)) = us1) (d : decode cc pc = .ok (.iastore, 1)) (kk : V cc own fr lo nL G Γ us1 (pc + 1) L st) : V cc own fr lo nL G Γ us pc L (.int v :: .int i :: .ref (wA G u 29) :: st) := by
  subst hj
  exact V_iast x 11 hu hk (by decide) rfl hin rfl hus d kk
theorem al_X11_33 {cc : ByteArray} {own : String} {fr lo nL : Nat} {G : Wc} {Γ : Cx} {us : List (Nat × Ob)} {pc : Nat} {L : List (Nat × Value)} {st : List Value} {u : Nat} {S : Ob} {i : Int32} (j x : Nat) (hu : us[x]? = some (u, S)) (hk : kd u = 10) (hj : i.toNatClampNeg = j) (hin : inB i 88 = true) (d : decode cc pc = .ok (.baload, 1)) (kk : V cc own fr lo nL G Γ us (pc + 1) L (.int (oA S 33 j) :: st)) : V cc own fr lo nL G Γ us pc L (.int i :: .ref (wA G u 34) :: st) := by
  subst hj
  exact V_bald x 12 hu hk (by decide) rfl hin d kk
theorem as_X11_33 {cc : ByteArray} {own : String} {fr lo nL : Nat} {G : Wc} {Γ : Cx} {us : List (Nat × Ob)} {pc : Nat} {L : List (Nat × Value)} {st : List Value} {u : Nat} {S : Ob} {i : Int32} {v : Int32} (us1 : List (Nat × Ob)) (j x : Nat) (hu : us[x]? = some (u, S)) (hk : kd u = 10) (hj : i.toNatClampNeg = j) (hin : inB i 88 = true) (hus : us.set x (u, sA S 33 (va_up (oA S 33) j v.toInt8.toInt32)) = us1) (d : decode cc pc = .ok (.bastore, 1)) (kk : V cc own fr lo nL G Γ us1 (pc + 1) L st) : V cc own fr lo nL G Γ us pc L (.int v :: .int i :: .ref (wA G u 34) :: st) := by
  subst hj
  exact V_bast x 12 hu hk (by decide) rfl hin rfl hus d kk
theorem al_X11_37 {cc : ByteArray} {own : String} {fr lo nL : Nat} {G : Wc} {Γ : Cx} {us : List (Nat × Ob)} {pc : Nat} {L : List (Nat × Value)} {st : List Value} {u : Nat} {S : Ob} {i : Int32} (j x : Nat) (hu : us[x]? = some (u, S)) (hk : kd u = 10) (hj : i.toNatClampNeg = j) (hin : inB i 4 = true) (d : decode cc pc = .ok (.iaload, 1)) (kk : V cc own fr lo nL G Γ us (pc + 1) L (.int (oA S 37 j) :: st)) : V cc own fr lo nL G Γ us pc L (.int i :: .ref (wA G u 38) :: st) := by
  subst hj
  exact V_iald x 13 hu hk (by decide) rfl hin d kk
theorem as_X11_37 {cc : ByteArray} {own : String} {fr lo nL : Nat} {G : Wc} {Γ : Cx} {us : List (Nat × Ob)} {pc : Nat} {L : List (Nat × Value)} {st : List Value} {u : Nat} {S : Ob} {i : Int32} {v : Int32} (us1 : List (Nat × Ob)) (j x : Nat) (hu : us[x]? = some (u, S)) (hk : kd u = 10) (hj : i.toNatClampNeg = j) (hin : inB i 4 = true) (hus : us.set x (u, sA S 37 (va_up (oA S 37) j v)) = us1) (d : decode cc pc = .ok (.iastore, 1)) (kk : V cc own fr lo nL G Γ us1 (pc + 1) L st) : V cc own fr lo nL G Γ us pc L (.int v :: .int i :: .ref (wA G u 38) :: st) := by
  subst hj
  exact V_iast x 13 hu hk (by decide) rfl hin rfl hus d kk
theorem al_X11_39 {cc : ByteArray} {own : String} {fr lo nL : Nat} {G : Wc} {Γ : Cx} {us : List (Nat × Ob)} {pc : Nat} {L : List (Nat × Value)} {st : List Value} {u : Nat} {S : Ob} {i : Int32} (j x : Nat) (hu : us[x]? = some (u, S)) (hk : kd u = 10) (hj : i.toNatClampNeg = j) (hin : inB i 45 = true) (d : decode cc pc = .ok (.iaload, 1)) (kk : V cc own fr lo nL G Γ us (pc + 1) L (.int (oA S 39 j) :: st)) : V cc own fr lo nL G Γ us pc L (.int i :: .ref (wA G u 40) :: st) := by
  subst hj
  exact V_iald x 14 hu hk (by decide) rfl hin d kk
theorem as_X11_39 {cc : ByteArray} {own : String} {fr lo nL : Nat} {G : Wc} {Γ : Cx} {us : List (Nat × Ob)} {pc : Nat} {L : List (Nat × Value)} {st : List Value} {u : Nat} {S : Ob} {i : Int32} {v : Int32} (us1 : List (Nat × Ob)) (j x : Nat) (hu : us[x]? = some (u, S)) (hk : kd u = 10) (hj : i.toNatClampNeg = j) (hin : inB i 45 = true) (hus : us.set x (u, sA S 39 (va_up (oA S 39) j v)) = us1) (d : decode cc pc = .ok (.iastore, 1)) (kk : V cc own fr lo nL G Γ us1 (pc + 1) L st) : V cc own fr lo nL G Γ us pc L (.int v :: .int i :: .ref (wA G u 40) :: st) := by
  subst hj
  exact V_iast x 14 hu hk (by decide) rfl hin rfl hus d kk
theorem al_X11_45 {cc : ByteArray} {own : String} {fr lo nL : Nat} {G : Wc} {Γ : Cx} {us : List (Nat × Ob)} {pc : Nat} {L : List (Nat × Value)} {st : List Value} {u : Nat} {S : Ob} {i : Int32} (j x : Nat) (hu : us[x]? = some (u, S)) (hk : kd u = 10) (hj : i.toNatClampNeg = j) (hin : inB i 45 = true) (d : decode cc pc = .ok (.baload, 1)) (kk : V cc own fr lo nL G Γ us (pc + 1) L (.int (oA S 45 j) :: st)) : V cc own fr lo nL G Γ us pc L (.int i :: .ref (wA G u 46) :: st) := by
  subst hj
  exact V_zald x 15 hu hk (by decide) rfl hin d kk
theorem as_X11_45 {cc : ByteArray} {own : String} {fr lo nL : Nat} {G : Wc} {Γ : Cx} {us : List (Nat × Ob)} {pc : Nat} {L : List (Nat × Value)} {st : List Value} {u : Nat} {S : Ob} {i : Int32} {v : Int32} (us1 : List (Nat × Ob)) (j x : Nat) (hu : us[x]? = some (u, S)) (hk : kd u = 10) (hj : i.toNatClampNeg = j) (hin : inB i 45 = true) (hz : z01 v = true) (hus : us.set x (u, sA S 45 (va_up (oA S 45) j v)) = us1) (d : decode cc pc = .ok (.bastore, 1)) (kk : V cc own fr lo nL G Γ us1 (pc + 1) L st) : V cc own fr lo nL G Γ us pc L (.int v :: .int i :: .ref (wA G u 46) :: st) := by
  subst hj
  exact V_zast x 15 hu hk (by decide) rfl hin hz rfl hus d kk
theorem al_X11_46 {cc : ByteArray} {own : String} {fr lo nL : Nat} {G : Wc} {Γ : Cx} {us : List (Nat × Ob)} {pc : Nat} {L : List (Nat × Value)} {st : List Value} {u : Nat} {S : Ob} {i : Int32} (j x : Nat) (hu : us[x]? = some (u, S)) (hk : kd u = 10) (hj : i.toNatClampNeg = j) (hin : inB i 780 = true) (d : decode cc pc = .ok (.iaload, 1)) (kk : V cc own fr lo nL G Γ us (pc + 1) L (.int (oA S 46 j) :: st)) : V cc own fr lo nL G Γ us pc L (.int i :: .ref (wA G u 47) :: st) := by
  subst hj
  exact V_iald x 16 hu hk (by decide) rfl hin d kk
theorem as_X11_46 {cc : ByteArray} {own : String} {fr lo nL : Nat} {G : Wc} {Γ : Cx} {us : List (Nat × Ob)} {pc : Nat} {L : List (Nat × Value)} {st : List Value} {u : Nat} {S : Ob} {i : Int32} {v : Int32} (us1 : List (Nat × Ob)) (j x : Nat) (hu : us[x]? = some (u, S)) (hk : kd u = 10) (hj : i.toNatClampNeg = j) (hin : inB i 780 = true) (hus : us.set x (u, sA S 46 (va_up (oA S 46) j v)) = us1) (d : decode cc pc = .ok (.iastore, 1)) (kk : V cc own fr lo nL G Γ us1 (pc + 1) L st) : V cc own fr lo nL G Γ us pc L (.int v :: .int i :: .ref (wA G u 47) :: st) := by
  subst hj
  exact V_iast x 16 hu hk (by decide) rfl hin rfl hus d kk
theorem al_X11_47 {cc : ByteArray} {own : String} {fr lo nL : Nat} {G : Wc} {Γ : Cx} {us : List (Nat × Ob)} {pc : Nat} {L : List (Nat × Value)} {st : List Value} {u : Nat} {S : Ob} {i : Int32} (j x : Nat) (hu : us[x]? = some (u, S)) (hk : kd u = 10) (hj : i.toNatClampNeg = j) (hin : inB i 36 = true) (d : decode cc pc = .ok (.laload, 1)) (kk : V cc own fr lo nL G Γ us (pc + 1) L (.long (oJ S 47 j) :: st)) : V cc own fr lo nL G Γ us pc L (.int i :: .ref (wA G u 48) :: st) := by
  subst hj
  exact V_lald x 17 hu hk (by decide) rfl hin d kk
theorem as_X11_47 {cc : ByteArray} {own : String} {fr lo nL : Nat} {G : Wc} {Γ : Cx} {us : List (Nat × Ob)} {pc : Nat} {L : List (Nat × Value)} {st : List Value} {u : Nat} {S : Ob} {i : Int32} {v : Int64} (us1 : List (Nat × Ob)) (j x : Nat) (hu : us[x]? = some (u, S)) (hk : kd u = 10) (hj : i.toNatClampNeg = j) (hin : inB i 36 = true) (hus : us.set x (u, sJ S 47 (va_up (oJ S 47) j v)) = us1) (d : decode cc pc = .ok (.lastore, 1)) (kk : V cc own fr lo nL G Γ us1 (pc + 1) L st) : V cc own fr lo nL G Γ us pc L (.long v :: .int i :: .ref (wA G u 48) :: st) := by
  subst hj
  exact V_last x 17 hu hk (by decide) rfl hin rfl hus d kk
theorem al_X11_48 {cc : ByteArray} {own : String} {fr lo nL : Nat} {G : Wc} {Γ : Cx} {us : List (Nat × Ob)} {pc : Nat} {L : List (Nat × Value)} {st : List Value} {u : Nat} {S : Ob} {i : Int32} (j x : Nat) (hu : us[x]? = some (u, S)) (hk : kd u = 10) (hj : i.toNatClampNeg = j) (hin : inB i 2 = true) (d : decode cc pc = .ok (.baload, 1)) (kk : V cc own fr lo nL G Γ us (pc + 1) L (.int (oA S 48 j) :: st)) : V cc own fr lo nL G Γ us pc L (.int i :: .ref (wA G u 49) :: st) := by
  subst hj
  exact V_zald x 18 hu hk (by decide) rfl hin d kk
theorem as_X11_48 {cc : ByteArray} {own : String} {fr lo nL : Nat} {G : Wc} {Γ : Cx} {us : List (Nat × Ob)} {pc : Nat} {L : List (Nat × Value)} {st : List Value} {u : Nat} {S : Ob} {i : Int32} {v : Int32} (us1 : List (Nat × Ob)) (j x : Nat) (hu : us[x]? = some (u, S)) (hk : kd u = 10) (hj : i.toNatClampNeg = j) (hin : inB i 2 = true) (hz : z01 v = true) (hus : us.set x (u, sA S 48 (va_up (oA S 48) j v)) = us1) (d : decode cc pc = .ok (.bastore, 1)) (kk : V cc own fr lo nL G Γ us1 (pc + 1) L st) : V cc own fr lo nL G Γ us pc L (.int v :: .int i :: .ref (wA G u 49) :: st) := by
  subst hj
  exact V_zast x 18 hu hk (by decide) rfl hin hz rfl hus d kk
theorem wx_567 : Cond.instanceMethod yX8_putNumber ∈ gw := gw_at 567 (by decide +kernel) rfl
theorem wx_568 : Cond.selects RX8 yX8_putNumber yX8_putNumber ∈ gw := gw_at 568 (by decide +kernel) rfl
theorem wx_116 : Cond.initialized RX8 ∈ gw := gw_at 116 (by decide +kernel) rfl
theorem wx_569 : Cond.code yX8_putNumber cX8_putNumber 3 (none) ∈ gw := gw_at 569 (by decide +kernel) rfl
theorem wm_RX10_97 : Cond.methodLink RX10 97 yX8_putNumber ∈ gw ∧ Cond.instanceMethod yX8_putNumber ∈ gw ∧ Cond.selects RX8 yX8_putNumber yX8_putNumber ∈ gw ∧ Cond.initialized RX8 ∈ gw ∧ Cond.code yX8_putNumber cX8_putNumber 3 (none) ∈ gw := ⟨gw_at 566 (by decide +kernel) rfl, wx_567, wx_568, wx_116, wx_569⟩
theorem wx_579 : Cond.instanceMethod yX4_readFrom ∈ gw := gw_at 579 (by decide +kernel) rfl
theorem wx_580 : Cond.selects RX4 yX4_readFrom yX4_readFrom ∈ gw := gw_at 580 (by decide +kernel) rfl
theorem wx_117 : Cond.initialized RX4 ∈ gw := gw_at 117 (by decide +kernel) rfl
theorem wx_581 : Cond.code yX4_readFrom cX4_readFrom 4 (some .int) ∈ gw := gw_at 581 (by decide +kernel) rfl
theorem wm_RX10_101 : Cond.methodLink RX10 101 yX4_readFrom ∈ gw ∧ Cond.instanceMethod yX4_readFrom ∈ gw ∧ Cond.selects RX4 yX4_readFrom yX4_readFrom ∈ gw ∧ Cond.initialized RX4 ∈ gw ∧ Cond.code yX4_readFrom cX4_readFrom 4 (some .int) ∈ gw := ⟨gw_at 578 (by decide +kernel) rfl, wx_579, wx_580, wx_117, wx_581⟩
theorem wx_695 : Cond.instanceMethod yX4_copyFrom ∈ gw := gw_at 695 (by decide +kernel) rfl
theorem wx_696 : Cond.selects RX4 yX4_copyFrom yX4_copyFrom ∈ gw := gw_at 696 (by decide +kernel) rfl
theorem wx_697 : Cond.code yX4_copyFrom cX4_copyFrom 2 (none) ∈ gw := gw_at 697 (by decide +kernel) rfl
theorem wm_RX10_111 : Cond.methodLink RX10 111 yX4_copyFrom ∈ gw ∧ Cond.instanceMethod yX4_copyFrom ∈ gw ∧ Cond.selects RX4 yX4_copyFrom yX4_copyFrom ∈ gw ∧ Cond.initialized RX4 ∈ gw ∧ Cond.code yX4_copyFrom cX4_copyFrom 2 (none) ∈ gw := ⟨gw_at 694 (by decide +kernel) rfl, wx_695, wx_696, wx_117, wx_697⟩
theorem wx_702 : Cond.instanceMethod yX6_copyFrom ∈ gw := gw_at 702 (by decide +kernel) rfl
theorem wx_703 : Cond.selects RX6 yX6_copyFrom yX6_copyFrom ∈ gw := gw_at 703 (by decide +kernel) rfl
theorem wx_118 : Cond.initialized RX6 ∈ gw := gw_at 118 (by decide +kernel) rfl
theorem wx_704 : Cond.code yX6_copyFrom cX6_copyFrom 2 (none) ∈ gw := gw_at 704 (by decide +kernel) rfl
theorem wm_RX10_115 : Cond.methodLink RX10 115 yX6_copyFrom ∈ gw ∧ Cond.instanceMethod yX6_copyFrom ∈ gw ∧ Cond.selects RX6 yX6_copyFrom yX6_copyFrom ∈ gw ∧ Cond.initialized RX6 ∈ gw ∧ Cond.code yX6_copyFrom cX6_copyFrom 2 (none) ∈ gw := ⟨gw_at 701 (by decide +kernel) rfl, wx_702, wx_703, wx_118, wx_704⟩
theorem wx_707 : Cond.instanceMethod yX5_forget ∈ gw := gw_at 707 (by decide +kernel) rfl
theorem wx_708 : Cond.selects RX5 yX5_forget yX5_forget ∈ gw := gw_at 708 (by decide +kernel) rfl
theorem wx_119 : Cond.initialized RX5 ∈ gw := gw_at 119 (by decide +kernel) rfl
theorem wx_709 : Cond.code yX5_forget cX5_forget 1 (none) ∈ gw := gw_at 709 (by decide +kernel) rfl
theorem wm_RX10_118 : Cond.methodLink RX10 118 yX5_forget ∈ gw ∧ Cond.instanceMethod yX5_forget ∈ gw ∧ Cond.selects RX5 yX5_forget yX5_forget ∈ gw ∧ Cond.initialized RX5 ∈ gw ∧ Cond.code yX5_forget cX5_forget 1 (none) ∈ gw := ⟨gw_at 706 (by decide +kernel) rfl, wx_707, wx_708, wx_119, wx_709⟩
theorem wx_711 : Cond.instanceMethod yX2_forget ∈ gw := gw_at 711 (by decide +kernel) rfl
theorem wx_712 : Cond.selects RX2 yX2_forget yX2_forget ∈ gw := gw_at 712 (by decide +kernel) rfl
theorem wx_120 : Cond.initialized RX2 ∈ gw := gw_at 120 (by decide +kernel) rfl
theorem wx_713 : Cond.code yX2_forget cX2_forget 1 (none) ∈ gw := gw_at 713 (by decide +kernel) rfl
theorem wm_RX10_121 : Cond.methodLink RX10 121 yX2_forget ∈ gw ∧ Cond.instanceMethod yX2_forget ∈ gw ∧ Cond.selects RX2 yX2_forget yX2_forget ∈ gw ∧ Cond.initialized RX2 ∈ gw ∧ Cond.code yX2_forget cX2_forget 1 (none) ∈ gw := ⟨gw_at 710 (by decide +kernel) rfl, wx_711, wx_712, wx_120, wx_713⟩
theorem wx_724 : Cond.instanceMethod yX10_isPerson ∈ gw := gw_at 724 (by decide +kernel) rfl
theorem wx_9 : Cond.selects RX10 yX10_isPerson yX10_isPerson ∈ gw := gw_at 9 (by decide +kernel) rfl
theorem wx_115 : Cond.initialized RX10 ∈ gw := gw_at 115 (by decide +kernel) rfl
theorem wx_725 : Cond.code yX10_isPerson cX10_isPerson 2 (some .boolean) ∈ gw := gw_at 725 (by decide +kernel) rfl
theorem wm_RX10_122 : Cond.methodLink RX10 122 yX10_isPerson ∈ gw ∧ Cond.instanceMethod yX10_isPerson ∈ gw ∧ Cond.selects RX10 yX10_isPerson yX10_isPerson ∈ gw ∧ Cond.initialized RX10 ∈ gw ∧ Cond.code yX10_isPerson cX10_isPerson 2 (some .boolean) ∈ gw := ⟨gw_at 722 (by decide +kernel) rfl, wx_724, wx_9, wx_115, wx_725⟩
theorem wx_1221 : Cond.instanceMethod yX6_knotsOf ∈ gw := gw_at 1221 (by decide +kernel) rfl
theorem wx_1222 : Cond.selects RX6 yX6_knotsOf yX6_knotsOf ∈ gw := gw_at 1222 (by decide +kernel) rfl
theorem wx_1223 : Cond.code yX6_knotsOf cX6_knotsOf 4 (some .int) ∈ gw := gw_at 1223 (by decide +kernel) rfl
theorem wm_RX10_143 : Cond.methodLink RX10 143 yX6_knotsOf ∈ gw ∧ Cond.instanceMethod yX6_knotsOf ∈ gw ∧ Cond.selects RX6 yX6_knotsOf yX6_knotsOf ∈ gw ∧ Cond.initialized RX6 ∈ gw ∧ Cond.code yX6_knotsOf cX6_knotsOf 4 (some .int) ∈ gw := ⟨gw_at 1321 (by decide +kernel) rfl, wx_1221, wx_1222, wx_118, wx_1223⟩
theorem wx_786 : Cond.instanceMethod yX6_outsideHolds ∈ gw := gw_at 786 (by decide +kernel) rfl
theorem wx_787 : Cond.selects RX6 yX6_outsideHolds yX6_outsideHolds ∈ gw := gw_at 787 (by decide +kernel) rfl
theorem wx_788 : Cond.code yX6_outsideHolds cX6_outsideHolds 3 (some .int) ∈ gw := gw_at 788 (by decide +kernel) rfl
theorem wm_RX10_147 : Cond.methodLink RX10 147 yX6_outsideHolds ∈ gw ∧ Cond.instanceMethod yX6_outsideHolds ∈ gw ∧ Cond.selects RX6 yX6_outsideHolds yX6_outsideHolds ∈ gw ∧ Cond.initialized RX6 ∈ gw ∧ Cond.code yX6_outsideHolds cX6_outsideHolds 3 (some .int) ∈ gw := ⟨gw_at 1322 (by decide +kernel) rfl, wx_786, wx_787, wx_118, wx_788⟩
theorem wx_888 : Cond.instanceMethod yX6_allHolds ∈ gw := gw_at 888 (by decide +kernel) rfl
theorem wx_889 : Cond.selects RX6 yX6_allHolds yX6_allHolds ∈ gw := gw_at 889 (by decide +kernel) rfl
theorem wx_890 : Cond.code yX6_allHolds cX6_allHolds 5 (some .int) ∈ gw := gw_at 890 (by decide +kernel) rfl
theorem wm_RX10_151 : Cond.methodLink RX10 151 yX6_allHolds ∈ gw ∧ Cond.instanceMethod yX6_allHolds ∈ gw ∧ Cond.selects RX6 yX6_allHolds yX6_allHolds ∈ gw ∧ Cond.initialized RX6 ∈ gw ∧ Cond.code yX6_allHolds cX6_allHolds 5 (some .int) ∈ gw := ⟨gw_at 1004 (by decide +kernel) rfl, wx_888, wx_889, wx_118, wx_890⟩
theorem wx_660 : Cond.instanceMethod yX6_isNest ∈ gw := gw_at 660 (by decide +kernel) rfl
theorem wx_661 : Cond.selects RX6 yX6_isNest yX6_isNest ∈ gw := gw_at 661 (by decide +kernel) rfl
theorem wx_662 : Cond.code yX6_isNest cX6_isNest 2 (some .boolean) ∈ gw := gw_at 662 (by decide +kernel) rfl
theorem wm_RX10_154 : Cond.methodLink RX10 154 yX6_isNest ∈ gw ∧ Cond.instanceMethod yX6_isNest ∈ gw ∧ Cond.selects RX6 yX6_isNest yX6_isNest ∈ gw ∧ Cond.initialized RX6 ∈ gw ∧ Cond.code yX6_isNest cX6_isNest 2 (some .boolean) ∈ gw := ⟨gw_at 1058 (by decide +kernel) rfl, wx_660, wx_661, wx_118, wx_662⟩
theorem wx_727 : Cond.instanceMethod yX6_layerAt ∈ gw := gw_at 727 (by decide +kernel) rfl
theorem wx_728 : Cond.selects RX6 yX6_layerAt yX6_layerAt ∈ gw := gw_at 728 (by decide +kernel) rfl
theorem wx_729 : Cond.code yX6_layerAt cX6_layerAt 3 (some .int) ∈ gw := gw_at 729 (by decide +kernel) rfl
theorem wm_RX10_159 : Cond.methodLink RX10 159 yX6_layerAt ∈ gw ∧ Cond.instanceMethod yX6_layerAt ∈ gw ∧ Cond.selects RX6 yX6_layerAt yX6_layerAt ∈ gw ∧ Cond.initialized RX6 ∈ gw ∧ Cond.code yX6_layerAt cX6_layerAt 3 (some .int) ∈ gw := ⟨gw_at 726 (by decide +kernel) rfl, wx_727, wx_728, wx_118, wx_729⟩
theorem wx_736 : Cond.instanceMethod yX10_isThing ∈ gw := gw_at 736 (by decide +kernel) rfl
theorem wx_10 : Cond.selects RX10 yX10_isThing yX10_isThing ∈ gw := gw_at 10 (by decide +kernel) rfl
theorem wx_737 : Cond.code yX10_isThing cX10_isThing 2 (some .boolean) ∈ gw := gw_at 737 (by decide +kernel) rfl
theorem wm_RX10_163 : Cond.methodLink RX10 163 yX10_isThing ∈ gw ∧ Cond.instanceMethod yX10_isThing ∈ gw ∧ Cond.selects RX10 yX10_isThing yX10_isThing ∈ gw ∧ Cond.initialized RX10 ∈ gw ∧ Cond.code yX10_isThing cX10_isThing 2 (some .boolean) ∈ gw := ⟨gw_at 734 (by decide +kernel) rfl, wx_736, wx_10, wx_115, wx_737⟩
theorem wx_739 : Cond.instanceMethod yX6_whoHas ∈ gw := gw_at 739 (by decide +kernel) rfl
theorem wx_740 : Cond.selects RX6 yX6_whoHas yX6_whoHas ∈ gw := gw_at 740 (by decide +kernel) rfl
theorem wx_741 : Cond.code yX6_whoHas cX6_whoHas 5 (some .int) ∈ gw := gw_at 741 (by decide +kernel) rfl
theorem wm_RX10_175 : Cond.methodLink RX10 175 yX6_whoHas ∈ gw ∧ Cond.instanceMethod yX6_whoHas ∈ gw ∧ Cond.selects RX6 yX6_whoHas yX6_whoHas ∈ gw ∧ Cond.initialized RX6 ∈ gw ∧ Cond.code yX6_whoHas cX6_whoHas 5 (some .int) ∈ gw := ⟨gw_at 738 (by decide +kernel) rfl, wx_739, wx_740, wx_118, wx_741⟩
theorem wx_748 : Cond.instanceMethod yX6_stillOf ∈ gw := gw_at 748 (by decide +kernel) rfl
theorem wx_749 : Cond.selects RX6 yX6_stillOf yX6_stillOf ∈ gw := gw_at 749 (by decide +kernel) rfl
theorem wx_750 : Cond.code yX6_stillOf cX6_stillOf 6 (some .int) ∈ gw := gw_at 750 (by decide +kernel) rfl
theorem wm_RX10_178 : Cond.methodLink RX10 178 yX6_stillOf ∈ gw ∧ Cond.instanceMethod yX6_stillOf ∈ gw ∧ Cond.selects RX6 yX6_stillOf yX6_stillOf ∈ gw ∧ Cond.initialized RX6 ∈ gw ∧ Cond.code yX6_stillOf cX6_stillOf 6 (some .int) ∈ gw := ⟨gw_at 747 (by decide +kernel) rfl, wx_748, wx_749, wx_118, wx_750⟩
theorem wx_757 : Cond.instanceMethod yX10_isBed ∈ gw := gw_at 757 (by decide +kernel) rfl
theorem wx_11 : Cond.selects RX10 yX10_isBed yX10_isBed ∈ gw := gw_at 11 (by decide +kernel) rfl
theorem wx_758 : Cond.code yX10_isBed cX10_isBed 2 (some .boolean) ∈ gw := gw_at 758 (by decide +kernel) rfl
theorem wm_RX10_181 : Cond.methodLink RX10 181 yX10_isBed ∈ gw ∧ Cond.instanceMethod yX10_isBed ∈ gw ∧ Cond.selects RX10 yX10_isBed yX10_isBed ∈ gw ∧ Cond.initialized RX10 ∈ gw ∧ Cond.code yX10_isBed cX10_isBed 2 (some .boolean) ∈ gw := ⟨gw_at 755 (by decide +kernel) rfl, wx_757, wx_11, wx_115, wx_758⟩
theorem wx_760 : Cond.instanceMethod yX6_sleeps ∈ gw := gw_at 760 (by decide +kernel) rfl
theorem wx_761 : Cond.selects RX6 yX6_sleeps yX6_sleeps ∈ gw := gw_at 761 (by decide +kernel) rfl
theorem wx_762 : Cond.code yX6_sleeps cX6_sleeps 3 (some .boolean) ∈ gw := gw_at 762 (by decide +kernel) rfl
theorem wm_RX10_188 : Cond.methodLink RX10 188 yX6_sleeps ∈ gw ∧ Cond.instanceMethod yX6_sleeps ∈ gw ∧ Cond.selects RX6 yX6_sleeps yX6_sleeps ∈ gw ∧ Cond.initialized RX6 ∈ gw ∧ Cond.code yX6_sleeps cX6_sleeps 3 (some .boolean) ∈ gw := ⟨gw_at 759 (by decide +kernel) rfl, wx_760, wx_761, wx_118, wx_762⟩
theorem wx_768 : Cond.instanceMethod yX6_allSleeping ∈ gw := gw_at 768 (by decide +kernel) rfl
theorem wx_769 : Cond.selects RX6 yX6_allSleeping yX6_allSleeping ∈ gw := gw_at 769 (by decide +kernel) rfl
theorem wx_770 : Cond.code yX6_allSleeping cX6_allSleeping 4 (some .int) ∈ gw := gw_at 770 (by decide +kernel) rfl
theorem wm_RX10_201 : Cond.methodLink RX10 201 yX6_allSleeping ∈ gw ∧ Cond.instanceMethod yX6_allSleeping ∈ gw ∧ Cond.selects RX6 yX6_allSleeping yX6_allSleeping ∈ gw ∧ Cond.initialized RX6 ∈ gw ∧ Cond.code yX6_allSleeping cX6_allSleeping 4 (some .int) ∈ gw := ⟨gw_at 767 (by decide +kernel) rfl, wx_768, wx_769, wx_118, wx_770⟩
theorem wx_773 : Cond.instanceMethod yX6_allNests ∈ gw := gw_at 773 (by decide +kernel) rfl
theorem wx_774 : Cond.selects RX6 yX6_allNests yX6_allNests ∈ gw := gw_at 774 (by decide +kernel) rfl
theorem wx_775 : Cond.code yX6_allNests cX6_allNests 4 (some .int) ∈ gw := gw_at 775 (by decide +kernel) rfl
theorem wm_RX10_205 : Cond.methodLink RX10 205 yX6_allNests ∈ gw ∧ Cond.instanceMethod yX6_allNests ∈ gw ∧ Cond.selects RX6 yX6_allNests yX6_allNests ∈ gw ∧ Cond.initialized RX6 ∈ gw ∧ Cond.code yX6_allNests cX6_allNests 4 (some .int) ∈ gw := ⟨gw_at 772 (by decide +kernel) rfl, wx_773, wx_774, wx_118, wx_775⟩
theorem wx_782 : Cond.instanceMethod yX6_whyNoStroke ∈ gw := gw_at 782 (by decide +kernel) rfl
theorem wx_783 : Cond.selects RX6 yX6_whyNoStroke yX6_whyNoStroke ∈ gw := gw_at 783 (by decide +kernel) rfl
theorem wx_784 : Cond.code yX6_whyNoStroke cX6_whyNoStroke 4 (some .int) ∈ gw := gw_at 784 (by decide +kernel) rfl
theorem wm_RX10_217 : Cond.methodLink RX10 217 yX6_whyNoStroke ∈ gw ∧ Cond.instanceMethod yX6_whyNoStroke ∈ gw ∧ Cond.selects RX6 yX6_whyNoStroke yX6_whyNoStroke ∈ gw ∧ Cond.initialized RX6 ∈ gw ∧ Cond.code yX6_whyNoStroke cX6_whyNoStroke 4 (some .int) ∈ gw := ⟨gw_at 781 (by decide +kernel) rfl, wx_782, wx_783, wx_118, wx_784⟩
theorem wx_798 : Cond.instanceMethod yX2_keep ∈ gw := gw_at 798 (by decide +kernel) rfl
theorem wx_799 : Cond.selects RX2 yX2_keep yX2_keep ∈ gw := gw_at 799 (by decide +kernel) rfl
theorem wx_800 : Cond.code yX2_keep cX2_keep 2 (none) ∈ gw := gw_at 800 (by decide +kernel) rfl
theorem wm_RX10_221 : Cond.methodLink RX10 221 yX2_keep ∈ gw ∧ Cond.instanceMethod yX2_keep ∈ gw ∧ Cond.selects RX2 yX2_keep yX2_keep ∈ gw ∧ Cond.initialized RX2 ∈ gw ∧ Cond.code yX2_keep cX2_keep 2 (none) ∈ gw := ⟨gw_at 797 (by decide +kernel) rfl, wx_798, wx_799, wx_120, wx_800⟩
theorem wx_804 : Cond.instanceMethod yX6_comb ∈ gw := gw_at 804 (by decide +kernel) rfl
theorem wx_805 : Cond.selects RX6 yX6_comb yX6_comb ∈ gw := gw_at 805 (by decide +kernel) rfl
theorem wx_806 : Cond.code yX6_comb cX6_comb 6 (none) ∈ gw := gw_at 806 (by decide +kernel) rfl
theorem wm_RX10_224 : Cond.methodLink RX10 224 yX6_comb ∈ gw ∧ Cond.instanceMethod yX6_comb ∈ gw ∧ Cond.selects RX6 yX6_comb yX6_comb ∈ gw ∧ Cond.initialized RX6 ∈ gw ∧ Cond.code yX6_comb cX6_comb 6 (none) ∈ gw := ⟨gw_at 803 (by decide +kernel) rfl, wx_804, wx_805, wx_118, wx_806⟩
theorem wx_821 : Cond.instanceMethod yX6_whyNoCut ∈ gw := gw_at 821 (by decide +kernel) rfl
theorem wx_822 : Cond.selects RX6 yX6_whyNoCut yX6_whyNoCut ∈ gw := gw_at 822 (by decide +kernel) rfl
theorem wx_823 : Cond.code yX6_whyNoCut cX6_whyNoCut 2 (some .int) ∈ gw := gw_at 823 (by decide +kernel) rfl
theorem wm_RX10_228 : Cond.methodLink RX10 228 yX6_whyNoCut ∈ gw ∧ Cond.instanceMethod yX6_whyNoCut ∈ gw ∧ Cond.selects RX6 yX6_whyNoCut yX6_whyNoCut ∈ gw ∧ Cond.initialized RX6 ∈ gw ∧ Cond.code yX6_whyNoCut cX6_whyNoCut 2 (some .int) ∈ gw := ⟨gw_at 820 (by decide +kernel) rfl, wx_821, wx_822, wx_118, wx_823⟩
theorem wx_825 : Cond.instanceMethod yX6_cutOff ∈ gw := gw_at 825 (by decide +kernel) rfl
theorem wx_826 : Cond.selects RX6 yX6_cutOff yX6_cutOff ∈ gw := gw_at 826 (by decide +kernel) rfl
theorem wx_827 : Cond.code yX6_cutOff cX6_cutOff 3 (none) ∈ gw := gw_at 827 (by decide +kernel) rfl
theorem wm_RX10_231 : Cond.methodLink RX10 231 yX6_cutOff ∈ gw ∧ Cond.instanceMethod yX6_cutOff ∈ gw ∧ Cond.selects RX6 yX6_cutOff yX6_cutOff ∈ gw ∧ Cond.initialized RX6 ∈ gw ∧ Cond.code yX6_cutOff cX6_cutOff 3 (none) ∈ gw := ⟨gw_at 824 (by decide +kernel) rfl, wx_825, wx_826, wx_118, wx_827⟩
theorem wx_833 : Cond.instanceMethod yX6_whyNoCatch ∈ gw := gw_at 833 (by decide +kernel) rfl
theorem wx_834 : Cond.selects RX6 yX6_whyNoCatch yX6_whyNoCatch ∈ gw := gw_at 834 (by decide +kernel) rfl
theorem wx_835 : Cond.code yX6_whyNoCatch cX6_whyNoCatch 2 (some .int) ∈ gw := gw_at 835 (by decide +kernel) rfl
theorem wm_RX10_234 : Cond.methodLink RX10 234 yX6_whyNoCatch ∈ gw ∧ Cond.instanceMethod yX6_whyNoCatch ∈ gw ∧ Cond.selects RX6 yX6_whyNoCatch yX6_whyNoCatch ∈ gw ∧ Cond.initialized RX6 ∈ gw ∧ Cond.code yX6_whyNoCatch cX6_whyNoCatch 2 (some .int) ∈ gw := ⟨gw_at 832 (by decide +kernel) rfl, wx_833, wx_834, wx_118, wx_835⟩
theorem wx_669 : Cond.instanceMethod yX6_catchThing ∈ gw := gw_at 669 (by decide +kernel) rfl
theorem wx_670 : Cond.selects RX6 yX6_catchThing yX6_catchThing ∈ gw := gw_at 670 (by decide +kernel) rfl
theorem wx_671 : Cond.code yX6_catchThing cX6_catchThing 3 (none) ∈ gw := gw_at 671 (by decide +kernel) rfl
theorem wm_RX10_237 : Cond.methodLink RX10 237 yX6_catchThing ∈ gw ∧ Cond.instanceMethod yX6_catchThing ∈ gw ∧ Cond.selects RX6 yX6_catchThing yX6_catchThing ∈ gw ∧ Cond.initialized RX6 ∈ gw ∧ Cond.code yX6_catchThing cX6_catchThing 3 (none) ∈ gw := ⟨gw_at 836 (by decide +kernel) rfl, wx_669, wx_670, wx_118, wx_671⟩
theorem wx_842 : Cond.instanceMethod yX6_whyNoStuffing ∈ gw := gw_at 842 (by decide +kernel) rfl
theorem wx_843 : Cond.selects RX6 yX6_whyNoStuffing yX6_whyNoStuffing ∈ gw := gw_at 843 (by decide +kernel) rfl
theorem wx_844 : Cond.code yX6_whyNoStuffing cX6_whyNoStuffing 2 (some .int) ∈ gw := gw_at 844 (by decide +kernel) rfl
theorem wm_RX10_241 : Cond.methodLink RX10 241 yX6_whyNoStuffing ∈ gw ∧ Cond.instanceMethod yX6_whyNoStuffing ∈ gw ∧ Cond.selects RX6 yX6_whyNoStuffing yX6_whyNoStuffing ∈ gw ∧ Cond.initialized RX6 ∈ gw ∧ Cond.code yX6_whyNoStuffing cX6_whyNoStuffing 2 (some .int) ∈ gw := ⟨gw_at 841 (by decide +kernel) rfl, wx_842, wx_843, wx_118, wx_844⟩
theorem wx_846 : Cond.instanceMethod yX6_fillBed ∈ gw := gw_at 846 (by decide +kernel) rfl
theorem wx_847 : Cond.selects RX6 yX6_fillBed yX6_fillBed ∈ gw := gw_at 847 (by decide +kernel) rfl
theorem wx_848 : Cond.code yX6_fillBed cX6_fillBed 4 (none) ∈ gw := gw_at 848 (by decide +kernel) rfl
theorem wm_RX10_244 : Cond.methodLink RX10 244 yX6_fillBed ∈ gw ∧ Cond.instanceMethod yX6_fillBed ∈ gw ∧ Cond.selects RX6 yX6_fillBed yX6_fillBed ∈ gw ∧ Cond.initialized RX6 ∈ gw ∧ Cond.code yX6_fillBed cX6_fillBed 4 (none) ∈ gw := ⟨gw_at 845 (by decide +kernel) rfl, wx_846, wx_847, wx_118, wx_848⟩
theorem wx_854 : Cond.instanceMethod yX6_daysLeft ∈ gw := gw_at 854 (by decide +kernel) rfl
theorem wx_855 : Cond.selects RX6 yX6_daysLeft yX6_daysLeft ∈ gw := gw_at 855 (by decide +kernel) rfl
theorem wx_856 : Cond.code yX6_daysLeft cX6_daysLeft 1 (some .int) ∈ gw := gw_at 856 (by decide +kernel) rfl
theorem wm_RX10_247 : Cond.methodLink RX10 247 yX6_daysLeft ∈ gw ∧ Cond.instanceMethod yX6_daysLeft ∈ gw ∧ Cond.selects RX6 yX6_daysLeft yX6_daysLeft ∈ gw ∧ Cond.initialized RX6 ∈ gw ∧ Cond.code yX6_daysLeft cX6_daysLeft 1 (some .int) ∈ gw := ⟨gw_at 853 (by decide +kernel) rfl, wx_854, wx_855, wx_118, wx_856⟩
theorem wm_RX10_251 : Cond.methodLink RX10 251 Lib.Math.min.name ∈ gw ∧ Cond.static Lib.Math.min.name ∈ gw ∧ Cond.initialized "java/lang/Math" ∈ gw ∧ Cond.code Lib.Math.min.name Lib.Math.min.code 2 (some .int) ∈ gw := ⟨gw_at 857 (by decide +kernel) rfl, gw_at 595 (by decide +kernel) rfl, gw_at 126 (by decide +kernel) rfl, gw_at 596 (by decide +kernel) rfl⟩
theorem wx_859 : Cond.instanceMethod yX6_letDaysGo ∈ gw := gw_at 859 (by decide +kernel) rfl
theorem wx_860 : Cond.selects RX6 yX6_letDaysGo yX6_letDaysGo ∈ gw := gw_at 860 (by decide +kernel) rfl
theorem wx_861 : Cond.code yX6_letDaysGo cX6_letDaysGo 4 (none) ∈ gw := gw_at 861 (by decide +kernel) rfl
theorem wm_RX10_256 : Cond.methodLink RX10 256 yX6_letDaysGo ∈ gw ∧ Cond.instanceMethod yX6_letDaysGo ∈ gw ∧ Cond.selects RX6 yX6_letDaysGo yX6_letDaysGo ∈ gw ∧ Cond.initialized RX6 ∈ gw ∧ Cond.code yX6_letDaysGo cX6_letDaysGo 4 (none) ∈ gw := ⟨gw_at 858 (by decide +kernel) rfl, wx_859, wx_860, wx_118, wx_861⟩
theorem wx_876 : Cond.instanceMethod yX2_takeBack ∈ gw := gw_at 876 (by decide +kernel) rfl
theorem wx_877 : Cond.selects RX2 yX2_takeBack yX2_takeBack ∈ gw := gw_at 877 (by decide +kernel) rfl
theorem wx_878 : Cond.code yX2_takeBack cX2_takeBack 3 (some .int) ∈ gw := gw_at 878 (by decide +kernel) rfl
theorem wm_RX10_260 : Cond.methodLink RX10 260 yX2_takeBack ∈ gw ∧ Cond.instanceMethod yX2_takeBack ∈ gw ∧ Cond.selects RX2 yX2_takeBack yX2_takeBack ∈ gw ∧ Cond.initialized RX2 ∈ gw ∧ Cond.code yX2_takeBack cX2_takeBack 3 (some .int) ∈ gw := ⟨gw_at 875 (by decide +kernel) rfl, wx_876, wx_877, wx_120, wx_878⟩
theorem wx_884 : Cond.instanceMethod yX3_fewestStrokes ∈ gw := gw_at 884 (by decide +kernel) rfl
theorem wx_885 : Cond.selects RX3 yX3_fewestStrokes yX3_fewestStrokes ∈ gw := gw_at 885 (by decide +kernel) rfl
theorem wx_122 : Cond.initialized RX3 ∈ gw := gw_at 122 (by decide +kernel) rfl
theorem wx_886 : Cond.code yX3_fewestStrokes cX3_fewestStrokes 10 (some .int) ∈ gw := gw_at 886 (by decide +kernel) rfl
theorem wm_RX10_264 : Cond.methodLink RX10 264 yX3_fewestStrokes ∈ gw ∧ Cond.instanceMethod yX3_fewestStrokes ∈ gw ∧ Cond.selects RX3 yX3_fewestStrokes yX3_fewestStrokes ∈ gw ∧ Cond.initialized RX3 ∈ gw ∧ Cond.code yX3_fewestStrokes cX3_fewestStrokes 10 (some .int) ∈ gw := ⟨gw_at 883 (by decide +kernel) rfl, wx_884, wx_885, wx_122, wx_886⟩
theorem wx_898 : Cond.instanceMethod yX3_daysToNest ∈ gw := gw_at 898 (by decide +kernel) rfl
theorem wx_899 : Cond.selects RX3 yX3_daysToNest yX3_daysToNest ∈ gw := gw_at 899 (by decide +kernel) rfl
theorem wx_900 : Cond.code yX3_daysToNest cX3_daysToNest 6 (some .int) ∈ gw := gw_at 900 (by decide +kernel) rfl
theorem wm_RX10_268 : Cond.methodLink RX10 268 yX3_daysToNest ∈ gw ∧ Cond.instanceMethod yX3_daysToNest ∈ gw ∧ Cond.selects RX3 yX3_daysToNest yX3_daysToNest ∈ gw ∧ Cond.initialized RX3 ∈ gw ∧ Cond.code yX3_daysToNest cX3_daysToNest 6 (some .int) ∈ gw := ⟨gw_at 897 (by decide +kernel) rfl, wx_898, wx_899, wx_122, wx_900⟩
theorem wx_911 : Cond.instanceMethod yX3_bestRound ∈ gw := gw_at 911 (by decide +kernel) rfl
theorem wx_912 : Cond.selects RX3 yX3_bestRound yX3_bestRound ∈ gw := gw_at 912 (by decide +kernel) rfl
theorem wx_913 : Cond.code yX3_bestRound cX3_bestRound 9 (some .int) ∈ gw := gw_at 913 (by decide +kernel) rfl
theorem wm_RX10_271 : Cond.methodLink RX10 271 yX3_bestRound ∈ gw ∧ Cond.instanceMethod yX3_bestRound ∈ gw ∧ Cond.selects RX3 yX3_bestRound yX3_bestRound ∈ gw ∧ Cond.initialized RX3 ∈ gw ∧ Cond.code yX3_bestRound cX3_bestRound 9 (some .int) ∈ gw := ⟨gw_at 910 (by decide +kernel) rfl, wx_911, wx_912, wx_122, wx_913⟩
theorem wx_920 : Cond.static yJ6_bitCount_0f7a4 ∈ gw := gw_at 920 (by decide +kernel) rfl
theorem wx_134 : Cond.initialized RJ6 ∈ gw := gw_at 134 (by decide +kernel) rfl
theorem wx_921 : Cond.code yJ6_bitCount_0f7a4 cJ6_bitCount_0f7a4 1 (some .int) ∈ gw := gw_at 921 (by decide +kernel) rfl
theorem wm_RX10_274 : Cond.methodLink RX10 274 yJ6_bitCount_0f7a4 ∈ gw ∧ Cond.static yJ6_bitCount_0f7a4 ∈ gw ∧ Cond.initialized yJ6_bitCount_0f7a4.cls ∈ gw ∧ Cond.code yJ6_bitCount_0f7a4 cJ6_bitCount_0f7a4 1 (some .int) ∈ gw := ⟨gw_at 925 (by decide +kernel) rfl, wx_920, wx_134, wx_921⟩
theorem wx_935 : Cond.instanceMethod yX3_bestBeds ∈ gw := gw_at 935 (by decide +kernel) rfl
theorem wx_936 : Cond.selects RX3 yX3_bestBeds yX3_bestBeds ∈ gw := gw_at 936 (by decide +kernel) rfl
theorem wx_937 : Cond.code yX3_bestBeds cX3_bestBeds 7 (some .int) ∈ gw := gw_at 937 (by decide +kernel) rfl
theorem wm_RX10_279 : Cond.methodLink RX10 279 yX3_bestBeds ∈ gw ∧ Cond.instanceMethod yX3_bestBeds ∈ gw ∧ Cond.selects RX3 yX3_bestBeds yX3_bestBeds ∈ gw ∧ Cond.initialized RX3 ∈ gw ∧ Cond.code yX3_bestBeds cX3_bestBeds 7 (some .int) ∈ gw := ⟨gw_at 934 (by decide +kernel) rfl, wx_935, wx_936, wx_122, wx_937⟩
theorem wx_976 : Cond.instanceMethod yX6_endsWith ∈ gw := gw_at 976 (by decide +kernel) rfl
theorem wx_977 : Cond.selects RX6 yX6_endsWith yX6_endsWith ∈ gw := gw_at 977 (by decide +kernel) rfl
theorem wx_978 : Cond.code yX6_endsWith cX6_endsWith 5 (some .boolean) ∈ gw := gw_at 978 (by decide +kernel) rfl
theorem wm_RX10_289 : Cond.methodLink RX10 289 yX6_endsWith ∈ gw ∧ Cond.instanceMethod yX6_endsWith ∈ gw ∧ Cond.selects RX6 yX6_endsWith yX6_endsWith ∈ gw ∧ Cond.initialized RX6 ∈ gw ∧ Cond.code yX6_endsWith cX6_endsWith 5 (some .boolean) ∈ gw := ⟨gw_at 975 (by decide +kernel) rfl, wx_976, wx_977, wx_118, wx_978⟩
theorem wx_980 : Cond.instanceMethod yX3_bestLayer ∈ gw := gw_at 980 (by decide +kernel) rfl
theorem wx_981 : Cond.selects RX3 yX3_bestLayer yX3_bestLayer ∈ gw := gw_at 981 (by decide +kernel) rfl
theorem wx_982 : Cond.code yX3_bestLayer cX3_bestLayer 8 (some .int) ∈ gw := gw_at 982 (by decide +kernel) rfl
theorem wm_RX10_293 : Cond.methodLink RX10 293 yX3_bestLayer ∈ gw ∧ Cond.instanceMethod yX3_bestLayer ∈ gw ∧ Cond.selects RX3 yX3_bestLayer yX3_bestLayer ∈ gw ∧ Cond.initialized RX3 ∈ gw ∧ Cond.code yX3_bestLayer cX3_bestLayer 8 (some .int) ∈ gw := ⟨gw_at 979 (by decide +kernel) rfl, wx_980, wx_981, wx_122, wx_982⟩
theorem wx_997 : Cond.instanceMethod yX6_alike ∈ gw := gw_at 997 (by decide +kernel) rfl
theorem wx_998 : Cond.selects RX6 yX6_alike yX6_alike ∈ gw := gw_at 998 (by decide +kernel) rfl
theorem wx_999 : Cond.code yX6_alike cX6_alike 4 (some .boolean) ∈ gw := gw_at 999 (by decide +kernel) rfl
theorem wm_RX10_296 : Cond.methodLink RX10 296 yX6_alike ∈ gw ∧ Cond.instanceMethod yX6_alike ∈ gw ∧ Cond.selects RX6 yX6_alike yX6_alike ∈ gw ∧ Cond.initialized RX6 ∈ gw ∧ Cond.code yX6_alike cX6_alike 4 (some .boolean) ∈ gw := ⟨gw_at 996 (by decide +kernel) rfl, wx_997, wx_998, wx_118, wx_999⟩
theorem wx_1010 : Cond.instanceMethod yX7_write ∈ gw := gw_at 1010 (by decide +kernel) rfl
theorem wx_1011 : Cond.selects RX7 yX7_write yX7_write ∈ gw := gw_at 1011 (by decide +kernel) rfl
theorem wx_124 : Cond.initialized RX7 ∈ gw := gw_at 124 (by decide +kernel) rfl
theorem wx_1012 : Cond.code yX7_write cX7_write 7 (none) ∈ gw := gw_at 1012 (by decide +kernel) rfl
theorem wm_RX10_304 : Cond.methodLink RX10 304 yX7_write ∈ gw ∧ Cond.instanceMethod yX7_write ∈ gw ∧ Cond.selects RX7 yX7_write yX7_write ∈ gw ∧ Cond.initialized RX7 ∈ gw ∧ Cond.code yX7_write cX7_write 7 (none) ∈ gw := ⟨gw_at 1009 (by decide +kernel) rfl, wx_1010, wx_1011, wx_124, wx_1012⟩
theorem wx_1038 : Cond.instanceMethod yX6_letDrawnDaysGo ∈ gw := gw_at 1038 (by decide +kernel) rfl
theorem wx_1039 : Cond.selects RX6 yX6_letDrawnDaysGo yX6_letDrawnDaysGo ∈ gw := gw_at 1039 (by decide +kernel) rfl
theorem wx_1040 : Cond.code yX6_letDrawnDaysGo cX6_letDrawnDaysGo 6 (none) ∈ gw := gw_at 1040 (by decide +kernel) rfl
theorem wm_RX10_312 : Cond.methodLink RX10 312 yX6_letDrawnDaysGo ∈ gw ∧ Cond.instanceMethod yX6_letDrawnDaysGo ∈ gw ∧ Cond.selects RX6 yX6_letDrawnDaysGo yX6_letDrawnDaysGo ∈ gw ∧ Cond.initialized RX6 ∈ gw ∧ Cond.code yX6_letDrawnDaysGo cX6_letDrawnDaysGo 6 (none) ∈ gw := ⟨gw_at 1037 (by decide +kernel) rfl, wx_1038, wx_1039, wx_118, wx_1040⟩
theorem wx_1064 : Cond.instanceMethod yX0_readFrom ∈ gw := gw_at 1064 (by decide +kernel) rfl
theorem wx_1065 : Cond.selects RX0 yX0_readFrom yX0_readFrom ∈ gw := gw_at 1065 (by decide +kernel) rfl
theorem wx_123 : Cond.initialized RX0 ∈ gw := gw_at 123 (by decide +kernel) rfl
theorem wx_1066 : Cond.code yX0_readFrom cX0_readFrom 5 (none) ∈ gw := gw_at 1066 (by decide +kernel) rfl
theorem wm_RX10_315 : Cond.methodLink RX10 315 yX0_readFrom ∈ gw ∧ Cond.instanceMethod yX0_readFrom ∈ gw ∧ Cond.selects RX0 yX0_readFrom yX0_readFrom ∈ gw ∧ Cond.initialized RX0 ∈ gw ∧ Cond.code yX0_readFrom cX0_readFrom 5 (none) ∈ gw := ⟨gw_at 1063 (by decide +kernel) rfl, wx_1064, wx_1065, wx_123, wx_1066⟩
theorem wx_1101 : Cond.instanceMethod yX0_live ∈ gw := gw_at 1101 (by decide +kernel) rfl
theorem wx_1102 : Cond.selects RX0 yX0_live yX0_live ∈ gw := gw_at 1102 (by decide +kernel) rfl
theorem wx_1103 : Cond.code yX0_live cX0_live 4 (none) ∈ gw := gw_at 1103 (by decide +kernel) rfl
theorem wm_RX10_318 : Cond.methodLink RX10 318 yX0_live ∈ gw ∧ Cond.instanceMethod yX0_live ∈ gw ∧ Cond.selects RX0 yX0_live yX0_live ∈ gw ∧ Cond.initialized RX0 ∈ gw ∧ Cond.code yX0_live cX0_live 4 (none) ∈ gw := ⟨gw_at 1100 (by decide +kernel) rfl, wx_1101, wx_1102, wx_123, wx_1103⟩
theorem wx_1143 : Cond.instanceMethod yX5_readFrom ∈ gw := gw_at 1143 (by decide +kernel) rfl
theorem wx_1144 : Cond.selects RX5 yX5_readFrom yX5_readFrom ∈ gw := gw_at 1144 (by decide +kernel) rfl
theorem wx_1145 : Cond.code yX5_readFrom cX5_readFrom 3 (none) ∈ gw := gw_at 1145 (by decide +kernel) rfl
theorem wm_RX10_338 : Cond.methodLink RX10 338 yX5_readFrom ∈ gw ∧ Cond.instanceMethod yX5_readFrom ∈ gw ∧ Cond.selects RX5 yX5_readFrom yX5_readFrom ∈ gw ∧ Cond.initialized RX5 ∈ gw ∧ Cond.code yX5_readFrom cX5_readFrom 3 (none) ∈ gw := ⟨gw_at 1142 (by decide +kernel) rfl, wx_1143, wx_1144, wx_119, wx_1145⟩
theorem wx_1198 : Cond.instanceMethod yX5_copyFrom ∈ gw := gw_at 1198 (by decide +kernel) rfl
theorem wx_1199 : Cond.selects RX5 yX5_copyFrom yX5_copyFrom ∈ gw := gw_at 1199 (by decide +kernel) rfl
theorem wx_1200 : Cond.code yX5_copyFrom cX5_copyFrom 3 (none) ∈ gw := gw_at 1200 (by decide +kernel) rfl
theorem wm_RX10_339 : Cond.methodLink RX10 339 yX5_copyFrom ∈ gw ∧ Cond.instanceMethod yX5_copyFrom ∈ gw ∧ Cond.selects RX5 yX5_copyFrom yX5_copyFrom ∈ gw ∧ Cond.initialized RX5 ∈ gw ∧ Cond.code yX5_copyFrom cX5_copyFrom 3 (none) ∈ gw := ⟨gw_at 1197 (by decide +kernel) rfl, wx_1198, wx_1199, wx_119, wx_1200⟩
theorem wx_1207 : Cond.instanceMethod yX5_isTrueOf ∈ gw := gw_at 1207 (by decide +kernel) rfl
theorem wx_1208 : Cond.selects RX5 yX5_isTrueOf yX5_isTrueOf ∈ gw := gw_at 1208 (by decide +kernel) rfl
theorem wx_1209 : Cond.code yX5_isTrueOf cX5_isTrueOf 7 (some .boolean) ∈ gw := gw_at 1209 (by decide +kernel) rfl
theorem wm_RX10_345 : Cond.methodLink RX10 345 yX5_isTrueOf ∈ gw ∧ Cond.instanceMethod yX5_isTrueOf ∈ gw ∧ Cond.selects RX5 yX5_isTrueOf yX5_isTrueOf ∈ gw ∧ Cond.initialized RX5 ∈ gw ∧ Cond.code yX5_isTrueOf cX5_isTrueOf 7 (some .boolean) ∈ gw := ⟨gw_at 1206 (by decide +kernel) rfl, wx_1207, wx_1208, wx_119, wx_1209⟩
theorem wx_1229 : Cond.instanceMethod yX1_keep ∈ gw := gw_at 1229 (by decide +kernel) rfl
theorem wx_1230 : Cond.selects RX1 yX1_keep yX1_keep ∈ gw := gw_at 1230 (by decide +kernel) rfl
theorem wx_121 : Cond.initialized RX1 ∈ gw := gw_at 121 (by decide +kernel) rfl
theorem wx_1231 : Cond.code yX1_keep cX1_keep 4 (none) ∈ gw := gw_at 1231 (by decide +kernel) rfl
theorem wm_RX10_349 : Cond.methodLink RX10 349 yX1_keep ∈ gw ∧ Cond.instanceMethod yX1_keep ∈ gw ∧ Cond.selects RX1 yX1_keep yX1_keep ∈ gw ∧ Cond.initialized RX1 ∈ gw ∧ Cond.code yX1_keep cX1_keep 4 (none) ∈ gw := ⟨gw_at 1228 (by decide +kernel) rfl, wx_1229, wx_1230, wx_121, wx_1231⟩
theorem wx_1240 : Cond.instanceMethod yX1_bringBack ∈ gw := gw_at 1240 (by decide +kernel) rfl
theorem wx_1241 : Cond.selects RX1 yX1_bringBack yX1_bringBack ∈ gw := gw_at 1241 (by decide +kernel) rfl
theorem wx_1242 : Cond.code yX1_bringBack cX1_bringBack 4 (none) ∈ gw := gw_at 1242 (by decide +kernel) rfl
theorem wm_RX10_355 : Cond.methodLink RX10 355 yX1_bringBack ∈ gw ∧ Cond.instanceMethod yX1_bringBack ∈ gw ∧ Cond.selects RX1 yX1_bringBack yX1_bringBack ∈ gw ∧ Cond.initialized RX1 ∈ gw ∧ Cond.code yX1_bringBack cX1_bringBack 4 (none) ∈ gw := ⟨gw_at 1239 (by decide +kernel) rfl, wx_1240, wx_1241, wx_121, wx_1242⟩
theorem wx_587 : Cond.instanceMethod yX8_open ∈ gw := gw_at 587 (by decide +kernel) rfl
theorem wx_588 : Cond.selects RX8 yX8_open yX8_open ∈ gw := gw_at 588 (by decide +kernel) rfl
theorem wx_589 : Cond.code yX8_open cX8_open 2 (none) ∈ gw := gw_at 589 (by decide +kernel) rfl
theorem wm_RX0_28 : Cond.methodLink RX0 28 yX8_open ∈ gw ∧ Cond.instanceMethod yX8_open ∈ gw ∧ Cond.selects RX8 yX8_open yX8_open ∈ gw ∧ Cond.initialized RX8 ∈ gw ∧ Cond.code yX8_open cX8_open 2 (none) ∈ gw := ⟨gw_at 1067 (by decide +kernel) rfl, wx_587, wx_588, wx_116, wx_589⟩
theorem wx_1070 : Cond.instanceMethod yX0_readLine ∈ gw := gw_at 1070 (by decide +kernel) rfl
theorem wx_28 : Cond.selects RX0 yX0_readLine yX0_readLine ∈ gw := gw_at 28 (by decide +kernel) rfl
theorem wx_1071 : Cond.code yX0_readLine cX0_readLine 6 (some .boolean) ∈ gw := gw_at 1071 (by decide +kernel) rfl
theorem wm_RX0_37 : Cond.methodLink RX0 37 yX0_readLine ∈ gw ∧ Cond.instanceMethod yX0_readLine ∈ gw ∧ Cond.selects RX0 yX0_readLine yX0_readLine ∈ gw ∧ Cond.initialized RX0 ∈ gw ∧ Cond.code yX0_readLine cX0_readLine 6 (some .boolean) ∈ gw := ⟨gw_at 1068 (by decide +kernel) rfl, wx_1070, wx_28, wx_123, wx_1071⟩
theorem wx_691 : Cond.instanceMethod yX8_takeSign ∈ gw := gw_at 691 (by decide +kernel) rfl
theorem wx_692 : Cond.selects RX8 yX8_takeSign yX8_takeSign ∈ gw := gw_at 692 (by decide +kernel) rfl
theorem wx_693 : Cond.code yX8_takeSign cX8_takeSign 2 (some .boolean) ∈ gw := gw_at 693 (by decide +kernel) rfl
theorem wm_RX0_41 : Cond.methodLink RX0 41 yX8_takeSign ∈ gw ∧ Cond.instanceMethod yX8_takeSign ∈ gw ∧ Cond.selects RX8 yX8_takeSign yX8_takeSign ∈ gw ∧ Cond.initialized RX8 ∈ gw ∧ Cond.code yX8_takeSign cX8_takeSign 2 (some .boolean) ∈ gw := ⟨gw_at 1099 (by decide +kernel) rfl, wx_691, wx_692, wx_116, wx_693⟩
theorem wx_654 : Cond.instanceMethod yX8_findName ∈ gw := gw_at 654 (by decide +kernel) rfl
theorem wx_655 : Cond.selects RX8 yX8_findName yX8_findName ∈ gw := gw_at 655 (by decide +kernel) rfl
theorem wx_656 : Cond.code yX8_findName cX8_findName 4 (some .int) ∈ gw := gw_at 656 (by decide +kernel) rfl
theorem wm_RX0_64 : Cond.methodLink RX0 64 yX8_findName ∈ gw ∧ Cond.instanceMethod yX8_findName ∈ gw ∧ Cond.selects RX8 yX8_findName yX8_findName ∈ gw ∧ Cond.initialized RX8 ∈ gw ∧ Cond.code yX8_findName cX8_findName 4 (some .int) ∈ gw := ⟨gw_at 1076 (by decide +kernel) rfl, wx_654, wx_655, wx_116, wx_656⟩
theorem wx_620 : Cond.instanceMethod yX8_refuse ∈ gw := gw_at 620 (by decide +kernel) rfl
theorem wx_621 : Cond.selects RX8 yX8_refuse yX8_refuse ∈ gw := gw_at 621 (by decide +kernel) rfl
theorem wx_622 : Cond.code yX8_refuse cX8_refuse 2 (some .boolean) ∈ gw := gw_at 622 (by decide +kernel) rfl
theorem wm_RX0_68 : Cond.methodLink RX0 68 yX8_refuse ∈ gw ∧ Cond.instanceMethod yX8_refuse ∈ gw ∧ Cond.selects RX8 yX8_refuse yX8_refuse ∈ gw ∧ Cond.initialized RX8 ∈ gw ∧ Cond.code yX8_refuse cX8_refuse 2 (some .boolean) ∈ gw := ⟨gw_at 1077 (by decide +kernel) rfl, wx_620, wx_621, wx_116, wx_622⟩
theorem wx_591 : Cond.instanceMethod yX8_advance ∈ gw := gw_at 591 (by decide +kernel) rfl
theorem wx_592 : Cond.selects RX8 yX8_advance yX8_advance ∈ gw := gw_at 592 (by decide +kernel) rfl
theorem wx_593 : Cond.code yX8_advance cX8_advance 3 (none) ∈ gw := gw_at 593 (by decide +kernel) rfl
theorem wm_RX0_71 : Cond.methodLink RX0 71 yX8_advance ∈ gw ∧ Cond.instanceMethod yX8_advance ∈ gw ∧ Cond.selects RX8 yX8_advance yX8_advance ∈ gw ∧ Cond.initialized RX8 ∈ gw ∧ Cond.code yX8_advance cX8_advance 3 (none) ∈ gw := ⟨gw_at 1078 (by decide +kernel) rfl, wx_591, wx_592, wx_116, wx_593⟩
theorem wx_1081 : Cond.instanceMethod yX0_readStuffing ∈ gw := gw_at 1081 (by decide +kernel) rfl
theorem wx_29 : Cond.selects RX0 yX0_readStuffing yX0_readStuffing ∈ gw := gw_at 29 (by decide +kernel) rfl
theorem wx_1082 : Cond.code yX0_readStuffing cX0_readStuffing 4 (some .boolean) ∈ gw := gw_at 1082 (by decide +kernel) rfl
theorem wm_RX0_74 : Cond.methodLink RX0 74 yX0_readStuffing ∈ gw ∧ Cond.instanceMethod yX0_readStuffing ∈ gw ∧ Cond.selects RX0 yX0_readStuffing yX0_readStuffing ∈ gw ∧ Cond.initialized RX0 ∈ gw ∧ Cond.code yX0_readStuffing cX0_readStuffing 4 (some .boolean) ∈ gw := ⟨gw_at 1079 (by decide +kernel) rfl, wx_1081, wx_29, wx_123, wx_1082⟩
theorem wx_637 : Cond.instanceMethod yX8_takeNumber ∈ gw := gw_at 637 (by decide +kernel) rfl
theorem wx_638 : Cond.selects RX8 yX8_takeNumber yX8_takeNumber ∈ gw := gw_at 638 (by decide +kernel) rfl
theorem wx_639 : Cond.code yX8_takeNumber cX8_takeNumber 4 (some .int) ∈ gw := gw_at 639 (by decide +kernel) rfl
theorem wm_RX0_77 : Cond.methodLink RX0 77 yX8_takeNumber ∈ gw ∧ Cond.instanceMethod yX8_takeNumber ∈ gw ∧ Cond.selects RX8 yX8_takeNumber yX8_takeNumber ∈ gw ∧ Cond.initialized RX8 ∈ gw ∧ Cond.code yX8_takeNumber cX8_takeNumber 4 (some .int) ∈ gw := ⟨gw_at 1088 (by decide +kernel) rfl, wx_637, wx_638, wx_116, wx_639⟩
theorem wx_1086 : Cond.instanceMethod yX0_addLine ∈ gw := gw_at 1086 (by decide +kernel) rfl
theorem wx_30 : Cond.selects RX0 yX0_addLine yX0_addLine ∈ gw := gw_at 30 (by decide +kernel) rfl
theorem wx_1087 : Cond.code yX0_addLine cX0_addLine 4 (some .boolean) ∈ gw := gw_at 1087 (by decide +kernel) rfl
theorem wm_RX0_81 : Cond.methodLink RX0 81 yX0_addLine ∈ gw ∧ Cond.instanceMethod yX0_addLine ∈ gw ∧ Cond.selects RX0 yX0_addLine yX0_addLine ∈ gw ∧ Cond.initialized RX0 ∈ gw ∧ Cond.code yX0_addLine cX0_addLine 4 (some .boolean) ∈ gw := ⟨gw_at 1084 (by decide +kernel) rfl, wx_1086, wx_30, wx_123, wx_1087⟩
theorem wx_1091 : Cond.instanceMethod yX0_readOfPerson ∈ gw := gw_at 1091 (by decide +kernel) rfl
theorem wx_31 : Cond.selects RX0 yX0_readOfPerson yX0_readOfPerson ∈ gw := gw_at 31 (by decide +kernel) rfl
theorem wx_1092 : Cond.code yX0_readOfPerson cX0_readOfPerson 5 (some .boolean) ∈ gw := gw_at 1092 (by decide +kernel) rfl
theorem wm_RX0_85 : Cond.methodLink RX0 85 yX0_readOfPerson ∈ gw ∧ Cond.instanceMethod yX0_readOfPerson ∈ gw ∧ Cond.selects RX0 yX0_readOfPerson yX0_readOfPerson ∈ gw ∧ Cond.initialized RX0 ∈ gw ∧ Cond.code yX0_readOfPerson cX0_readOfPerson 5 (some .boolean) ∈ gw := ⟨gw_at 1089 (by decide +kernel) rfl, wx_1091, wx_31, wx_123, wx_1092⟩
theorem wx_664 : Cond.instanceMethod yX8_takeName ∈ gw := gw_at 664 (by decide +kernel) rfl
theorem wx_665 : Cond.selects RX8 yX8_takeName yX8_takeName ∈ gw := gw_at 665 (by decide +kernel) rfl
theorem wx_666 : Cond.code yX8_takeName cX8_takeName 4 (some .int) ∈ gw := gw_at 666 (by decide +kernel) rfl
theorem wm_RX0_95 : Cond.methodLink RX0 95 yX8_takeName ∈ gw ∧ Cond.instanceMethod yX8_takeName ∈ gw ∧ Cond.selects RX8 yX8_takeName yX8_takeName ∈ gw ∧ Cond.initialized RX8 ∈ gw ∧ Cond.code yX8_takeName cX8_takeName 4 (some .int) ∈ gw := ⟨gw_at 1083 (by decide +kernel) rfl, wx_664, wx_665, wx_116, wx_666⟩
theorem wx_1106 : Cond.instanceMethod yX0_liveLine ∈ gw := gw_at 1106 (by decide +kernel) rfl
theorem wx_32 : Cond.selects RX0 yX0_liveLine yX0_liveLine ∈ gw := gw_at 32 (by decide +kernel) rfl
theorem wx_1107 : Cond.code yX0_liveLine cX0_liveLine 6 (some .int) ∈ gw := gw_at 1107 (by decide +kernel) rfl
theorem wm_RX0_119 : Cond.methodLink RX0 119 yX0_liveLine ∈ gw ∧ Cond.instanceMethod yX0_liveLine ∈ gw ∧ Cond.selects RX0 yX0_liveLine yX0_liveLine ∈ gw ∧ Cond.initialized RX0 ∈ gw ∧ Cond.code yX0_liveLine cX0_liveLine 6 (some .int) ∈ gw := ⟨gw_at 1104 (by decide +kernel) rfl, wx_1106, wx_32, wx_123, wx_1107⟩
theorem wx_1110 : Cond.instanceMethod yX0_liveStroke ∈ gw := gw_at 1110 (by decide +kernel) rfl
theorem wx_33 : Cond.selects RX0 yX0_liveStroke yX0_liveStroke ∈ gw := gw_at 33 (by decide +kernel) rfl
theorem wx_1111 : Cond.code yX0_liveStroke cX0_liveStroke 6 (some .int) ∈ gw := gw_at 1111 (by decide +kernel) rfl
theorem wm_RX0_141 : Cond.methodLink RX0 141 yX0_liveStroke ∈ gw ∧ Cond.instanceMethod yX0_liveStroke ∈ gw ∧ Cond.selects RX0 yX0_liveStroke yX0_liveStroke ∈ gw ∧ Cond.initialized RX0 ∈ gw ∧ Cond.code yX0_liveStroke cX0_liveStroke 6 (some .int) ∈ gw := ⟨gw_at 1108 (by decide +kernel) rfl, wx_1110, wx_33, wx_123, wx_1111⟩
theorem wx_1116 : Cond.instanceMethod yX0_liveCut ∈ gw := gw_at 1116 (by decide +kernel) rfl
theorem wx_34 : Cond.selects RX0 yX0_liveCut yX0_liveCut ∈ gw := gw_at 34 (by decide +kernel) rfl
theorem wx_1117 : Cond.code yX0_liveCut cX0_liveCut 4 (some .int) ∈ gw := gw_at 1117 (by decide +kernel) rfl
theorem wm_RX0_145 : Cond.methodLink RX0 145 yX0_liveCut ∈ gw ∧ Cond.instanceMethod yX0_liveCut ∈ gw ∧ Cond.selects RX0 yX0_liveCut yX0_liveCut ∈ gw ∧ Cond.initialized RX0 ∈ gw ∧ Cond.code yX0_liveCut cX0_liveCut 4 (some .int) ∈ gw := ⟨gw_at 1114 (by decide +kernel) rfl, wx_1116, wx_34, wx_123, wx_1117⟩
theorem wx_1122 : Cond.instanceMethod yX0_liveCatch ∈ gw := gw_at 1122 (by decide +kernel) rfl
theorem wx_35 : Cond.selects RX0 yX0_liveCatch yX0_liveCatch ∈ gw := gw_at 35 (by decide +kernel) rfl
theorem wx_1123 : Cond.code yX0_liveCatch cX0_liveCatch 5 (some .int) ∈ gw := gw_at 1123 (by decide +kernel) rfl
theorem wm_RX0_149 : Cond.methodLink RX0 149 yX0_liveCatch ∈ gw ∧ Cond.instanceMethod yX0_liveCatch ∈ gw ∧ Cond.selects RX0 yX0_liveCatch yX0_liveCatch ∈ gw ∧ Cond.initialized RX0 ∈ gw ∧ Cond.code yX0_liveCatch cX0_liveCatch 5 (some .int) ∈ gw := ⟨gw_at 1120 (by decide +kernel) rfl, wx_1122, wx_35, wx_123, wx_1123⟩
theorem wx_1128 : Cond.instanceMethod yX0_liveStuffing ∈ gw := gw_at 1128 (by decide +kernel) rfl
theorem wx_36 : Cond.selects RX0 yX0_liveStuffing yX0_liveStuffing ∈ gw := gw_at 36 (by decide +kernel) rfl
theorem wx_1129 : Cond.code yX0_liveStuffing cX0_liveStuffing 6 (some .int) ∈ gw := gw_at 1129 (by decide +kernel) rfl
theorem wm_RX0_153 : Cond.methodLink RX0 153 yX0_liveStuffing ∈ gw ∧ Cond.instanceMethod yX0_liveStuffing ∈ gw ∧ Cond.selects RX0 yX0_liveStuffing yX0_liveStuffing ∈ gw ∧ Cond.initialized RX0 ∈ gw ∧ Cond.code yX0_liveStuffing cX0_liveStuffing 6 (some .int) ∈ gw := ⟨gw_at 1126 (by decide +kernel) rfl, wx_1128, wx_36, wx_123, wx_1129⟩
theorem wm_RX0_156 : Cond.methodLink RX0 156 yX6_daysLeft ∈ gw ∧ Cond.instanceMethod yX6_daysLeft ∈ gw ∧ Cond.selects RX6 yX6_daysLeft yX6_daysLeft ∈ gw ∧ Cond.initialized RX6 ∈ gw ∧ Cond.code yX6_daysLeft cX6_daysLeft 1 (some .int) ∈ gw := ⟨gw_at 1132 (by decide +kernel) rfl, wx_854, wx_855, wx_118, wx_856⟩
theorem wm_RX0_160 : Cond.methodLink RX0 160 yX6_letDaysGo ∈ gw ∧ Cond.instanceMethod yX6_letDaysGo ∈ gw ∧ Cond.selects RX6 yX6_letDaysGo yX6_letDaysGo ∈ gw ∧ Cond.initialized RX6 ∈ gw ∧ Cond.code yX6_letDaysGo cX6_letDaysGo 4 (none) ∈ gw := ⟨gw_at 1133 (by decide +kernel) rfl, wx_859, wx_860, wx_118, wx_861⟩
theorem wm_RX0_164 : Cond.methodLink RX0 164 yX6_whyNoStroke ∈ gw ∧ Cond.instanceMethod yX6_whyNoStroke ∈ gw ∧ Cond.selects RX6 yX6_whyNoStroke yX6_whyNoStroke ∈ gw ∧ Cond.initialized RX6 ∈ gw ∧ Cond.code yX6_whyNoStroke cX6_whyNoStroke 4 (some .int) ∈ gw := ⟨gw_at 1112 (by decide +kernel) rfl, wx_782, wx_783, wx_118, wx_784⟩
theorem wm_RX0_168 : Cond.methodLink RX0 168 yX6_comb ∈ gw ∧ Cond.instanceMethod yX6_comb ∈ gw ∧ Cond.selects RX6 yX6_comb yX6_comb ∈ gw ∧ Cond.initialized RX6 ∈ gw ∧ Cond.code yX6_comb cX6_comb 6 (none) ∈ gw := ⟨gw_at 1113 (by decide +kernel) rfl, wx_804, wx_805, wx_118, wx_806⟩
theorem wm_RX0_172 : Cond.methodLink RX0 172 yX6_whyNoCut ∈ gw ∧ Cond.instanceMethod yX6_whyNoCut ∈ gw ∧ Cond.selects RX6 yX6_whyNoCut yX6_whyNoCut ∈ gw ∧ Cond.initialized RX6 ∈ gw ∧ Cond.code yX6_whyNoCut cX6_whyNoCut 2 (some .int) ∈ gw := ⟨gw_at 1118 (by decide +kernel) rfl, wx_821, wx_822, wx_118, wx_823⟩
theorem wm_RX0_176 : Cond.methodLink RX0 176 yX6_cutOff ∈ gw ∧ Cond.instanceMethod yX6_cutOff ∈ gw ∧ Cond.selects RX6 yX6_cutOff yX6_cutOff ∈ gw ∧ Cond.initialized RX6 ∈ gw ∧ Cond.code yX6_cutOff cX6_cutOff 3 (none) ∈ gw := ⟨gw_at 1119 (by decide +kernel) rfl, wx_825, wx_826, wx_118, wx_827⟩
theorem wm_RX0_179 : Cond.methodLink RX0 179 yX6_whyNoCatch ∈ gw ∧ Cond.instanceMethod yX6_whyNoCatch ∈ gw ∧ Cond.selects RX6 yX6_whyNoCatch yX6_whyNoCatch ∈ gw ∧ Cond.initialized RX6 ∈ gw ∧ Cond.code yX6_whyNoCatch cX6_whyNoCatch 2 (some .int) ∈ gw := ⟨gw_at 1124 (by decide +kernel) rfl, wx_833, wx_834, wx_118, wx_835⟩
theorem wm_RX0_182 : Cond.methodLink RX0 182 yX6_catchThing ∈ gw ∧ Cond.instanceMethod yX6_catchThing ∈ gw ∧ Cond.selects RX6 yX6_catchThing yX6_catchThing ∈ gw ∧ Cond.initialized RX6 ∈ gw ∧ Cond.code yX6_catchThing cX6_catchThing 3 (none) ∈ gw := ⟨gw_at 1125 (by decide +kernel) rfl, wx_669, wx_670, wx_118, wx_671⟩
theorem wm_RX0_186 : Cond.methodLink RX0 186 yX6_whyNoStuffing ∈ gw ∧ Cond.instanceMethod yX6_whyNoStuffing ∈ gw ∧ Cond.selects RX6 yX6_whyNoStuffing yX6_whyNoStuffing ∈ gw ∧ Cond.initialized RX6 ∈ gw ∧ Cond.code yX6_whyNoStuffing cX6_whyNoStuffing 2 (some .int) ∈ gw := ⟨gw_at 1130 (by decide +kernel) rfl, wx_842, wx_843, wx_118, wx_844⟩
theorem wm_RX0_189 : Cond.methodLink RX0 189 yX6_fillBed ∈ gw ∧ Cond.instanceMethod yX6_fillBed ∈ gw ∧ Cond.selects RX6 yX6_fillBed yX6_fillBed ∈ gw ∧ Cond.initialized RX6 ∈ gw ∧ Cond.code yX6_fillBed cX6_fillBed 4 (none) ∈ gw := ⟨gw_at 1131 (by decide +kernel) rfl, wx_846, wx_847, wx_118, wx_848⟩
theorem wm_RX1_30 : Cond.methodLink RX1 30 yX4_copyFrom ∈ gw ∧ Cond.instanceMethod yX4_copyFrom ∈ gw ∧ Cond.selects RX4 yX4_copyFrom yX4_copyFrom ∈ gw ∧ Cond.initialized RX4 ∈ gw ∧ Cond.code yX4_copyFrom cX4_copyFrom 2 (none) ∈ gw := ⟨gw_at 1232 (by decide +kernel) rfl, wx_695, wx_696, wx_117, wx_697⟩
theorem wm_RX1_34 : Cond.methodLink RX1 34 yX6_copyFrom ∈ gw ∧ Cond.instanceMethod yX6_copyFrom ∈ gw ∧ Cond.selects RX6 yX6_copyFrom yX6_copyFrom ∈ gw ∧ Cond.initialized RX6 ∈ gw ∧ Cond.code yX6_copyFrom cX6_copyFrom 2 (none) ∈ gw := ⟨gw_at 1233 (by decide +kernel) rfl, wx_702, wx_703, wx_118, wx_704⟩
theorem wm_RX1_37 : Cond.methodLink RX1 37 yX5_copyFrom ∈ gw ∧ Cond.instanceMethod yX5_copyFrom ∈ gw ∧ Cond.selects RX5 yX5_copyFrom yX5_copyFrom ∈ gw ∧ Cond.initialized RX5 ∈ gw ∧ Cond.code yX5_copyFrom cX5_copyFrom 3 (none) ∈ gw := ⟨gw_at 1234 (by decide +kernel) rfl, wx_1198, wx_1199, wx_119, wx_1200⟩
theorem wm_RX2_22 : Cond.methodLink RX2 22 yX6_copyFrom ∈ gw ∧ Cond.instanceMethod yX6_copyFrom ∈ gw ∧ Cond.selects RX6 yX6_copyFrom yX6_copyFrom ∈ gw ∧ Cond.initialized RX6 ∈ gw ∧ Cond.code yX6_copyFrom cX6_copyFrom 2 (none) ∈ gw := ⟨gw_at 801 (by decide +kernel) rfl, wx_702, wx_703, wx_118, wx_704⟩
theorem wm_RX2_29 : Cond.methodLink RX2 29 Lib.Math.min.name ∈ gw ∧ Cond.static Lib.Math.min.name ∈ gw ∧ Cond.initialized "java/lang/Math" ∈ gw ∧ Cond.code Lib.Math.min.name Lib.Math.min.code 2 (some .int) ∈ gw := ⟨gw_at 802 (by decide +kernel) rfl, gw_at 595 (by decide +kernel) rfl, gw_at 126 (by decide +kernel) rfl, gw_at 596 (by decide +kernel) rfl⟩
theorem wm_RX3_24 : Cond.methodLink RX3 24 yX6_allHolds ∈ gw ∧ Cond.instanceMethod yX6_allHolds ∈ gw ∧ Cond.selects RX6 yX6_allHolds yX6_allHolds ∈ gw ∧ Cond.initialized RX6 ∈ gw ∧ Cond.code yX6_allHolds cX6_allHolds 5 (some .int) ∈ gw := ⟨gw_at 887 (by decide +kernel) rfl, wx_888, wx_889, wx_118, wx_890⟩
theorem wx_790 : Cond.instanceMethod yX6_knotBelow ∈ gw := gw_at 790 (by decide +kernel) rfl
theorem wx_791 : Cond.selects RX6 yX6_knotBelow yX6_knotBelow ∈ gw := gw_at 791 (by decide +kernel) rfl
theorem wx_792 : Cond.code yX6_knotBelow cX6_knotBelow 5 (some .int) ∈ gw := gw_at 792 (by decide +kernel) rfl
theorem wm_RX3_41 : Cond.methodLink RX3 41 yX6_knotBelow ∈ gw ∧ Cond.instanceMethod yX6_knotBelow ∈ gw ∧ Cond.selects RX6 yX6_knotBelow yX6_knotBelow ∈ gw ∧ Cond.initialized RX6 ∈ gw ∧ Cond.code yX6_knotBelow cX6_knotBelow 5 (some .int) ∈ gw := ⟨gw_at 891 (by decide +kernel) rfl, wx_790, wx_791, wx_118, wx_792⟩
theorem wx_794 : Cond.instanceMethod yX6_holdAt ∈ gw := gw_at 794 (by decide +kernel) rfl
theorem wx_795 : Cond.selects RX6 yX6_holdAt yX6_holdAt ∈ gw := gw_at 795 (by decide +kernel) rfl
theorem wx_796 : Cond.code yX6_holdAt cX6_holdAt 5 (some .int) ∈ gw := gw_at 796 (by decide +kernel) rfl
theorem wm_RX3_45 : Cond.methodLink RX3 45 yX6_holdAt ∈ gw ∧ Cond.instanceMethod yX6_holdAt ∈ gw ∧ Cond.selects RX6 yX6_holdAt yX6_holdAt ∈ gw ∧ Cond.initialized RX6 ∈ gw ∧ Cond.code yX6_holdAt cX6_holdAt 5 (some .int) ∈ gw := ⟨gw_at 892 (by decide +kernel) rfl, wx_794, wx_795, wx_118, wx_796⟩
theorem wx_903 : Cond.instanceMethod yX3_caughtOn ∈ gw := gw_at 903 (by decide +kernel) rfl
theorem wx_14 : Cond.selects RX3 yX3_caughtOn yX3_caughtOn ∈ gw := gw_at 14 (by decide +kernel) rfl
theorem wx_904 : Cond.code yX3_caughtOn cX3_caughtOn 6 (some .int) ∈ gw := gw_at 904 (by decide +kernel) rfl
theorem wm_RX3_56 : Cond.methodLink RX3 56 yX3_caughtOn ∈ gw ∧ Cond.instanceMethod yX3_caughtOn ∈ gw ∧ Cond.selects RX3 yX3_caughtOn yX3_caughtOn ∈ gw ∧ Cond.initialized RX3 ∈ gw ∧ Cond.code yX3_caughtOn cX3_caughtOn 6 (some .int) ∈ gw := ⟨gw_at 901 (by decide +kernel) rfl, wx_903, wx_14, wx_122, wx_904⟩
theorem wx_867 : Cond.instanceMethod yX4_catchesOn ∈ gw := gw_at 867 (by decide +kernel) rfl
theorem wx_868 : Cond.selects RX4 yX4_catchesOn yX4_catchesOn ∈ gw := gw_at 868 (by decide +kernel) rfl
theorem wx_869 : Cond.code yX4_catchesOn cX4_catchesOn 4 (some .boolean) ∈ gw := gw_at 869 (by decide +kernel) rfl
theorem wm_RX3_65 : Cond.methodLink RX3 65 yX4_catchesOn ∈ gw ∧ Cond.instanceMethod yX4_catchesOn ∈ gw ∧ Cond.selects RX4 yX4_catchesOn yX4_catchesOn ∈ gw ∧ Cond.initialized RX4 ∈ gw ∧ Cond.code yX4_catchesOn cX4_catchesOn 4 (some .boolean) ∈ gw := ⟨gw_at 905 (by decide +kernel) rfl, wx_867, wx_868, wx_117, wx_869⟩
theorem wm_RX3_72 : Cond.methodLink RX3 72 yX3_fewestStrokes ∈ gw ∧ Cond.instanceMethod yX3_fewestStrokes ∈ gw ∧ Cond.selects RX3 yX3_fewestStrokes yX3_fewestStrokes ∈ gw ∧ Cond.initialized RX3 ∈ gw ∧ Cond.code yX3_fewestStrokes cX3_fewestStrokes 10 (some .int) ∈ gw := ⟨gw_at 914 (by decide +kernel) rfl, wx_884, wx_885, wx_122, wx_886⟩
theorem wx_917 : Cond.instanceMethod yX3_roundCost ∈ gw := gw_at 917 (by decide +kernel) rfl
theorem wx_15 : Cond.selects RX3 yX3_roundCost yX3_roundCost ∈ gw := gw_at 15 (by decide +kernel) rfl
theorem wx_918 : Cond.code yX3_roundCost cX3_roundCost 5 (some .int) ∈ gw := gw_at 918 (by decide +kernel) rfl
theorem wm_RX3_76 : Cond.methodLink RX3 76 yX3_roundCost ∈ gw ∧ Cond.instanceMethod yX3_roundCost ∈ gw ∧ Cond.selects RX3 yX3_roundCost yX3_roundCost ∈ gw ∧ Cond.initialized RX3 ∈ gw ∧ Cond.code yX3_roundCost cX3_roundCost 5 (some .int) ∈ gw := ⟨gw_at 915 (by decide +kernel) rfl, wx_917, wx_15, wx_122, wx_918⟩
theorem wm_RX3_79 : Cond.methodLink RX3 79 yJ6_bitCount_0f7a4 ∈ gw ∧ Cond.static yJ6_bitCount_0f7a4 ∈ gw ∧ Cond.initialized yJ6_bitCount_0f7a4.cls ∈ gw ∧ Cond.code yJ6_bitCount_0f7a4 cJ6_bitCount_0f7a4 1 (some .int) ∈ gw := ⟨gw_at 919 (by decide +kernel) rfl, wx_920, wx_134, wx_921⟩
theorem wx_940 : Cond.instanceMethod yX3_listBag ∈ gw := gw_at 940 (by decide +kernel) rfl
theorem wx_16 : Cond.selects RX3 yX3_listBag yX3_listBag ∈ gw := gw_at 16 (by decide +kernel) rfl
theorem wx_941 : Cond.code yX3_listBag cX3_listBag 5 (none) ∈ gw := gw_at 941 (by decide +kernel) rfl
theorem wm_RX3_85 : Cond.methodLink RX3 85 yX3_listBag ∈ gw ∧ Cond.instanceMethod yX3_listBag ∈ gw ∧ Cond.selects RX3 yX3_listBag yX3_listBag ∈ gw ∧ Cond.initialized RX3 ∈ gw ∧ Cond.code yX3_listBag cX3_listBag 5 (none) ∈ gw := ⟨gw_at 938 (by decide +kernel) rfl, wx_940, wx_16, wx_122, wx_941⟩
theorem wm_RX3_89 : Cond.methodLink RX3 89 yX6_allSleeping ∈ gw ∧ Cond.instanceMethod yX6_allSleeping ∈ gw ∧ Cond.selects RX6 yX6_allSleeping yX6_allSleeping ∈ gw ∧ Cond.initialized RX6 ∈ gw ∧ Cond.code yX6_allSleeping cX6_allSleeping 4 (some .int) ∈ gw := ⟨gw_at 942 (by decide +kernel) rfl, wx_768, wx_769, wx_118, wx_770⟩
theorem wx_945 : Cond.instanceMethod yX3_canFill ∈ gw := gw_at 945 (by decide +kernel) rfl
theorem wx_17 : Cond.selects RX3 yX3_canFill yX3_canFill ∈ gw := gw_at 17 (by decide +kernel) rfl
theorem wx_946 : Cond.code yX3_canFill cX3_canFill 7 (some .boolean) ∈ gw := gw_at 946 (by decide +kernel) rfl
theorem wm_RX3_96 : Cond.methodLink RX3 96 yX3_canFill ∈ gw ∧ Cond.instanceMethod yX3_canFill ∈ gw ∧ Cond.selects RX3 yX3_canFill yX3_canFill ∈ gw ∧ Cond.initialized RX3 ∈ gw ∧ Cond.code yX3_canFill cX3_canFill 7 (some .boolean) ∈ gw := ⟨gw_at 943 (by decide +kernel) rfl, wx_945, wx_17, wx_122, wx_946⟩
theorem wm_RX3_118 : Cond.methodLink RX3 118 yX6_sleeps ∈ gw ∧ Cond.instanceMethod yX6_sleeps ∈ gw ∧ Cond.selects RX6 yX6_sleeps yX6_sleeps ∈ gw ∧ Cond.initialized RX6 ∈ gw ∧ Cond.code yX6_sleeps cX6_sleeps 3 (some .boolean) ∈ gw := ⟨gw_at 947 (by decide +kernel) rfl, wx_760, wx_761, wx_118, wx_762⟩
theorem wx_950 : Cond.instanceMethod yX3_mostFilled ∈ gw := gw_at 950 (by decide +kernel) rfl
theorem wx_18 : Cond.selects RX3 yX3_mostFilled yX3_mostFilled ∈ gw := gw_at 18 (by decide +kernel) rfl
theorem wx_951 : Cond.code yX3_mostFilled cX3_mostFilled 4 (some .int) ∈ gw := gw_at 951 (by decide +kernel) rfl
theorem wm_RX3_126 : Cond.methodLink RX3 126 yX3_mostFilled ∈ gw ∧ Cond.instanceMethod yX3_mostFilled ∈ gw ∧ Cond.selects RX3 yX3_mostFilled yX3_mostFilled ∈ gw ∧ Cond.initialized RX3 ∈ gw ∧ Cond.code yX3_mostFilled cX3_mostFilled 4 (some .int) ∈ gw := ⟨gw_at 948 (by decide +kernel) rfl, wx_950, wx_18, wx_122, wx_951⟩
theorem wx_954 : Cond.instanceMethod yX3_takesFirstOfLikeOnes ∈ gw := gw_at 954 (by decide +kernel) rfl
theorem wx_19 : Cond.selects RX3 yX3_takesFirstOfLikeOnes yX3_takesFirstOfLikeOnes ∈ gw := gw_at 19 (by decide +kernel) rfl
theorem wx_955 : Cond.code yX3_takesFirstOfLikeOnes cX3_takesFirstOfLikeOnes 2 (some .boolean) ∈ gw := gw_at 955 (by decide +kernel) rfl
theorem wm_RX3_129 : Cond.methodLink RX3 129 yX3_takesFirstOfLikeOnes ∈ gw ∧ Cond.instanceMethod yX3_takesFirstOfLikeOnes ∈ gw ∧ Cond.selects RX3 yX3_takesFirstOfLikeOnes yX3_takesFirstOfLikeOnes ∈ gw ∧ Cond.initialized RX3 ∈ gw ∧ Cond.code yX3_takesFirstOfLikeOnes cX3_takesFirstOfLikeOnes 2 (some .boolean) ∈ gw := ⟨gw_at 952 (by decide +kernel) rfl, wx_954, wx_19, wx_122, wx_955⟩
theorem wx_958 : Cond.instanceMethod yX3_bestFill ∈ gw := gw_at 958 (by decide +kernel) rfl
theorem wx_20 : Cond.selects RX3 yX3_bestFill yX3_bestFill ∈ gw := gw_at 20 (by decide +kernel) rfl
theorem wx_959 : Cond.code yX3_bestFill cX3_bestFill 6 (some .int) ∈ gw := gw_at 959 (by decide +kernel) rfl
theorem wm_RX3_133 : Cond.methodLink RX3 133 yX3_bestFill ∈ gw ∧ Cond.instanceMethod yX3_bestFill ∈ gw ∧ Cond.selects RX3 yX3_bestFill yX3_bestFill ∈ gw ∧ Cond.initialized RX3 ∈ gw ∧ Cond.code yX3_bestFill cX3_bestFill 6 (some .int) ∈ gw := ⟨gw_at 956 (by decide +kernel) rfl, wx_958, wx_20, wx_122, wx_959⟩
theorem wx_962 : Cond.instanceMethod yX3_fillOn ∈ gw := gw_at 962 (by decide +kernel) rfl
theorem wx_21 : Cond.selects RX3 yX3_fillOn yX3_fillOn ∈ gw := gw_at 21 (by decide +kernel) rfl
theorem wx_963 : Cond.code yX3_fillOn cX3_fillOn 6 (some .int) ∈ gw := gw_at 963 (by decide +kernel) rfl
theorem wm_RX3_136 : Cond.methodLink RX3 136 yX3_fillOn ∈ gw ∧ Cond.instanceMethod yX3_fillOn ∈ gw ∧ Cond.selects RX3 yX3_fillOn yX3_fillOn ∈ gw ∧ Cond.initialized RX3 ∈ gw ∧ Cond.code yX3_fillOn cX3_fillOn 6 (some .int) ∈ gw := ⟨gw_at 960 (by decide +kernel) rfl, wx_962, wx_21, wx_122, wx_963⟩
theorem wm_RX3_140 : Cond.methodLink RX3 140 Lib.Math.max.name ∈ gw ∧ Cond.static Lib.Math.max.name ∈ gw ∧ Cond.initialized "java/lang/Math" ∈ gw ∧ Cond.code Lib.Math.max.name Lib.Math.max.code 2 (some .int) ∈ gw := ⟨gw_at 964 (by decide +kernel) rfl, gw_at 965 (by decide +kernel) rfl, gw_at 126 (by decide +kernel) rfl, gw_at 966 (by decide +kernel) rfl⟩
theorem wx_985 : Cond.instanceMethod yX3_mostLeft ∈ gw := gw_at 985 (by decide +kernel) rfl
theorem wx_22 : Cond.selects RX3 yX3_mostLeft yX3_mostLeft ∈ gw := gw_at 22 (by decide +kernel) rfl
theorem wx_986 : Cond.code yX3_mostLeft cX3_mostLeft 10 (some .int) ∈ gw := gw_at 986 (by decide +kernel) rfl
theorem wm_RX3_145 : Cond.methodLink RX3 145 yX3_mostLeft ∈ gw ∧ Cond.instanceMethod yX3_mostLeft ∈ gw ∧ Cond.selects RX3 yX3_mostLeft yX3_mostLeft ∈ gw ∧ Cond.initialized RX3 ∈ gw ∧ Cond.code yX3_mostLeft cX3_mostLeft 10 (some .int) ∈ gw := ⟨gw_at 983 (by decide +kernel) rfl, wx_985, wx_22, wx_122, wx_986⟩
theorem wx_812 : Cond.instanceMethod yX6_layerFromOutside ∈ gw := gw_at 812 (by decide +kernel) rfl
theorem wx_813 : Cond.selects RX6 yX6_layerFromOutside yX6_layerFromOutside ∈ gw := gw_at 813 (by decide +kernel) rfl
theorem wx_814 : Cond.code yX6_layerFromOutside cX6_layerFromOutside 3 (some .int) ∈ gw := gw_at 814 (by decide +kernel) rfl
theorem wm_RX3_149 : Cond.methodLink RX3 149 yX6_layerFromOutside ∈ gw ∧ Cond.instanceMethod yX6_layerFromOutside ∈ gw ∧ Cond.selects RX6 yX6_layerFromOutside yX6_layerFromOutside ∈ gw ∧ Cond.initialized RX6 ∈ gw ∧ Cond.code yX6_layerFromOutside cX6_layerFromOutside 3 (some .int) ∈ gw := ⟨gw_at 987 (by decide +kernel) rfl, wx_812, wx_813, wx_118, wx_814⟩
theorem wm_RX4_50 : Cond.methodLink RX4 50 arraycopyName ∈ gw ∧ Cond.native arraycopyName ∈ gw ∧ Cond.static arraycopyName ∈ gw ∧ Cond.initialized "java/lang/System" ∈ gw := ⟨gw_at 698 (by decide +kernel) rfl, gw_at 700 (by decide +kernel) rfl, gw_at 699 (by decide +kernel) rfl, gw_at 129 (by decide +kernel) rfl⟩
theorem wx_583 : Cond.instanceMethod yX6_clear ∈ gw := gw_at 583 (by decide +kernel) rfl
theorem wx_584 : Cond.selects RX6 yX6_clear yX6_clear ∈ gw := gw_at 584 (by decide +kernel) rfl
theorem wx_585 : Cond.code yX6_clear cX6_clear 2 (none) ∈ gw := gw_at 585 (by decide +kernel) rfl
theorem wm_RX4_69 : Cond.methodLink RX4 69 yX6_clear ∈ gw ∧ Cond.instanceMethod yX6_clear ∈ gw ∧ Cond.selects RX6 yX6_clear yX6_clear ∈ gw ∧ Cond.initialized RX6 ∈ gw ∧ Cond.code yX6_clear cX6_clear 2 (none) ∈ gw := ⟨gw_at 582 (by decide +kernel) rfl, wx_583, wx_584, wx_118, wx_585⟩
theorem wm_RX4_74 : Cond.methodLink RX4 74 yX8_open ∈ gw ∧ Cond.instanceMethod yX8_open ∈ gw ∧ Cond.selects RX8 yX8_open yX8_open ∈ gw ∧ Cond.initialized RX8 ∈ gw ∧ Cond.code yX8_open cX8_open 2 (none) ∈ gw := ⟨gw_at 586 (by decide +kernel) rfl, wx_587, wx_588, wx_116, wx_589⟩
theorem wx_611 : Cond.instanceMethod yX4_readLine ∈ gw := gw_at 611 (by decide +kernel) rfl
theorem wx_1 : Cond.selects RX4 yX4_readLine yX4_readLine ∈ gw := gw_at 1 (by decide +kernel) rfl
theorem wx_612 : Cond.code yX4_readLine cX4_readLine 3 (some .boolean) ∈ gw := gw_at 612 (by decide +kernel) rfl
theorem wm_RX4_83 : Cond.methodLink RX4 83 yX4_readLine ∈ gw ∧ Cond.instanceMethod yX4_readLine ∈ gw ∧ Cond.selects RX4 yX4_readLine yX4_readLine ∈ gw ∧ Cond.initialized RX4 ∈ gw ∧ Cond.code yX4_readLine cX4_readLine 3 (some .boolean) ∈ gw := ⟨gw_at 609 (by decide +kernel) rfl, wx_611, wx_1, wx_117, wx_612⟩
theorem wm_RX4_87 : Cond.methodLink RX4 87 yX8_takeSign ∈ gw ∧ Cond.instanceMethod yX8_takeSign ∈ gw ∧ Cond.selects RX8 yX8_takeSign yX8_takeSign ∈ gw ∧ Cond.initialized RX8 ∈ gw ∧ Cond.code yX8_takeSign cX8_takeSign 2 (some .boolean) ∈ gw := ⟨gw_at 690 (by decide +kernel) rfl, wx_691, wx_692, wx_116, wx_693⟩
theorem wx_617 : Cond.instanceMethod yX4_readThing ∈ gw := gw_at 617 (by decide +kernel) rfl
theorem wx_2 : Cond.selects RX4 yX4_readThing yX4_readThing ∈ gw := gw_at 2 (by decide +kernel) rfl
theorem wx_618 : Cond.code yX4_readThing cX4_readThing 4 (some .boolean) ∈ gw := gw_at 618 (by decide +kernel) rfl
theorem wm_RX4_100 : Cond.methodLink RX4 100 yX4_readThing ∈ gw ∧ Cond.instanceMethod yX4_readThing ∈ gw ∧ Cond.selects RX4 yX4_readThing yX4_readThing ∈ gw ∧ Cond.initialized RX4 ∈ gw ∧ Cond.code yX4_readThing cX4_readThing 4 (some .boolean) ∈ gw := ⟨gw_at 615 (by decide +kernel) rfl, wx_617, wx_2, wx_117, wx_618⟩
theorem wx_645 : Cond.instanceMethod yX4_readPerson ∈ gw := gw_at 645 (by decide +kernel) rfl
theorem wx_4 : Cond.selects RX4 yX4_readPerson yX4_readPerson ∈ gw := gw_at 4 (by decide +kernel) rfl
theorem wx_646 : Cond.code yX4_readPerson cX4_readPerson 3 (some .boolean) ∈ gw := gw_at 646 (by decide +kernel) rfl
theorem wm_RX4_107 : Cond.methodLink RX4 107 yX4_readPerson ∈ gw ∧ Cond.instanceMethod yX4_readPerson ∈ gw ∧ Cond.selects RX4 yX4_readPerson yX4_readPerson ∈ gw ∧ Cond.initialized RX4 ∈ gw ∧ Cond.code yX4_readPerson cX4_readPerson 3 (some .boolean) ∈ gw := ⟨gw_at 643 (by decide +kernel) rfl, wx_645, wx_4, wx_117, wx_646⟩
theorem wx_651 : Cond.instanceMethod yX4_readCaught ∈ gw := gw_at 651 (by decide +kernel) rfl
theorem wx_5 : Cond.selects RX4 yX4_readCaught yX4_readCaught ∈ gw := gw_at 5 (by decide +kernel) rfl
theorem wx_652 : Cond.code yX4_readCaught cX4_readCaught 5 (some .boolean) ∈ gw := gw_at 652 (by decide +kernel) rfl
theorem wm_RX4_113 : Cond.methodLink RX4 113 yX4_readCaught ∈ gw ∧ Cond.instanceMethod yX4_readCaught ∈ gw ∧ Cond.selects RX4 yX4_readCaught yX4_readCaught ∈ gw ∧ Cond.initialized RX4 ∈ gw ∧ Cond.code yX4_readCaught cX4_readCaught 5 (some .boolean) ∈ gw := ⟨gw_at 649 (by decide +kernel) rfl, wx_651, wx_5, wx_117, wx_652⟩
theorem wx_676 : Cond.instanceMethod yX4_readDaily ∈ gw := gw_at 676 (by decide +kernel) rfl
theorem wx_6 : Cond.selects RX4 yX4_readDaily yX4_readDaily ∈ gw := gw_at 6 (by decide +kernel) rfl
theorem wx_677 : Cond.code yX4_readDaily cX4_readDaily 5 (some .boolean) ∈ gw := gw_at 677 (by decide +kernel) rfl
theorem wm_RX4_119 : Cond.methodLink RX4 119 yX4_readDaily ∈ gw ∧ Cond.instanceMethod yX4_readDaily ∈ gw ∧ Cond.selects RX4 yX4_readDaily yX4_readDaily ∈ gw ∧ Cond.initialized RX4 ∈ gw ∧ Cond.code yX4_readDaily cX4_readDaily 5 (some .boolean) ∈ gw := ⟨gw_at 674 (by decide +kernel) rfl, wx_676, wx_6, wx_117, wx_677⟩
theorem wx_682 : Cond.instanceMethod yX4_readBed ∈ gw := gw_at 682 (by decide +kernel) rfl
theorem wx_7 : Cond.selects RX4 yX4_readBed yX4_readBed ∈ gw := gw_at 7 (by decide +kernel) rfl
theorem wx_683 : Cond.code yX4_readBed cX4_readBed 3 (some .boolean) ∈ gw := gw_at 683 (by decide +kernel) rfl
theorem wm_RX4_125 : Cond.methodLink RX4 125 yX4_readBed ∈ gw ∧ Cond.instanceMethod yX4_readBed ∈ gw ∧ Cond.selects RX4 yX4_readBed yX4_readBed ∈ gw ∧ Cond.initialized RX4 ∈ gw ∧ Cond.code yX4_readBed cX4_readBed 3 (some .boolean) ∈ gw := ⟨gw_at 680 (by decide +kernel) rfl, wx_682, wx_7, wx_117, wx_683⟩
theorem wx_688 : Cond.instanceMethod yX4_readComb ∈ gw := gw_at 688 (by decide +kernel) rfl
theorem wx_8 : Cond.selects RX4 yX4_readComb yX4_readComb ∈ gw := gw_at 8 (by decide +kernel) rfl
theorem wx_689 : Cond.code yX4_readComb cX4_readComb 3 (some .boolean) ∈ gw := gw_at 689 (by decide +kernel) rfl
theorem wm_RX4_131 : Cond.methodLink RX4 131 yX4_readComb ∈ gw ∧ Cond.instanceMethod yX4_readComb ∈ gw ∧ Cond.selects RX4 yX4_readComb yX4_readComb ∈ gw ∧ Cond.initialized RX4 ∈ gw ∧ Cond.code yX4_readComb cX4_readComb 3 (some .boolean) ∈ gw := ⟨gw_at 686 (by decide +kernel) rfl, wx_688, wx_8, wx_117, wx_689⟩
theorem wm_RX4_134 : Cond.methodLink RX4 134 yX8_refuse ∈ gw ∧ Cond.instanceMethod yX8_refuse ∈ gw ∧ Cond.selects RX8 yX8_refuse yX8_refuse ∈ gw ∧ Cond.initialized RX8 ∈ gw ∧ Cond.code yX8_refuse cX8_refuse 2 (some .boolean) ∈ gw := ⟨gw_at 619 (by decide +kernel) rfl, wx_620, wx_621, wx_116, wx_622⟩
theorem wm_RX4_137 : Cond.methodLink RX4 137 yX8_advance ∈ gw ∧ Cond.instanceMethod yX8_advance ∈ gw ∧ Cond.selects RX8 yX8_advance yX8_advance ∈ gw ∧ Cond.initialized RX8 ∈ gw ∧ Cond.code yX8_advance cX8_advance 3 (none) ∈ gw := ⟨gw_at 623 (by decide +kernel) rfl, wx_591, wx_592, wx_116, wx_593⟩
theorem wx_626 : Cond.instanceMethod yX4_isNewName ∈ gw := gw_at 626 (by decide +kernel) rfl
theorem wx_3 : Cond.selects RX4 yX4_isNewName yX4_isNewName ∈ gw := gw_at 3 (by decide +kernel) rfl
theorem wx_627 : Cond.code yX4_isNewName cX4_isNewName 2 (some .boolean) ∈ gw := gw_at 627 (by decide +kernel) rfl
theorem wm_RX4_140 : Cond.methodLink RX4 140 yX4_isNewName ∈ gw ∧ Cond.instanceMethod yX4_isNewName ∈ gw ∧ Cond.selects RX4 yX4_isNewName yX4_isNewName ∈ gw ∧ Cond.initialized RX4 ∈ gw ∧ Cond.code yX4_isNewName cX4_isNewName 2 (some .boolean) ∈ gw := ⟨gw_at 624 (by decide +kernel) rfl, wx_626, wx_3, wx_117, wx_627⟩
theorem wm_RX4_147 : Cond.methodLink RX4 147 yX8_takeNumber ∈ gw ∧ Cond.instanceMethod yX8_takeNumber ∈ gw ∧ Cond.selects RX8 yX8_takeNumber yX8_takeNumber ∈ gw ∧ Cond.initialized RX8 ∈ gw ∧ Cond.code yX8_takeNumber cX8_takeNumber 4 (some .int) ∈ gw := ⟨gw_at 636 (by decide +kernel) rfl, wx_637, wx_638, wx_116, wx_639⟩
theorem wm_RX4_151 : Cond.methodLink RX4 151 yX8_findName ∈ gw ∧ Cond.instanceMethod yX8_findName ∈ gw ∧ Cond.selects RX8 yX8_findName yX8_findName ∈ gw ∧ Cond.initialized RX8 ∈ gw ∧ Cond.code yX8_findName cX8_findName 4 (some .int) ∈ gw := ⟨gw_at 653 (by decide +kernel) rfl, wx_654, wx_655, wx_116, wx_656⟩
theorem wm_RX4_155 : Cond.methodLink RX4 155 yX6_isNest ∈ gw ∧ Cond.instanceMethod yX6_isNest ∈ gw ∧ Cond.selects RX6 yX6_isNest yX6_isNest ∈ gw ∧ Cond.initialized RX6 ∈ gw ∧ Cond.code yX6_isNest cX6_isNest 2 (some .boolean) ∈ gw := ⟨gw_at 659 (by decide +kernel) rfl, wx_660, wx_661, wx_118, wx_662⟩
theorem wm_RX4_158 : Cond.methodLink RX4 158 yX8_takeName ∈ gw ∧ Cond.instanceMethod yX8_takeName ∈ gw ∧ Cond.selects RX8 yX8_takeName yX8_takeName ∈ gw ∧ Cond.initialized RX8 ∈ gw ∧ Cond.code yX8_takeName cX8_takeName 4 (some .int) ∈ gw := ⟨gw_at 663 (by decide +kernel) rfl, wx_664, wx_665, wx_116, wx_666⟩
theorem wm_RX4_161 : Cond.methodLink RX4 161 yX6_catchThing ∈ gw ∧ Cond.instanceMethod yX6_catchThing ∈ gw ∧ Cond.selects RX6 yX6_catchThing yX6_catchThing ∈ gw ∧ Cond.initialized RX6 ∈ gw ∧ Cond.code yX6_catchThing cX6_catchThing 3 (none) ∈ gw := ⟨gw_at 668 (by decide +kernel) rfl, wx_669, wx_670, wx_118, wx_671⟩
theorem wx_629 : Cond.instanceMethod yX8_isName ∈ gw := gw_at 629 (by decide +kernel) rfl
theorem wx_630 : Cond.selects RX8 yX8_isName yX8_isName ∈ gw := gw_at 630 (by decide +kernel) rfl
theorem wx_631 : Cond.code yX8_isName cX8_isName 1 (some .boolean) ∈ gw := gw_at 631 (by decide +kernel) rfl
theorem wm_RX4_165 : Cond.methodLink RX4 165 yX8_isName ∈ gw ∧ Cond.instanceMethod yX8_isName ∈ gw ∧ Cond.selects RX8 yX8_isName yX8_isName ∈ gw ∧ Cond.initialized RX8 ∈ gw ∧ Cond.code yX8_isName cX8_isName 1 (some .boolean) ∈ gw := ⟨gw_at 628 (by decide +kernel) rfl, wx_629, wx_630, wx_116, wx_631⟩
theorem wx_633 : Cond.instanceMethod yX8_placeIn ∈ gw := gw_at 633 (by decide +kernel) rfl
theorem wx_634 : Cond.selects RX8 yX8_placeIn yX8_placeIn ∈ gw := gw_at 634 (by decide +kernel) rfl
theorem wx_635 : Cond.code yX8_placeIn cX8_placeIn 4 (some .int) ∈ gw := gw_at 635 (by decide +kernel) rfl
theorem wm_RX4_169 : Cond.methodLink RX4 169 yX8_placeIn ∈ gw ∧ Cond.instanceMethod yX8_placeIn ∈ gw ∧ Cond.selects RX8 yX8_placeIn yX8_placeIn ∈ gw ∧ Cond.initialized RX8 ∈ gw ∧ Cond.code yX8_placeIn cX8_placeIn 4 (some .int) ∈ gw := ⟨gw_at 632 (by decide +kernel) rfl, wx_633, wx_634, wx_116, wx_635⟩
theorem wm_RX5_31 : Cond.methodLink RX5 31 arraycopyName ∈ gw ∧ Cond.native arraycopyName ∈ gw ∧ Cond.static arraycopyName ∈ gw ∧ Cond.initialized "java/lang/System" ∈ gw := ⟨gw_at 1201 (by decide +kernel) rfl, gw_at 700 (by decide +kernel) rfl, gw_at 699 (by decide +kernel) rfl, gw_at 129 (by decide +kernel) rfl⟩
theorem wm_RX5_37 : Cond.methodLink RX5 37 yX5_forget ∈ gw ∧ Cond.instanceMethod yX5_forget ∈ gw ∧ Cond.selects RX5 yX5_forget yX5_forget ∈ gw ∧ Cond.initialized RX5 ∈ gw ∧ Cond.code yX5_forget cX5_forget 1 (none) ∈ gw := ⟨gw_at 1146 (by decide +kernel) rfl, wx_707, wx_708, wx_119, wx_709⟩
theorem wm_RX5_40 : Cond.methodLink RX5 40 yX8_open ∈ gw ∧ Cond.instanceMethod yX8_open ∈ gw ∧ Cond.selects RX8 yX8_open yX8_open ∈ gw ∧ Cond.initialized RX8 ∈ gw ∧ Cond.code yX8_open cX8_open 2 (none) ∈ gw := ⟨gw_at 1147 (by decide +kernel) rfl, wx_587, wx_588, wx_116, wx_589⟩
theorem wx_1150 : Cond.instanceMethod yX5_readCond ∈ gw := gw_at 1150 (by decide +kernel) rfl
theorem wx_37 : Cond.selects RX5 yX5_readCond yX5_readCond ∈ gw := gw_at 37 (by decide +kernel) rfl
theorem wx_1151 : Cond.code yX5_readCond cX5_readCond 8 (some .boolean) ∈ gw := gw_at 1151 (by decide +kernel) rfl
theorem wm_RX5_46 : Cond.methodLink RX5 46 yX5_readCond ∈ gw ∧ Cond.instanceMethod yX5_readCond ∈ gw ∧ Cond.selects RX5 yX5_readCond yX5_readCond ∈ gw ∧ Cond.initialized RX5 ∈ gw ∧ Cond.code yX5_readCond cX5_readCond 8 (some .boolean) ∈ gw := ⟨gw_at 1148 (by decide +kernel) rfl, wx_1150, wx_37, wx_119, wx_1151⟩
theorem wm_RX5_53 : Cond.methodLink RX5 53 yX8_refuse ∈ gw ∧ Cond.instanceMethod yX8_refuse ∈ gw ∧ Cond.selects RX8 yX8_refuse yX8_refuse ∈ gw ∧ Cond.initialized RX8 ∈ gw ∧ Cond.code yX8_refuse cX8_refuse 2 (some .boolean) ∈ gw := ⟨gw_at 1180 (by decide +kernel) rfl, wx_620, wx_621, wx_116, wx_622⟩
theorem wx_1154 : Cond.instanceMethod yX5_readOne ∈ gw := gw_at 1154 (by decide +kernel) rfl
theorem wx_38 : Cond.selects RX5 yX5_readOne yX5_readOne ∈ gw := gw_at 38 (by decide +kernel) rfl
theorem wx_1155 : Cond.code yX5_readOne cX5_readOne 7 (some .boolean) ∈ gw := gw_at 1155 (by decide +kernel) rfl
theorem wm_RX5_57 : Cond.methodLink RX5 57 yX5_readOne ∈ gw ∧ Cond.instanceMethod yX5_readOne ∈ gw ∧ Cond.selects RX5 yX5_readOne yX5_readOne ∈ gw ∧ Cond.initialized RX5 ∈ gw ∧ Cond.code yX5_readOne cX5_readOne 7 (some .boolean) ∈ gw := ⟨gw_at 1152 (by decide +kernel) rfl, wx_1154, wx_38, wx_119, wx_1155⟩
theorem wx_1185 : Cond.instanceMethod yX5_addStep ∈ gw := gw_at 1185 (by decide +kernel) rfl
theorem wx_39 : Cond.selects RX5 yX5_addStep yX5_addStep ∈ gw := gw_at 39 (by decide +kernel) rfl
theorem wx_1186 : Cond.code yX5_addStep cX5_addStep 4 (none) ∈ gw := gw_at 1186 (by decide +kernel) rfl
theorem wm_RX5_70 : Cond.methodLink RX5 70 yX5_addStep ∈ gw ∧ Cond.instanceMethod yX5_addStep ∈ gw ∧ Cond.selects RX5 yX5_addStep yX5_addStep ∈ gw ∧ Cond.initialized RX5 ∈ gw ∧ Cond.code yX5_addStep cX5_addStep 4 (none) ∈ gw := ⟨gw_at 1183 (by decide +kernel) rfl, wx_1185, wx_39, wx_119, wx_1186⟩
theorem wm_RX5_74 : Cond.methodLink RX5 74 yX8_advance ∈ gw ∧ Cond.instanceMethod yX8_advance ∈ gw ∧ Cond.selects RX8 yX8_advance yX8_advance ∈ gw ∧ Cond.initialized RX8 ∈ gw ∧ Cond.code yX8_advance cX8_advance 3 (none) ∈ gw := ⟨gw_at 1181 (by decide +kernel) rfl, wx_591, wx_592, wx_116, wx_593⟩
theorem wx_1157 : Cond.static yX5_beginsOne ∈ gw := gw_at 1157 (by decide +kernel) rfl
theorem wx_1158 : Cond.code yX5_beginsOne cX5_beginsOne 1 (some .boolean) ∈ gw := gw_at 1158 (by decide +kernel) rfl
theorem wm_RX5_77 : Cond.methodLink RX5 77 yX5_beginsOne ∈ gw ∧ Cond.static yX5_beginsOne ∈ gw ∧ Cond.initialized yX5_beginsOne.cls ∈ gw ∧ Cond.code yX5_beginsOne cX5_beginsOne 1 (some .boolean) ∈ gw := ⟨gw_at 1156 (by decide +kernel) rfl, wx_1157, wx_119, wx_1158⟩
theorem wm_RX5_81 : Cond.methodLink RX5 81 yX8_takeSign ∈ gw ∧ Cond.instanceMethod yX8_takeSign ∈ gw ∧ Cond.selects RX8 yX8_takeSign yX8_takeSign ∈ gw ∧ Cond.initialized RX8 ∈ gw ∧ Cond.code yX8_takeSign cX8_takeSign 2 (some .boolean) ∈ gw := ⟨gw_at 1182 (by decide +kernel) rfl, wx_691, wx_692, wx_116, wx_693⟩
theorem wx_1189 : Cond.instanceMethod yX5_readPlain ∈ gw := gw_at 1189 (by decide +kernel) rfl
theorem wx_40 : Cond.selects RX5 yX5_readPlain yX5_readPlain ∈ gw := gw_at 40 (by decide +kernel) rfl
theorem wx_1190 : Cond.code yX5_readPlain cX5_readPlain 6 (some .boolean) ∈ gw := gw_at 1190 (by decide +kernel) rfl
theorem wm_RX5_87 : Cond.methodLink RX5 87 yX5_readPlain ∈ gw ∧ Cond.instanceMethod yX5_readPlain ∈ gw ∧ Cond.selects RX5 yX5_readPlain yX5_readPlain ∈ gw ∧ Cond.initialized RX5 ∈ gw ∧ Cond.code yX5_readPlain cX5_readPlain 6 (some .boolean) ∈ gw := ⟨gw_at 1187 (by decide +kernel) rfl, wx_1189, wx_40, wx_119, wx_1190⟩
theorem wx_1171 : Cond.static yX5_isMeasured ∈ gw := gw_at 1171 (by decide +kernel) rfl
theorem wx_1172 : Cond.code yX5_isMeasured cX5_isMeasured 1 (some .boolean) ∈ gw := gw_at 1172 (by decide +kernel) rfl
theorem wm_RX5_106 : Cond.methodLink RX5 106 yX5_isMeasured ∈ gw ∧ Cond.static yX5_isMeasured ∈ gw ∧ Cond.initialized yX5_isMeasured.cls ∈ gw ∧ Cond.code yX5_isMeasured cX5_isMeasured 1 (some .boolean) ∈ gw := ⟨gw_at 1170 (by decide +kernel) rfl, wx_1171, wx_119, wx_1172⟩
theorem wm_RX5_130 : Cond.methodLink RX5 130 yX8_takeName ∈ gw ∧ Cond.instanceMethod yX8_takeName ∈ gw ∧ Cond.selects RX8 yX8_takeName yX8_takeName ∈ gw ∧ Cond.initialized RX8 ∈ gw ∧ Cond.code yX8_takeName cX8_takeName 4 (some .int) ∈ gw := ⟨gw_at 1191 (by decide +kernel) rfl, wx_664, wx_665, wx_116, wx_666⟩
theorem wm_RX5_140 : Cond.methodLink RX5 140 yX8_takeNumber ∈ gw ∧ Cond.instanceMethod yX8_takeNumber ∈ gw ∧ Cond.selects RX8 yX8_takeNumber yX8_takeNumber ∈ gw ∧ Cond.initialized RX8 ∈ gw ∧ Cond.code yX8_takeNumber cX8_takeNumber 4 (some .int) ∈ gw := ⟨gw_at 1192 (by decide +kernel) rfl, wx_637, wx_638, wx_116, wx_639⟩
theorem wx_1212 : Cond.instanceMethod yX5_isPlainTrue ∈ gw := gw_at 1212 (by decide +kernel) rfl
theorem wx_41 : Cond.selects RX5 yX5_isPlainTrue yX5_isPlainTrue ∈ gw := gw_at 41 (by decide +kernel) rfl
theorem wx_1213 : Cond.code yX5_isPlainTrue cX5_isPlainTrue 7 (some .boolean) ∈ gw := gw_at 1213 (by decide +kernel) rfl
theorem wm_RX5_144 : Cond.methodLink RX5 144 yX5_isPlainTrue ∈ gw ∧ Cond.instanceMethod yX5_isPlainTrue ∈ gw ∧ Cond.selects RX5 yX5_isPlainTrue yX5_isPlainTrue ∈ gw ∧ Cond.initialized RX5 ∈ gw ∧ Cond.code yX5_isPlainTrue cX5_isPlainTrue 7 (some .boolean) ∈ gw := ⟨gw_at 1210 (by decide +kernel) rfl, wx_1212, wx_41, wx_119, wx_1213⟩
theorem wm_RX5_153 : Cond.methodLink RX5 153 yX6_isNest ∈ gw ∧ Cond.instanceMethod yX6_isNest ∈ gw ∧ Cond.selects RX6 yX6_isNest yX6_isNest ∈ gw ∧ Cond.initialized RX6 ∈ gw ∧ Cond.code yX6_isNest cX6_isNest 2 (some .boolean) ∈ gw := ⟨gw_at 1214 (by decide +kernel) rfl, wx_660, wx_661, wx_118, wx_662⟩
theorem wx_743 : Cond.instanceMethod yX6_has ∈ gw := gw_at 743 (by decide +kernel) rfl
theorem wx_744 : Cond.selects RX6 yX6_has yX6_has ∈ gw := gw_at 744 (by decide +kernel) rfl
theorem wx_745 : Cond.code yX6_has cX6_has 4 (some .boolean) ∈ gw := gw_at 745 (by decide +kernel) rfl
theorem wm_RX5_162 : Cond.methodLink RX5 162 yX6_has ∈ gw ∧ Cond.instanceMethod yX6_has ∈ gw ∧ Cond.selects RX6 yX6_has yX6_has ∈ gw ∧ Cond.initialized RX6 ∈ gw ∧ Cond.code yX6_has cX6_has 4 (some .boolean) ∈ gw := ⟨gw_at 1215 (by decide +kernel) rfl, wx_743, wx_744, wx_118, wx_745⟩
theorem wm_RX5_166 : Cond.methodLink RX5 166 yX6_alike ∈ gw ∧ Cond.instanceMethod yX6_alike ∈ gw ∧ Cond.selects RX6 yX6_alike yX6_alike ∈ gw ∧ Cond.initialized RX6 ∈ gw ∧ Cond.code yX6_alike cX6_alike 4 (some .boolean) ∈ gw := ⟨gw_at 1216 (by decide +kernel) rfl, wx_997, wx_998, wx_118, wx_999⟩
theorem wx_1218 : Cond.static yX5_measureOf ∈ gw := gw_at 1218 (by decide +kernel) rfl
theorem wx_1219 : Cond.code yX5_measureOf cX5_measureOf 3 (some .int) ∈ gw := gw_at 1219 (by decide +kernel) rfl
theorem wm_RX5_169 : Cond.methodLink RX5 169 yX5_measureOf ∈ gw ∧ Cond.static yX5_measureOf ∈ gw ∧ Cond.initialized yX5_measureOf.cls ∈ gw ∧ Cond.code yX5_measureOf cX5_measureOf 3 (some .int) ∈ gw := ⟨gw_at 1217 (by decide +kernel) rfl, wx_1218, wx_119, wx_1219⟩
theorem wm_RX5_173 : Cond.methodLink RX5 173 yX6_knotsOf ∈ gw ∧ Cond.instanceMethod yX6_knotsOf ∈ gw ∧ Cond.selects RX6 yX6_knotsOf yX6_knotsOf ∈ gw ∧ Cond.initialized RX6 ∈ gw ∧ Cond.code yX6_knotsOf cX6_knotsOf 4 (some .int) ∈ gw := ⟨gw_at 1220 (by decide +kernel) rfl, wx_1221, wx_1222, wx_118, wx_1223⟩
theorem wm_RX6_49 : Cond.methodLink RX6 49 arraycopyName ∈ gw ∧ Cond.native arraycopyName ∈ gw ∧ Cond.static arraycopyName ∈ gw ∧ Cond.initialized "java/lang/System" ∈ gw := ⟨gw_at 705 (by decide +kernel) rfl, gw_at 700 (by decide +kernel) rfl, gw_at 699 (by decide +kernel) rfl, gw_at 129 (by decide +kernel) rfl⟩
theorem wm_RX6_55 : Cond.methodLink RX6 55 yX6_layerAt ∈ gw ∧ Cond.instanceMethod yX6_layerAt ∈ gw ∧ Cond.selects RX6 yX6_layerAt yX6_layerAt ∈ gw ∧ Cond.initialized RX6 ∈ gw ∧ Cond.code yX6_layerAt cX6_layerAt 3 (some .int) ∈ gw := ⟨gw_at 746 (by decide +kernel) rfl, wx_727, wx_728, wx_118, wx_729⟩
theorem wm_RX6_64 : Cond.methodLink RX6 64 yX6_knotBelow ∈ gw ∧ Cond.instanceMethod yX6_knotBelow ∈ gw ∧ Cond.selects RX6 yX6_knotBelow yX6_knotBelow ∈ gw ∧ Cond.initialized RX6 ∈ gw ∧ Cond.code yX6_knotBelow cX6_knotBelow 5 (some .int) ∈ gw := ⟨gw_at 789 (by decide +kernel) rfl, wx_790, wx_791, wx_118, wx_792⟩
theorem wm_RX6_67 : Cond.methodLink RX6 67 yX6_holdAt ∈ gw ∧ Cond.instanceMethod yX6_holdAt ∈ gw ∧ Cond.selects RX6 yX6_holdAt yX6_holdAt ∈ gw ∧ Cond.initialized RX6 ∈ gw ∧ Cond.code yX6_holdAt cX6_holdAt 5 (some .int) ∈ gw := ⟨gw_at 793 (by decide +kernel) rfl, wx_794, wx_795, wx_118, wx_796⟩
theorem wm_RX6_74 : Cond.methodLink RX6 74 yX6_has ∈ gw ∧ Cond.instanceMethod yX6_has ∈ gw ∧ Cond.selects RX6 yX6_has yX6_has ∈ gw ∧ Cond.initialized RX6 ∈ gw ∧ Cond.code yX6_has cX6_has 4 (some .boolean) ∈ gw := ⟨gw_at 742 (by decide +kernel) rfl, wx_743, wx_744, wx_118, wx_745⟩
theorem wm_RX6_84 : Cond.methodLink RX6 84 yX6_sleeps ∈ gw ∧ Cond.instanceMethod yX6_sleeps ∈ gw ∧ Cond.selects RX6 yX6_sleeps yX6_sleeps ∈ gw ∧ Cond.initialized RX6 ∈ gw ∧ Cond.code yX6_sleeps cX6_sleeps 3 (some .boolean) ∈ gw := ⟨gw_at 771 (by decide +kernel) rfl, wx_760, wx_761, wx_118, wx_762⟩
theorem wm_RX6_88 : Cond.methodLink RX6 88 yX6_isNest ∈ gw ∧ Cond.instanceMethod yX6_isNest ∈ gw ∧ Cond.selects RX6 yX6_isNest yX6_isNest ∈ gw ∧ Cond.initialized RX6 ∈ gw ∧ Cond.code yX6_isNest cX6_isNest 2 (some .boolean) ∈ gw := ⟨gw_at 776 (by decide +kernel) rfl, wx_660, wx_661, wx_118, wx_662⟩
theorem wm_RX6_92 : Cond.methodLink RX6 92 yX6_outsideHolds ∈ gw ∧ Cond.instanceMethod yX6_outsideHolds ∈ gw ∧ Cond.selects RX6 yX6_outsideHolds yX6_outsideHolds ∈ gw ∧ Cond.initialized RX6 ∈ gw ∧ Cond.code yX6_outsideHolds cX6_outsideHolds 3 (some .int) ∈ gw := ⟨gw_at 785 (by decide +kernel) rfl, wx_786, wx_787, wx_118, wx_788⟩
theorem wx_809 : Cond.instanceMethod yX6_putOutsideKnotIntoBag ∈ gw := gw_at 809 (by decide +kernel) rfl
theorem wx_12 : Cond.selects RX6 yX6_putOutsideKnotIntoBag yX6_putOutsideKnotIntoBag ∈ gw := gw_at 12 (by decide +kernel) rfl
theorem wx_810 : Cond.code yX6_putOutsideKnotIntoBag cX6_putOutsideKnotIntoBag 5 (none) ∈ gw := gw_at 810 (by decide +kernel) rfl
theorem wm_RX6_102 : Cond.methodLink RX6 102 yX6_putOutsideKnotIntoBag ∈ gw ∧ Cond.instanceMethod yX6_putOutsideKnotIntoBag ∈ gw ∧ Cond.selects RX6 yX6_putOutsideKnotIntoBag yX6_putOutsideKnotIntoBag ∈ gw ∧ Cond.initialized RX6 ∈ gw ∧ Cond.code yX6_putOutsideKnotIntoBag cX6_putOutsideKnotIntoBag 5 (none) ∈ gw := ⟨gw_at 807 (by decide +kernel) rfl, wx_809, wx_12, wx_118, wx_810⟩
theorem wm_RX6_106 : Cond.methodLink RX6 106 yX6_layerFromOutside ∈ gw ∧ Cond.instanceMethod yX6_layerFromOutside ∈ gw ∧ Cond.selects RX6 yX6_layerFromOutside yX6_layerFromOutside ∈ gw ∧ Cond.initialized RX6 ∈ gw ∧ Cond.code yX6_layerFromOutside cX6_layerFromOutside 3 (some .int) ∈ gw := ⟨gw_at 811 (by decide +kernel) rfl, wx_812, wx_813, wx_118, wx_814⟩
theorem wm_RX6_109 : Cond.methodLink RX6 109 Lib.Math.min.name ∈ gw ∧ Cond.static Lib.Math.min.name ∈ gw ∧ Cond.initialized "java/lang/Math" ∈ gw ∧ Cond.code Lib.Math.min.name Lib.Math.min.code 2 (some .int) ∈ gw := ⟨gw_at 815 (by decide +kernel) rfl, gw_at 595 (by decide +kernel) rfl, gw_at 126 (by decide +kernel) rfl, gw_at 596 (by decide +kernel) rfl⟩
theorem wx_864 : Cond.instanceMethod yX6_letOneDayGo ∈ gw := gw_at 864 (by decide +kernel) rfl
theorem wx_13 : Cond.selects RX6 yX6_letOneDayGo yX6_letOneDayGo ∈ gw := gw_at 13 (by decide +kernel) rfl
theorem wx_865 : Cond.code yX6_letOneDayGo cX6_letOneDayGo 3 (none) ∈ gw := gw_at 865 (by decide +kernel) rfl
theorem wm_RX6_115 : Cond.methodLink RX6 115 yX6_letOneDayGo ∈ gw ∧ Cond.instanceMethod yX6_letOneDayGo ∈ gw ∧ Cond.selects RX6 yX6_letOneDayGo yX6_letOneDayGo ∈ gw ∧ Cond.initialized RX6 ∈ gw ∧ Cond.code yX6_letOneDayGo cX6_letOneDayGo 3 (none) ∈ gw := ⟨gw_at 862 (by decide +kernel) rfl, wx_864, wx_13, wx_118, wx_865⟩
theorem wm_RX6_122 : Cond.methodLink RX6 122 yX4_catchesOn ∈ gw ∧ Cond.instanceMethod yX4_catchesOn ∈ gw ∧ Cond.selects RX4 yX4_catchesOn yX4_catchesOn ∈ gw ∧ Cond.initialized RX4 ∈ gw ∧ Cond.code yX4_catchesOn cX4_catchesOn 4 (some .boolean) ∈ gw := ⟨gw_at 866 (by decide +kernel) rfl, wx_867, wx_868, wx_117, wx_869⟩
theorem wm_RX6_131 : Cond.methodLink RX6 131 yX6_catchThing ∈ gw ∧ Cond.instanceMethod yX6_catchThing ∈ gw ∧ Cond.selects RX6 yX6_catchThing yX6_catchThing ∈ gw ∧ Cond.initialized RX6 ∈ gw ∧ Cond.code yX6_catchThing cX6_catchThing 3 (none) ∈ gw := ⟨gw_at 870 (by decide +kernel) rfl, wx_669, wx_670, wx_118, wx_671⟩
theorem wx_1043 : Cond.instanceMethod yX6_actAsDrawn ∈ gw := gw_at 1043 (by decide +kernel) rfl
theorem wx_26 : Cond.selects RX6 yX6_actAsDrawn yX6_actAsDrawn ∈ gw := gw_at 26 (by decide +kernel) rfl
theorem wx_1044 : Cond.code yX6_actAsDrawn cX6_actAsDrawn 5 (none) ∈ gw := gw_at 1044 (by decide +kernel) rfl
theorem wm_RX6_138 : Cond.methodLink RX6 138 yX6_actAsDrawn ∈ gw ∧ Cond.instanceMethod yX6_actAsDrawn ∈ gw ∧ Cond.selects RX6 yX6_actAsDrawn yX6_actAsDrawn ∈ gw ∧ Cond.initialized RX6 ∈ gw ∧ Cond.code yX6_actAsDrawn cX6_actAsDrawn 5 (none) ∈ gw := ⟨gw_at 1041 (by decide +kernel) rfl, wx_1043, wx_26, wx_118, wx_1044⟩
theorem wx_1047 : Cond.instanceMethod yX6_draw ∈ gw := gw_at 1047 (by decide +kernel) rfl
theorem wx_27 : Cond.selects RX6 yX6_draw yX6_draw ∈ gw := gw_at 27 (by decide +kernel) rfl
theorem wx_1048 : Cond.code yX6_draw cX6_draw 2 (some .int) ∈ gw := gw_at 1048 (by decide +kernel) rfl
theorem wm_RX6_142 : Cond.methodLink RX6 142 yX6_draw ∈ gw ∧ Cond.instanceMethod yX6_draw ∈ gw ∧ Cond.selects RX6 yX6_draw yX6_draw ∈ gw ∧ Cond.initialized RX6 ∈ gw ∧ Cond.code yX6_draw cX6_draw 2 (some .int) ∈ gw := ⟨gw_at 1045 (by decide +kernel) rfl, wx_1047, wx_27, wx_118, wx_1048⟩
theorem wm_RX6_149 : Cond.methodLink RX6 149 yX6_whyNoStroke ∈ gw ∧ Cond.instanceMethod yX6_whyNoStroke ∈ gw ∧ Cond.selects RX6 yX6_whyNoStroke yX6_whyNoStroke ∈ gw ∧ Cond.initialized RX6 ∈ gw ∧ Cond.code yX6_whyNoStroke cX6_whyNoStroke 4 (some .int) ∈ gw := ⟨gw_at 1050 (by decide +kernel) rfl, wx_782, wx_783, wx_118, wx_784⟩
theorem wm_RX6_152 : Cond.methodLink RX6 152 yX6_comb ∈ gw ∧ Cond.instanceMethod yX6_comb ∈ gw ∧ Cond.selects RX6 yX6_comb yX6_comb ∈ gw ∧ Cond.initialized RX6 ∈ gw ∧ Cond.code yX6_comb cX6_comb 6 (none) ∈ gw := ⟨gw_at 1051 (by decide +kernel) rfl, wx_804, wx_805, wx_118, wx_806⟩
theorem wm_RX6_155 : Cond.methodLink RX6 155 yX6_whyNoCut ∈ gw ∧ Cond.instanceMethod yX6_whyNoCut ∈ gw ∧ Cond.selects RX6 yX6_whyNoCut yX6_whyNoCut ∈ gw ∧ Cond.initialized RX6 ∈ gw ∧ Cond.code yX6_whyNoCut cX6_whyNoCut 2 (some .int) ∈ gw := ⟨gw_at 1052 (by decide +kernel) rfl, wx_821, wx_822, wx_118, wx_823⟩
theorem wm_RX6_158 : Cond.methodLink RX6 158 yX6_cutOff ∈ gw ∧ Cond.instanceMethod yX6_cutOff ∈ gw ∧ Cond.selects RX6 yX6_cutOff yX6_cutOff ∈ gw ∧ Cond.initialized RX6 ∈ gw ∧ Cond.code yX6_cutOff cX6_cutOff 3 (none) ∈ gw := ⟨gw_at 1053 (by decide +kernel) rfl, wx_825, wx_826, wx_118, wx_827⟩
theorem wx_1015 : Cond.instanceMethod yX7_putName ∈ gw := gw_at 1015 (by decide +kernel) rfl
theorem wx_23 : Cond.selects RX7 yX7_putName yX7_putName ∈ gw := gw_at 23 (by decide +kernel) rfl
theorem wx_1016 : Cond.code yX7_putName cX7_putName 5 (none) ∈ gw := gw_at 1016 (by decide +kernel) rfl
theorem wm_RX7_27 : Cond.methodLink RX7 27 yX7_putName ∈ gw ∧ Cond.instanceMethod yX7_putName ∈ gw ∧ Cond.selects RX7 yX7_putName yX7_putName ∈ gw ∧ Cond.initialized RX7 ∈ gw ∧ Cond.code yX7_putName cX7_putName 5 (none) ∈ gw := ⟨gw_at 1013 (by decide +kernel) rfl, wx_1015, wx_23, wx_124, wx_1016⟩
theorem wx_1020 : Cond.instanceMethod yX7_put ∈ gw := gw_at 1020 (by decide +kernel) rfl
theorem wx_24 : Cond.selects RX7 yX7_put yX7_put ∈ gw := gw_at 24 (by decide +kernel) rfl
theorem wx_1021 : Cond.code yX7_put cX7_put 2 (none) ∈ gw := gw_at 1021 (by decide +kernel) rfl
theorem wm_RX7_36 : Cond.methodLink RX7 36 yX7_put ∈ gw ∧ Cond.instanceMethod yX7_put ∈ gw ∧ Cond.selects RX7 yX7_put yX7_put ∈ gw ∧ Cond.initialized RX7 ∈ gw ∧ Cond.code yX7_put cX7_put 2 (none) ∈ gw := ⟨gw_at 1018 (by decide +kernel) rfl, wx_1020, wx_24, wx_124, wx_1021⟩
theorem wm_RX7_50 : Cond.methodLink RX7 50 yX6_layerAt ∈ gw ∧ Cond.instanceMethod yX6_layerAt ∈ gw ∧ Cond.selects RX6 yX6_layerAt yX6_layerAt ∈ gw ∧ Cond.initialized RX6 ∈ gw ∧ Cond.code yX6_layerAt cX6_layerAt 3 (some .int) ∈ gw := ⟨gw_at 1024 (by decide +kernel) rfl, wx_727, wx_728, wx_118, wx_729⟩
theorem wx_1027 : Cond.instanceMethod yX7_putKnot ∈ gw := gw_at 1027 (by decide +kernel) rfl
theorem wx_25 : Cond.selects RX7 yX7_putKnot yX7_putKnot ∈ gw := gw_at 25 (by decide +kernel) rfl
theorem wx_1028 : Cond.code yX7_putKnot cX7_putKnot 4 (none) ∈ gw := gw_at 1028 (by decide +kernel) rfl
theorem wm_RX7_54 : Cond.methodLink RX7 54 yX7_putKnot ∈ gw ∧ Cond.instanceMethod yX7_putKnot ∈ gw ∧ Cond.selects RX7 yX7_putKnot yX7_putKnot ∈ gw ∧ Cond.initialized RX7 ∈ gw ∧ Cond.code yX7_putKnot cX7_putKnot 4 (none) ∈ gw := ⟨gw_at 1025 (by decide +kernel) rfl, wx_1027, wx_25, wx_124, wx_1028⟩
theorem wm_RX8_31 : Cond.methodLink RX8 31 yX8_advance ∈ gw ∧ Cond.instanceMethod yX8_advance ∈ gw ∧ Cond.selects RX8 yX8_advance yX8_advance ∈ gw ∧ Cond.initialized RX8 ∈ gw ∧ Cond.code yX8_advance cX8_advance 3 (none) ∈ gw := ⟨gw_at 590 (by decide +kernel) rfl, wx_591, wx_592, wx_116, wx_593⟩
theorem wm_RX8_34 : Cond.methodLink RX8 34 Lib.Math.min.name ∈ gw ∧ Cond.static Lib.Math.min.name ∈ gw ∧ Cond.initialized "java/lang/Math" ∈ gw ∧ Cond.code Lib.Math.min.name Lib.Math.min.code 2 (some .int) ∈ gw := ⟨gw_at 594 (by decide +kernel) rfl, gw_at 595 (by decide +kernel) rfl, gw_at 126 (by decide +kernel) rfl, gw_at 596 (by decide +kernel) rfl⟩
theorem wx_599 : Cond.instanceMethod yX8_scanRun ∈ gw := gw_at 599 (by decide +kernel) rfl
theorem wx_0 : Cond.selects RX8 yX8_scanRun yX8_scanRun ∈ gw := gw_at 0 (by decide +kernel) rfl
theorem wx_600 : Cond.code yX8_scanRun cX8_scanRun 4 (none) ∈ gw := gw_at 600 (by decide +kernel) rfl
theorem wm_RX8_50 : Cond.methodLink RX8 50 yX8_scanRun ∈ gw ∧ Cond.instanceMethod yX8_scanRun ∈ gw ∧ Cond.selects RX8 yX8_scanRun yX8_scanRun ∈ gw ∧ Cond.initialized RX8 ∈ gw ∧ Cond.code yX8_scanRun cX8_scanRun 4 (none) ∈ gw := ⟨gw_at 597 (by decide +kernel) rfl, wx_599, wx_0, wx_116, wx_600⟩
theorem wx_602 : Cond.static yX9_of ∈ gw := gw_at 602 (by decide +kernel) rfl
theorem wx_128 : Cond.initialized RX9 ∈ gw := gw_at 128 (by decide +kernel) rfl
theorem wx_603 : Cond.code yX9_of cX9_of 3 (some (.object "CombedOut$Word")) ∈ gw := gw_at 603 (by decide +kernel) rfl
theorem wm_RX8_57 : Cond.methodLink RX8 57 yX9_of ∈ gw ∧ Cond.static yX9_of ∈ gw ∧ Cond.initialized yX9_of.cls ∈ gw ∧ Cond.code yX9_of cX9_of 3 (some (.object "CombedOut$Word")) ∈ gw := ⟨gw_at 601 (by decide +kernel) rfl, wx_602, wx_128, wx_603⟩
theorem wx_607 : Cond.static yX8_isSign ∈ gw := gw_at 607 (by decide +kernel) rfl
theorem wx_608 : Cond.code yX8_isSign cX8_isSign 1 (some .boolean) ∈ gw := gw_at 608 (by decide +kernel) rfl
theorem wm_RX8_63 : Cond.methodLink RX8 63 yX8_isSign ∈ gw ∧ Cond.static yX8_isSign ∈ gw ∧ Cond.initialized yX8_isSign.cls ∈ gw ∧ Cond.code yX8_isSign cX8_isSign 1 (some .boolean) ∈ gw := ⟨gw_at 606 (by decide +kernel) rfl, wx_607, wx_116, wx_608⟩
theorem wm_RX8_70 : Cond.methodLink RX8 70 yX8_refuse ∈ gw ∧ Cond.instanceMethod yX8_refuse ∈ gw ∧ Cond.selects RX8 yX8_refuse yX8_refuse ∈ gw ∧ Cond.initialized RX8 ∈ gw ∧ Cond.code yX8_refuse cX8_refuse 2 (some .boolean) ∈ gw := ⟨gw_at 640 (by decide +kernel) rfl, wx_620, wx_621, wx_116, wx_622⟩
theorem wm_RX8_73 : Cond.methodLink RX8 73 yX8_isName ∈ gw ∧ Cond.instanceMethod yX8_isName ∈ gw ∧ Cond.selects RX8 yX8_isName yX8_isName ∈ gw ∧ Cond.initialized RX8 ∈ gw ∧ Cond.code yX8_isName cX8_isName 1 (some .boolean) ∈ gw := ⟨gw_at 657 (by decide +kernel) rfl, wx_629, wx_630, wx_116, wx_631⟩
theorem wm_RX8_77 : Cond.methodLink RX8 77 yX8_placeIn ∈ gw ∧ Cond.instanceMethod yX8_placeIn ∈ gw ∧ Cond.selects RX8 yX8_placeIn yX8_placeIn ∈ gw ∧ Cond.initialized RX8 ∈ gw ∧ Cond.code yX8_placeIn cX8_placeIn 4 (some .int) ∈ gw := ⟨gw_at 658 (by decide +kernel) rfl, wx_633, wx_634, wx_116, wx_635⟩
theorem wm_RX8_81 : Cond.methodLink RX8 81 yX8_findName ∈ gw ∧ Cond.instanceMethod yX8_findName ∈ gw ∧ Cond.selects RX8 yX8_findName yX8_findName ∈ gw ∧ Cond.initialized RX8 ∈ gw ∧ Cond.code yX8_findName cX8_findName 4 (some .int) ∈ gw := ⟨gw_at 667 (by decide +kernel) rfl, wx_654, wx_655, wx_116, wx_656⟩
theorem wx_1343 : Cond.instanceMethod yX11_four ∈ gw := gw_at 1343 (by decide +kernel) rfl
theorem wx_43 : Cond.selects RX11 yX11_four yX11_four ∈ gw := gw_at 43 (by decide +kernel) rfl
theorem wx_125 : Cond.initialized RX11 ∈ gw := gw_at 125 (by decide +kernel) rfl
theorem wx_1345 : Cond.code yX11_four cX11_four 3 (none) ∈ gw := gw_at 1345 (by decide +kernel) rfl
theorem wm_RX11_10 : Cond.methodLink RX11 10 yX11_four ∈ gw ∧ Cond.instanceMethod yX11_four ∈ gw ∧ Cond.selects RX11 yX11_four yX11_four ∈ gw ∧ Cond.initialized RX11 ∈ gw ∧ Cond.code yX11_four cX11_four 3 (none) ∈ gw := ⟨gw_at 1341 (by decide +kernel) rfl, wx_1343, wx_43, wx_125, wx_1345⟩
theorem wx_1379 : Cond.instanceMethod yX11_clears ∈ gw := gw_at 1379 (by decide +kernel) rfl
theorem wx_44 : Cond.selects RX11 yX11_clears yX11_clears ∈ gw := gw_at 44 (by decide +kernel) rfl
theorem wx_1380 : Cond.code yX11_clears cX11_clears 2 (none) ∈ gw := gw_at 1380 (by decide +kernel) rfl
theorem wm_RX11_131 : Cond.methodLink RX11 131 yX11_clears ∈ gw ∧ Cond.instanceMethod yX11_clears ∈ gw ∧ Cond.selects RX11 yX11_clears yX11_clears ∈ gw ∧ Cond.initialized RX11 ∈ gw ∧ Cond.code yX11_clears cX11_clears 2 (none) ∈ gw := ⟨gw_at 1377 (by decide +kernel) rfl, wx_1379, wx_44, wx_125, wx_1380⟩
theorem wx_1544 : Cond.instanceMethod yX11_peek ∈ gw := gw_at 1544 (by decide +kernel) rfl
theorem wx_47 : Cond.selects RX11 yX11_peek yX11_peek ∈ gw := gw_at 47 (by decide +kernel) rfl
theorem wx_1545 : Cond.code yX11_peek cX11_peek 1 (some .int) ∈ gw := gw_at 1545 (by decide +kernel) rfl
theorem wm_RX11_134 : Cond.methodLink RX11 134 yX11_peek ∈ gw ∧ Cond.instanceMethod yX11_peek ∈ gw ∧ Cond.selects RX11 yX11_peek yX11_peek ∈ gw ∧ Cond.initialized RX11 ∈ gw ∧ Cond.code yX11_peek cX11_peek 1 (some .int) ∈ gw := ⟨gw_at 1542 (by decide +kernel) rfl, wx_1544, wx_47, wx_125, wx_1545⟩
theorem wx_1547 : Cond.static yX11_isSmall ∈ gw := gw_at 1547 (by decide +kernel) rfl
theorem wx_1548 : Cond.code yX11_isSmall cX11_isSmall 1 (some .boolean) ∈ gw := gw_at 1548 (by decide +kernel) rfl
theorem wm_RX11_147 : Cond.methodLink RX11 147 yX11_isSmall ∈ gw ∧ Cond.static yX11_isSmall ∈ gw ∧ Cond.initialized yX11_isSmall.cls ∈ gw ∧ Cond.code yX11_isSmall cX11_isSmall 1 (some .boolean) ∈ gw := ⟨gw_at 1546 (by decide +kernel) rfl, wx_1547, wx_125, wx_1548⟩
theorem wx_1550 : Cond.static yX11_isDigit ∈ gw := gw_at 1550 (by decide +kernel) rfl
theorem wx_1551 : Cond.code yX11_isDigit cX11_isDigit 1 (some .boolean) ∈ gw := gw_at 1551 (by decide +kernel) rfl
theorem wm_RX11_151 : Cond.methodLink RX11 151 yX11_isDigit ∈ gw ∧ Cond.static yX11_isDigit ∈ gw ∧ Cond.initialized yX11_isDigit.cls ∈ gw ∧ Cond.code yX11_isDigit cX11_isDigit 1 (some .boolean) ∈ gw := ⟨gw_at 1549 (by decide +kernel) rfl, wx_1550, wx_125, wx_1551⟩
theorem wx_1621 : Cond.instanceMethod yX11_isSign ∈ gw := gw_at 1621 (by decide +kernel) rfl
theorem wx_64 : Cond.selects RX11 yX11_isSign yX11_isSign ∈ gw := gw_at 64 (by decide +kernel) rfl
theorem wx_1622 : Cond.code yX11_isSign cX11_isSign 2 (some .boolean) ∈ gw := gw_at 1622 (by decide +kernel) rfl
theorem wm_RX11_167 : Cond.methodLink RX11 167 yX11_isSign ∈ gw ∧ Cond.instanceMethod yX11_isSign ∈ gw ∧ Cond.selects RX11 yX11_isSign yX11_isSign ∈ gw ∧ Cond.initialized RX11 ∈ gw ∧ Cond.code yX11_isSign cX11_isSign 2 (some .boolean) ∈ gw := ⟨gw_at 1619 (by decide +kernel) rfl, wx_1621, wx_64, wx_125, wx_1622⟩
theorem wx_1566 : Cond.instanceMethod yX11_bad ∈ gw := gw_at 1566 (by decide +kernel) rfl
theorem wx_51 : Cond.selects RX11 yX11_bad yX11_bad ∈ gw := gw_at 51 (by decide +kernel) rfl
theorem wx_1567 : Cond.code yX11_bad cX11_bad 2 (some .boolean) ∈ gw := gw_at 1567 (by decide +kernel) rfl
theorem wm_RX11_170 : Cond.methodLink RX11 170 yX11_bad ∈ gw ∧ Cond.instanceMethod yX11_bad ∈ gw ∧ Cond.selects RX11 yX11_bad yX11_bad ∈ gw ∧ Cond.initialized RX11 ∈ gw ∧ Cond.code yX11_bad cX11_bad 2 (some .boolean) ∈ gw := ⟨gw_at 1564 (by decide +kernel) rfl, wx_1566, wx_51, wx_125, wx_1567⟩
theorem wx_1540 : Cond.instanceMethod yX11_next ∈ gw := gw_at 1540 (by decide +kernel) rfl
theorem wx_46 : Cond.selects RX11 yX11_next yX11_next ∈ gw := gw_at 46 (by decide +kernel) rfl
theorem wx_1541 : Cond.code yX11_next cX11_next 4 (none) ∈ gw := gw_at 1541 (by decide +kernel) rfl
theorem wm_RX11_173 : Cond.methodLink RX11 173 yX11_next ∈ gw ∧ Cond.instanceMethod yX11_next ∈ gw ∧ Cond.selects RX11 yX11_next yX11_next ∈ gw ∧ Cond.initialized RX11 ∈ gw ∧ Cond.code yX11_next cX11_next 4 (none) ∈ gw := ⟨gw_at 1538 (by decide +kernel) rfl, wx_1540, wx_46, wx_125, wx_1541⟩
theorem wx_1589 : Cond.static yX11_isIn ∈ gw := gw_at 1589 (by decide +kernel) rfl
theorem wx_1590 : Cond.code yX11_isIn cX11_isIn 3 (some .boolean) ∈ gw := gw_at 1590 (by decide +kernel) rfl
theorem wm_RX11_176 : Cond.methodLink RX11 176 yX11_isIn ∈ gw ∧ Cond.static yX11_isIn ∈ gw ∧ Cond.initialized yX11_isIn.cls ∈ gw ∧ Cond.code yX11_isIn cX11_isIn 3 (some .boolean) ∈ gw := ⟨gw_at 1588 (by decide +kernel) rfl, wx_1589, wx_125, wx_1590⟩
theorem wx_1586 : Cond.instanceMethod yX11_takes ∈ gw := gw_at 1586 (by decide +kernel) rfl
theorem wx_56 : Cond.selects RX11 yX11_takes yX11_takes ∈ gw := gw_at 56 (by decide +kernel) rfl
theorem wx_1587 : Cond.code yX11_takes cX11_takes 3 (some .boolean) ∈ gw := gw_at 1587 (by decide +kernel) rfl
theorem wm_RX11_183 : Cond.methodLink RX11 183 yX11_takes ∈ gw ∧ Cond.instanceMethod yX11_takes ∈ gw ∧ Cond.selects RX11 yX11_takes yX11_takes ∈ gw ∧ Cond.initialized RX11 ∈ gw ∧ Cond.code yX11_takes cX11_takes 3 (some .boolean) ∈ gw := ⟨gw_at 1584 (by decide +kernel) rfl, wx_1586, wx_56, wx_125, wx_1587⟩
theorem wx_1574 : Cond.instanceMethod yX11_isName ∈ gw := gw_at 1574 (by decide +kernel) rfl
theorem wx_53 : Cond.selects RX11 yX11_isName yX11_isName ∈ gw := gw_at 53 (by decide +kernel) rfl
theorem wx_1575 : Cond.code yX11_isName cX11_isName 3 (some .boolean) ∈ gw := gw_at 1575 (by decide +kernel) rfl
theorem wm_RX11_187 : Cond.methodLink RX11 187 yX11_isName ∈ gw ∧ Cond.instanceMethod yX11_isName ∈ gw ∧ Cond.selects RX11 yX11_isName yX11_isName ∈ gw ∧ Cond.initialized RX11 ∈ gw ∧ Cond.code yX11_isName cX11_isName 3 (some .boolean) ∈ gw := ⟨gw_at 1572 (by decide +kernel) rfl, wx_1574, wx_53, wx_125, wx_1575⟩
theorem wx_1578 : Cond.instanceMethod yX11_seek ∈ gw := gw_at 1578 (by decide +kernel) rfl
theorem wx_54 : Cond.selects RX11 yX11_seek yX11_seek ∈ gw := gw_at 54 (by decide +kernel) rfl
theorem wx_1579 : Cond.code yX11_seek cX11_seek 4 (some .int) ∈ gw := gw_at 1579 (by decide +kernel) rfl
theorem wm_RX11_191 : Cond.methodLink RX11 191 yX11_seek ∈ gw ∧ Cond.instanceMethod yX11_seek ∈ gw ∧ Cond.selects RX11 yX11_seek yX11_seek ∈ gw ∧ Cond.initialized RX11 ∈ gw ∧ Cond.code yX11_seek cX11_seek 4 (some .int) ∈ gw := ⟨gw_at 1576 (by decide +kernel) rfl, wx_1578, wx_54, wx_125, wx_1579⟩
theorem wx_1601 : Cond.instanceMethod yX11_looksAt ∈ gw := gw_at 1601 (by decide +kernel) rfl
theorem wx_59 : Cond.selects RX11 yX11_looksAt yX11_looksAt ∈ gw := gw_at 59 (by decide +kernel) rfl
theorem wx_1602 : Cond.code yX11_looksAt cX11_looksAt 3 (some .boolean) ∈ gw := gw_at 1602 (by decide +kernel) rfl
theorem wm_RX11_195 : Cond.methodLink RX11 195 yX11_looksAt ∈ gw ∧ Cond.instanceMethod yX11_looksAt ∈ gw ∧ Cond.selects RX11 yX11_looksAt yX11_looksAt ∈ gw ∧ Cond.initialized RX11 ∈ gw ∧ Cond.code yX11_looksAt cX11_looksAt 3 (some .boolean) ∈ gw := ⟨gw_at 1599 (by decide +kernel) rfl, wx_1601, wx_59, wx_125, wx_1602⟩
theorem wx_1558 : Cond.instanceMethod yX11_isWord ∈ gw := gw_at 1558 (by decide +kernel) rfl
theorem wx_49 : Cond.selects RX11 yX11_isWord yX11_isWord ∈ gw := gw_at 49 (by decide +kernel) rfl
theorem wx_1559 : Cond.code yX11_isWord cX11_isWord 3 (some .boolean) ∈ gw := gw_at 1559 (by decide +kernel) rfl
theorem wm_RX11_198 : Cond.methodLink RX11 198 yX11_isWord ∈ gw ∧ Cond.instanceMethod yX11_isWord ∈ gw ∧ Cond.selects RX11 yX11_isWord yX11_isWord ∈ gw ∧ Cond.initialized RX11 ∈ gw ∧ Cond.code yX11_isWord cX11_isWord 3 (some .boolean) ∈ gw := ⟨gw_at 1556 (by decide +kernel) rfl, wx_1558, wx_49, wx_125, wx_1559⟩
theorem wx_1562 : Cond.instanceMethod yX11_readThing ∈ gw := gw_at 1562 (by decide +kernel) rfl
theorem wx_50 : Cond.selects RX11 yX11_readThing yX11_readThing ∈ gw := gw_at 50 (by decide +kernel) rfl
theorem wx_1563 : Cond.code yX11_readThing cX11_readThing 2 (some .boolean) ∈ gw := gw_at 1563 (by decide +kernel) rfl
theorem wm_RX11_202 : Cond.methodLink RX11 202 yX11_readThing ∈ gw ∧ Cond.instanceMethod yX11_readThing ∈ gw ∧ Cond.selects RX11 yX11_readThing yX11_readThing ∈ gw ∧ Cond.initialized RX11 ∈ gw ∧ Cond.code yX11_readThing cX11_readThing 2 (some .boolean) ∈ gw := ⟨gw_at 1560 (by decide +kernel) rfl, wx_1562, wx_50, wx_125, wx_1563⟩
theorem wx_1593 : Cond.instanceMethod yX11_readPerson ∈ gw := gw_at 1593 (by decide +kernel) rfl
theorem wx_57 : Cond.selects RX11 yX11_readPerson yX11_readPerson ∈ gw := gw_at 57 (by decide +kernel) rfl
theorem wx_1594 : Cond.code yX11_readPerson cX11_readPerson 2 (some .boolean) ∈ gw := gw_at 1594 (by decide +kernel) rfl
theorem wm_RX11_205 : Cond.methodLink RX11 205 yX11_readPerson ∈ gw ∧ Cond.instanceMethod yX11_readPerson ∈ gw ∧ Cond.selects RX11 yX11_readPerson yX11_readPerson ∈ gw ∧ Cond.initialized RX11 ∈ gw ∧ Cond.code yX11_readPerson cX11_readPerson 2 (some .boolean) ∈ gw := ⟨gw_at 1591 (by decide +kernel) rfl, wx_1593, wx_57, wx_125, wx_1594⟩
theorem wx_1597 : Cond.instanceMethod yX11_readCaught ∈ gw := gw_at 1597 (by decide +kernel) rfl
theorem wx_58 : Cond.selects RX11 yX11_readCaught yX11_readCaught ∈ gw := gw_at 58 (by decide +kernel) rfl
theorem wx_1598 : Cond.code yX11_readCaught cX11_readCaught 2 (some .boolean) ∈ gw := gw_at 1598 (by decide +kernel) rfl
theorem wm_RX11_208 : Cond.methodLink RX11 208 yX11_readCaught ∈ gw ∧ Cond.instanceMethod yX11_readCaught ∈ gw ∧ Cond.selects RX11 yX11_readCaught yX11_readCaught ∈ gw ∧ Cond.initialized RX11 ∈ gw ∧ Cond.code yX11_readCaught cX11_readCaught 2 (some .boolean) ∈ gw := ⟨gw_at 1595 (by decide +kernel) rfl, wx_1597, wx_58, wx_125, wx_1598⟩
theorem wx_1609 : Cond.instanceMethod yX11_readDaily ∈ gw := gw_at 1609 (by decide +kernel) rfl
theorem wx_61 : Cond.selects RX11 yX11_readDaily yX11_readDaily ∈ gw := gw_at 61 (by decide +kernel) rfl
theorem wx_1610 : Cond.code yX11_readDaily cX11_readDaily 2 (some .boolean) ∈ gw := gw_at 1610 (by decide +kernel) rfl
theorem wm_RX11_211 : Cond.methodLink RX11 211 yX11_readDaily ∈ gw ∧ Cond.instanceMethod yX11_readDaily ∈ gw ∧ Cond.selects RX11 yX11_readDaily yX11_readDaily ∈ gw ∧ Cond.initialized RX11 ∈ gw ∧ Cond.code yX11_readDaily cX11_readDaily 2 (some .boolean) ∈ gw := ⟨gw_at 1607 (by decide +kernel) rfl, wx_1609, wx_61, wx_125, wx_1610⟩
theorem wx_1613 : Cond.instanceMethod yX11_readBed ∈ gw := gw_at 1613 (by decide +kernel) rfl
theorem wx_62 : Cond.selects RX11 yX11_readBed yX11_readBed ∈ gw := gw_at 62 (by decide +kernel) rfl
theorem wx_1614 : Cond.code yX11_readBed cX11_readBed 2 (some .boolean) ∈ gw := gw_at 1614 (by decide +kernel) rfl
theorem wm_RX11_214 : Cond.methodLink RX11 214 yX11_readBed ∈ gw ∧ Cond.instanceMethod yX11_readBed ∈ gw ∧ Cond.selects RX11 yX11_readBed yX11_readBed ∈ gw ∧ Cond.initialized RX11 ∈ gw ∧ Cond.code yX11_readBed cX11_readBed 2 (some .boolean) ∈ gw := ⟨gw_at 1611 (by decide +kernel) rfl, wx_1613, wx_62, wx_125, wx_1614⟩
theorem wx_1582 : Cond.instanceMethod yX11_puts ∈ gw := gw_at 1582 (by decide +kernel) rfl
theorem wx_55 : Cond.selects RX11 yX11_puts yX11_puts ∈ gw := gw_at 55 (by decide +kernel) rfl
theorem wx_1583 : Cond.code yX11_puts cX11_puts 4 (some .boolean) ∈ gw := gw_at 1583 (by decide +kernel) rfl
theorem wm_RX11_221 : Cond.methodLink RX11 221 yX11_puts ∈ gw ∧ Cond.instanceMethod yX11_puts ∈ gw ∧ Cond.selects RX11 yX11_puts yX11_puts ∈ gw ∧ Cond.initialized RX11 ∈ gw ∧ Cond.code yX11_puts cX11_puts 4 (some .boolean) ∈ gw := ⟨gw_at 1580 (by decide +kernel) rfl, wx_1582, wx_55, wx_125, wx_1583⟩
theorem wx_1570 : Cond.instanceMethod yX11_fresh ∈ gw := gw_at 1570 (by decide +kernel) rfl
theorem wx_52 : Cond.selects RX11 yX11_fresh yX11_fresh ∈ gw := gw_at 52 (by decide +kernel) rfl
theorem wx_1571 : Cond.code yX11_fresh cX11_fresh 2 (some .boolean) ∈ gw := gw_at 1571 (by decide +kernel) rfl
theorem wm_RX11_224 : Cond.methodLink RX11 224 yX11_fresh ∈ gw ∧ Cond.instanceMethod yX11_fresh ∈ gw ∧ Cond.selects RX11 yX11_fresh yX11_fresh ∈ gw ∧ Cond.initialized RX11 ∈ gw ∧ Cond.code yX11_fresh cX11_fresh 2 (some .boolean) ∈ gw := ⟨gw_at 1568 (by decide +kernel) rfl, wx_1570, wx_52, wx_125, wx_1571⟩
theorem wx_1605 : Cond.instanceMethod yX11_takesName ∈ gw := gw_at 1605 (by decide +kernel) rfl
theorem wx_60 : Cond.selects RX11 yX11_takesName yX11_takesName ∈ gw := gw_at 60 (by decide +kernel) rfl
theorem wx_1606 : Cond.code yX11_takesName cX11_takesName 3 (some .boolean) ∈ gw := gw_at 1606 (by decide +kernel) rfl
theorem wm_RX11_227 : Cond.methodLink RX11 227 yX11_takesName ∈ gw ∧ Cond.instanceMethod yX11_takesName ∈ gw ∧ Cond.selects RX11 yX11_takesName yX11_takesName ∈ gw ∧ Cond.initialized RX11 ∈ gw ∧ Cond.code yX11_takesName cX11_takesName 3 (some .boolean) ∈ gw := ⟨gw_at 1603 (by decide +kernel) rfl, wx_1605, wx_60, wx_125, wx_1606⟩
theorem wx_1536 : Cond.instanceMethod yX11_taken ∈ gw := gw_at 1536 (by decide +kernel) rfl
theorem wx_45 : Cond.selects RX11 yX11_taken yX11_taken ∈ gw := gw_at 45 (by decide +kernel) rfl
theorem wx_1537 : Cond.code yX11_taken cX11_taken 2 (none) ∈ gw := gw_at 1537 (by decide +kernel) rfl
theorem wm_RX11_230 : Cond.methodLink RX11 230 yX11_taken ∈ gw ∧ Cond.instanceMethod yX11_taken ∈ gw ∧ Cond.selects RX11 yX11_taken yX11_taken ∈ gw ∧ Cond.initialized RX11 ∈ gw ∧ Cond.code yX11_taken cX11_taken 2 (none) ∈ gw := ⟨gw_at 1534 (by decide +kernel) rfl, wx_1536, wx_45, wx_125, wx_1537⟩
theorem wx_1554 : Cond.instanceMethod yX11_readLine ∈ gw := gw_at 1554 (by decide +kernel) rfl
theorem wx_48 : Cond.selects RX11 yX11_readLine yX11_readLine ∈ gw := gw_at 48 (by decide +kernel) rfl
theorem wx_1555 : Cond.code yX11_readLine cX11_readLine 1 (some .boolean) ∈ gw := gw_at 1555 (by decide +kernel) rfl
theorem wm_RX11_236 : Cond.methodLink RX11 236 yX11_readLine ∈ gw ∧ Cond.instanceMethod yX11_readLine ∈ gw ∧ Cond.selects RX11 yX11_readLine yX11_readLine ∈ gw ∧ Cond.initialized RX11 ∈ gw ∧ Cond.code yX11_readLine cX11_readLine 1 (some .boolean) ∈ gw := ⟨gw_at 1552 (by decide +kernel) rfl, wx_1554, wx_48, wx_125, wx_1555⟩
theorem wx_1617 : Cond.instanceMethod yX11_sign ∈ gw := gw_at 1617 (by decide +kernel) rfl
theorem wx_63 : Cond.selects RX11 yX11_sign yX11_sign ∈ gw := gw_at 63 (by decide +kernel) rfl
theorem wx_1618 : Cond.code yX11_sign cX11_sign 2 (some .boolean) ∈ gw := gw_at 1618 (by decide +kernel) rfl
theorem wm_RX11_239 : Cond.methodLink RX11 239 yX11_sign ∈ gw ∧ Cond.instanceMethod yX11_sign ∈ gw ∧ Cond.selects RX11 yX11_sign yX11_sign ∈ gw ∧ Cond.initialized RX11 ∈ gw ∧ Cond.code yX11_sign cX11_sign 2 (some .boolean) ∈ gw := ⟨gw_at 1615 (by decide +kernel) rfl, wx_1617, wx_63, wx_125, wx_1618⟩
theorem wx_1649 : Cond.instanceMethod yX11_fromOutside ∈ gw := gw_at 1649 (by decide +kernel) rfl
theorem wx_69 : Cond.selects RX11 yX11_fromOutside yX11_fromOutside ∈ gw := gw_at 69 (by decide +kernel) rfl
theorem wx_1650 : Cond.code yX11_fromOutside cX11_fromOutside 3 (some .int) ∈ gw := gw_at 1650 (by decide +kernel) rfl
theorem wm_RX11_245 : Cond.methodLink RX11 245 yX11_fromOutside ∈ gw ∧ Cond.instanceMethod yX11_fromOutside ∈ gw ∧ Cond.selects RX11 yX11_fromOutside yX11_fromOutside ∈ gw ∧ Cond.initialized RX11 ∈ gw ∧ Cond.code yX11_fromOutside cX11_fromOutside 3 (some .int) ∈ gw := ⟨gw_at 1647 (by decide +kernel) rfl, wx_1649, wx_69, wx_125, wx_1650⟩
theorem wx_1645 : Cond.instanceMethod yX11_knotAt ∈ gw := gw_at 1645 (by decide +kernel) rfl
theorem wx_68 : Cond.selects RX11 yX11_knotAt yX11_knotAt ∈ gw := gw_at 68 (by decide +kernel) rfl
theorem wx_1646 : Cond.code yX11_knotAt cX11_knotAt 4 (some .int) ∈ gw := gw_at 1646 (by decide +kernel) rfl
theorem wm_RX11_248 : Cond.methodLink RX11 248 yX11_knotAt ∈ gw ∧ Cond.instanceMethod yX11_knotAt ∈ gw ∧ Cond.selects RX11 yX11_knotAt yX11_knotAt ∈ gw ∧ Cond.initialized RX11 ∈ gw ∧ Cond.code yX11_knotAt cX11_knotAt 4 (some .int) ∈ gw := ⟨gw_at 1643 (by decide +kernel) rfl, wx_1645, wx_68, wx_125, wx_1646⟩
theorem wx_1693 : Cond.instanceMethod yX11_isSlept ∈ gw := gw_at 1693 (by decide +kernel) rfl
theorem wx_77 : Cond.selects RX11 yX11_isSlept yX11_isSlept ∈ gw := gw_at 77 (by decide +kernel) rfl
theorem wx_1694 : Cond.code yX11_isSlept cX11_isSlept 2 (some .boolean) ∈ gw := gw_at 1694 (by decide +kernel) rfl
theorem wm_RX11_251 : Cond.methodLink RX11 251 yX11_isSlept ∈ gw ∧ Cond.instanceMethod yX11_isSlept ∈ gw ∧ Cond.selects RX11 yX11_isSlept yX11_isSlept ∈ gw ∧ Cond.initialized RX11 ∈ gw ∧ Cond.code yX11_isSlept cX11_isSlept 2 (some .boolean) ∈ gw := ⟨gw_at 1691 (by decide +kernel) rfl, wx_1693, wx_77, wx_125, wx_1694⟩
theorem wx_1633 : Cond.instanceMethod yX11_isPerson ∈ gw := gw_at 1633 (by decide +kernel) rfl
theorem wx_65 : Cond.selects RX11 yX11_isPerson yX11_isPerson ∈ gw := gw_at 65 (by decide +kernel) rfl
theorem wx_1634 : Cond.code yX11_isPerson cX11_isPerson 2 (some .boolean) ∈ gw := gw_at 1634 (by decide +kernel) rfl
theorem wm_RX11_254 : Cond.methodLink RX11 254 yX11_isPerson ∈ gw ∧ Cond.instanceMethod yX11_isPerson ∈ gw ∧ Cond.selects RX11 yX11_isPerson yX11_isPerson ∈ gw ∧ Cond.initialized RX11 ∈ gw ∧ Cond.code yX11_isPerson cX11_isPerson 2 (some .boolean) ∈ gw := ⟨gw_at 1631 (by decide +kernel) rfl, wx_1633, wx_65, wx_125, wx_1634⟩
theorem wx_1637 : Cond.instanceMethod yX11_throwsIf ∈ gw := gw_at 1637 (by decide +kernel) rfl
theorem wx_66 : Cond.selects RX11 yX11_throwsIf yX11_throwsIf ∈ gw := gw_at 66 (by decide +kernel) rfl
theorem wx_1638 : Cond.code yX11_throwsIf cX11_throwsIf 2 (some .boolean) ∈ gw := gw_at 1638 (by decide +kernel) rfl
theorem wm_RX11_257 : Cond.methodLink RX11 257 yX11_throwsIf ∈ gw ∧ Cond.instanceMethod yX11_throwsIf ∈ gw ∧ Cond.selects RX11 yX11_throwsIf yX11_throwsIf ∈ gw ∧ Cond.initialized RX11 ∈ gw ∧ Cond.code yX11_throwsIf cX11_throwsIf 2 (some .boolean) ∈ gw := ⟨gw_at 1635 (by decide +kernel) rfl, wx_1637, wx_66, wx_125, wx_1638⟩
theorem wx_1641 : Cond.instanceMethod yX11_knotsOf ∈ gw := gw_at 1641 (by decide +kernel) rfl
theorem wx_67 : Cond.selects RX11 yX11_knotsOf yX11_knotsOf ∈ gw := gw_at 67 (by decide +kernel) rfl
theorem wx_1642 : Cond.code yX11_knotsOf cX11_knotsOf 4 (some .int) ∈ gw := gw_at 1642 (by decide +kernel) rfl
theorem wm_RX11_261 : Cond.methodLink RX11 261 yX11_knotsOf ∈ gw ∧ Cond.instanceMethod yX11_knotsOf ∈ gw ∧ Cond.selects RX11 yX11_knotsOf yX11_knotsOf ∈ gw ∧ Cond.initialized RX11 ∈ gw ∧ Cond.code yX11_knotsOf cX11_knotsOf 4 (some .int) ∈ gw := ⟨gw_at 1639 (by decide +kernel) rfl, wx_1641, wx_67, wx_125, wx_1642⟩
theorem wx_1653 : Cond.instanceMethod yX11_knotHolds ∈ gw := gw_at 1653 (by decide +kernel) rfl
theorem wx_70 : Cond.selects RX11 yX11_knotHolds yX11_knotHolds ∈ gw := gw_at 70 (by decide +kernel) rfl
theorem wx_1654 : Cond.code yX11_knotHolds cX11_knotHolds 3 (some .int) ∈ gw := gw_at 1654 (by decide +kernel) rfl
theorem wm_RX11_265 : Cond.methodLink RX11 265 yX11_knotHolds ∈ gw ∧ Cond.instanceMethod yX11_knotHolds ∈ gw ∧ Cond.selects RX11 yX11_knotHolds yX11_knotHolds ∈ gw ∧ Cond.initialized RX11 ∈ gw ∧ Cond.code yX11_knotHolds cX11_knotHolds 3 (some .int) ∈ gw := ⟨gw_at 1651 (by decide +kernel) rfl, wx_1653, wx_70, wx_125, wx_1654⟩
theorem wx_1657 : Cond.instanceMethod yX11_holdsOf ∈ gw := gw_at 1657 (by decide +kernel) rfl
theorem wx_71 : Cond.selects RX11 yX11_holdsOf yX11_holdsOf ∈ gw := gw_at 71 (by decide +kernel) rfl
theorem wx_1658 : Cond.code yX11_holdsOf cX11_holdsOf 4 (some .int) ∈ gw := gw_at 1658 (by decide +kernel) rfl
theorem wm_RX11_268 : Cond.methodLink RX11 268 yX11_holdsOf ∈ gw ∧ Cond.instanceMethod yX11_holdsOf ∈ gw ∧ Cond.selects RX11 yX11_holdsOf yX11_holdsOf ∈ gw ∧ Cond.initialized RX11 ∈ gw ∧ Cond.code yX11_holdsOf cX11_holdsOf 4 (some .int) ∈ gw := ⟨gw_at 1655 (by decide +kernel) rfl, wx_1657, wx_71, wx_125, wx_1658⟩
theorem wx_1661 : Cond.instanceMethod yX11_isNest ∈ gw := gw_at 1661 (by decide +kernel) rfl
theorem wx_72 : Cond.selects RX11 yX11_isNest yX11_isNest ∈ gw := gw_at 72 (by decide +kernel) rfl
theorem wx_1662 : Cond.code yX11_isNest cX11_isNest 2 (some .boolean) ∈ gw := gw_at 1662 (by decide +kernel) rfl
theorem wm_RX11_271 : Cond.methodLink RX11 271 yX11_isNest ∈ gw ∧ Cond.instanceMethod yX11_isNest ∈ gw ∧ Cond.selects RX11 yX11_isNest yX11_isNest ∈ gw ∧ Cond.initialized RX11 ∈ gw ∧ Cond.code yX11_isNest cX11_isNest 2 (some .boolean) ∈ gw := ⟨gw_at 1659 (by decide +kernel) rfl, wx_1661, wx_72, wx_125, wx_1662⟩
theorem wx_1673 : Cond.instanceMethod yX11_isThing ∈ gw := gw_at 1673 (by decide +kernel) rfl
theorem wx_73 : Cond.selects RX11 yX11_isThing yX11_isThing ∈ gw := gw_at 73 (by decide +kernel) rfl
theorem wx_1674 : Cond.code yX11_isThing cX11_isThing 2 (some .boolean) ∈ gw := gw_at 1674 (by decide +kernel) rfl
theorem wm_RX11_274 : Cond.methodLink RX11 274 yX11_isThing ∈ gw ∧ Cond.instanceMethod yX11_isThing ∈ gw ∧ Cond.selects RX11 yX11_isThing yX11_isThing ∈ gw ∧ Cond.initialized RX11 ∈ gw ∧ Cond.code yX11_isThing cX11_isThing 2 (some .boolean) ∈ gw := ⟨gw_at 1671 (by decide +kernel) rfl, wx_1673, wx_73, wx_125, wx_1674⟩
theorem wx_1677 : Cond.instanceMethod yX11_hasThing ∈ gw := gw_at 1677 (by decide +kernel) rfl
theorem wx_74 : Cond.selects RX11 yX11_hasThing yX11_hasThing ∈ gw := gw_at 74 (by decide +kernel) rfl
theorem wx_1678 : Cond.code yX11_hasThing cX11_hasThing 5 (some .boolean) ∈ gw := gw_at 1678 (by decide +kernel) rfl
theorem wm_RX11_277 : Cond.methodLink RX11 277 yX11_hasThing ∈ gw ∧ Cond.instanceMethod yX11_hasThing ∈ gw ∧ Cond.selects RX11 yX11_hasThing yX11_hasThing ∈ gw ∧ Cond.initialized RX11 ∈ gw ∧ Cond.code yX11_hasThing cX11_hasThing 5 (some .boolean) ∈ gw := ⟨gw_at 1675 (by decide +kernel) rfl, wx_1677, wx_74, wx_125, wx_1678⟩
theorem wx_1681 : Cond.instanceMethod yX11_stillOf ∈ gw := gw_at 1681 (by decide +kernel) rfl
theorem wx_75 : Cond.selects RX11 yX11_stillOf yX11_stillOf ∈ gw := gw_at 75 (by decide +kernel) rfl
theorem wx_1682 : Cond.code yX11_stillOf cX11_stillOf 5 (some .int) ∈ gw := gw_at 1682 (by decide +kernel) rfl
theorem wm_RX11_280 : Cond.methodLink RX11 280 yX11_stillOf ∈ gw ∧ Cond.instanceMethod yX11_stillOf ∈ gw ∧ Cond.selects RX11 yX11_stillOf yX11_stillOf ∈ gw ∧ Cond.initialized RX11 ∈ gw ∧ Cond.code yX11_stillOf cX11_stillOf 5 (some .int) ∈ gw := ⟨gw_at 1679 (by decide +kernel) rfl, wx_1681, wx_75, wx_125, wx_1682⟩
theorem wx_1689 : Cond.instanceMethod yX11_isBed ∈ gw := gw_at 1689 (by decide +kernel) rfl
theorem wx_76 : Cond.selects RX11 yX11_isBed yX11_isBed ∈ gw := gw_at 76 (by decide +kernel) rfl
theorem wx_1690 : Cond.code yX11_isBed cX11_isBed 2 (some .boolean) ∈ gw := gw_at 1690 (by decide +kernel) rfl
theorem wm_RX11_283 : Cond.methodLink RX11 283 yX11_isBed ∈ gw ∧ Cond.instanceMethod yX11_isBed ∈ gw ∧ Cond.selects RX11 yX11_isBed yX11_isBed ∈ gw ∧ Cond.initialized RX11 ∈ gw ∧ Cond.code yX11_isBed cX11_isBed 2 (some .boolean) ∈ gw := ⟨gw_at 1687 (by decide +kernel) rfl, wx_1689, wx_76, wx_125, wx_1690⟩
theorem wx_1701 : Cond.instanceMethod yX11_bagged ∈ gw := gw_at 1701 (by decide +kernel) rfl
theorem wx_78 : Cond.selects RX11 yX11_bagged yX11_bagged ∈ gw := gw_at 78 (by decide +kernel) rfl
theorem wx_1702 : Cond.code yX11_bagged cX11_bagged 3 (some .int) ∈ gw := gw_at 1702 (by decide +kernel) rfl
theorem wm_RX11_286 : Cond.methodLink RX11 286 yX11_bagged ∈ gw ∧ Cond.instanceMethod yX11_bagged ∈ gw ∧ Cond.selects RX11 yX11_bagged yX11_bagged ∈ gw ∧ Cond.initialized RX11 ∈ gw ∧ Cond.code yX11_bagged cX11_bagged 3 (some .int) ∈ gw := ⟨gw_at 1699 (by decide +kernel) rfl, wx_1701, wx_78, wx_125, wx_1702⟩
theorem wx_1705 : Cond.instanceMethod yX11_sleptOn ∈ gw := gw_at 1705 (by decide +kernel) rfl
theorem wx_79 : Cond.selects RX11 yX11_sleptOn yX11_sleptOn ∈ gw := gw_at 79 (by decide +kernel) rfl
theorem wx_1706 : Cond.code yX11_sleptOn cX11_sleptOn 3 (some .int) ∈ gw := gw_at 1706 (by decide +kernel) rfl
theorem wm_RX11_289 : Cond.methodLink RX11 289 yX11_sleptOn ∈ gw ∧ Cond.instanceMethod yX11_sleptOn ∈ gw ∧ Cond.selects RX11 yX11_sleptOn yX11_sleptOn ∈ gw ∧ Cond.initialized RX11 ∈ gw ∧ Cond.code yX11_sleptOn cX11_sleptOn 3 (some .int) ∈ gw := ⟨gw_at 1703 (by decide +kernel) rfl, wx_1705, wx_79, wx_125, wx_1706⟩
theorem wx_1728 : Cond.static yX11_lesser ∈ gw := gw_at 1728 (by decide +kernel) rfl
theorem wx_1729 : Cond.code yX11_lesser cX11_lesser 2 (some .int) ∈ gw := gw_at 1729 (by decide +kernel) rfl
theorem wm_RX11_292 : Cond.methodLink RX11 292 yX11_lesser ∈ gw ∧ Cond.static yX11_lesser ∈ gw ∧ Cond.initialized yX11_lesser.cls ∈ gw ∧ Cond.code yX11_lesser cX11_lesser 2 (some .int) ∈ gw := ⟨gw_at 1727 (by decide +kernel) rfl, wx_1728, wx_125, wx_1729⟩
theorem wx_1725 : Cond.instanceMethod yX11_draws ∈ gw := gw_at 1725 (by decide +kernel) rfl
theorem wx_83 : Cond.selects RX11 yX11_draws yX11_draws ∈ gw := gw_at 83 (by decide +kernel) rfl
theorem wx_1726 : Cond.code yX11_draws cX11_draws 6 (none) ∈ gw := gw_at 1726 (by decide +kernel) rfl
theorem wm_RX11_295 : Cond.methodLink RX11 295 yX11_draws ∈ gw ∧ Cond.instanceMethod yX11_draws ∈ gw ∧ Cond.selects RX11 yX11_draws yX11_draws ∈ gw ∧ Cond.initialized RX11 ∈ gw ∧ Cond.code yX11_draws cX11_draws 6 (none) ∈ gw := ⟨gw_at 1723 (by decide +kernel) rfl, wx_1725, wx_83, wx_125, wx_1726⟩
theorem wx_1744 : Cond.instanceMethod yX11_catches ∈ gw := gw_at 1744 (by decide +kernel) rfl
theorem wx_85 : Cond.selects RX11 yX11_catches yX11_catches ∈ gw := gw_at 85 (by decide +kernel) rfl
theorem wx_1745 : Cond.code yX11_catches cX11_catches 3 (none) ∈ gw := gw_at 1745 (by decide +kernel) rfl
theorem wm_RX11_299 : Cond.methodLink RX11 299 yX11_catches ∈ gw ∧ Cond.instanceMethod yX11_catches ∈ gw ∧ Cond.selects RX11 yX11_catches yX11_catches ∈ gw ∧ Cond.initialized RX11 ∈ gw ∧ Cond.code yX11_catches cX11_catches 3 (none) ∈ gw := ⟨gw_at 1742 (by decide +kernel) rfl, wx_1744, wx_85, wx_125, wx_1745⟩
theorem wx_1764 : Cond.instanceMethod yX11_day ∈ gw := gw_at 1764 (by decide +kernel) rfl
theorem wx_88 : Cond.selects RX11 yX11_day yX11_day ∈ gw := gw_at 88 (by decide +kernel) rfl
theorem wx_1765 : Cond.code yX11_day cX11_day 2 (none) ∈ gw := gw_at 1765 (by decide +kernel) rfl
theorem wm_RX11_303 : Cond.methodLink RX11 303 yX11_day ∈ gw ∧ Cond.instanceMethod yX11_day ∈ gw ∧ Cond.selects RX11 yX11_day yX11_day ∈ gw ∧ Cond.initialized RX11 ∈ gw ∧ Cond.code yX11_day cX11_day 2 (none) ∈ gw := ⟨gw_at 1762 (by decide +kernel) rfl, wx_1764, wx_88, wx_125, wx_1765⟩
theorem wx_1713 : Cond.instanceMethod yX11_whyStroke ∈ gw := gw_at 1713 (by decide +kernel) rfl
theorem wx_80 : Cond.selects RX11 yX11_whyStroke yX11_whyStroke ∈ gw := gw_at 80 (by decide +kernel) rfl
theorem wx_1714 : Cond.code yX11_whyStroke cX11_whyStroke 3 (some .int) ∈ gw := gw_at 1714 (by decide +kernel) rfl
theorem wm_RX11_306 : Cond.methodLink RX11 306 yX11_whyStroke ∈ gw ∧ Cond.instanceMethod yX11_whyStroke ∈ gw ∧ Cond.selects RX11 yX11_whyStroke yX11_whyStroke ∈ gw ∧ Cond.initialized RX11 ∈ gw ∧ Cond.code yX11_whyStroke cX11_whyStroke 3 (some .int) ∈ gw := ⟨gw_at 1711 (by decide +kernel) rfl, wx_1713, wx_80, wx_125, wx_1714⟩
theorem wx_1717 : Cond.instanceMethod yX11_keep ∈ gw := gw_at 1717 (by decide +kernel) rfl
theorem wx_81 : Cond.selects RX11 yX11_keep yX11_keep ∈ gw := gw_at 81 (by decide +kernel) rfl
theorem wx_1718 : Cond.code yX11_keep cX11_keep 2 (none) ∈ gw := gw_at 1718 (by decide +kernel) rfl
theorem wm_RX11_309 : Cond.methodLink RX11 309 yX11_keep ∈ gw ∧ Cond.instanceMethod yX11_keep ∈ gw ∧ Cond.selects RX11 yX11_keep yX11_keep ∈ gw ∧ Cond.initialized RX11 ∈ gw ∧ Cond.code yX11_keep cX11_keep 2 (none) ∈ gw := ⟨gw_at 1715 (by decide +kernel) rfl, wx_1717, wx_81, wx_125, wx_1718⟩
theorem wx_1721 : Cond.instanceMethod yX11_strokes ∈ gw := gw_at 1721 (by decide +kernel) rfl
theorem wx_82 : Cond.selects RX11 yX11_strokes yX11_strokes ∈ gw := gw_at 82 (by decide +kernel) rfl
theorem wx_1722 : Cond.code yX11_strokes cX11_strokes 4 (none) ∈ gw := gw_at 1722 (by decide +kernel) rfl
theorem wm_RX11_312 : Cond.methodLink RX11 312 yX11_strokes ∈ gw ∧ Cond.instanceMethod yX11_strokes ∈ gw ∧ Cond.selects RX11 yX11_strokes yX11_strokes ∈ gw ∧ Cond.initialized RX11 ∈ gw ∧ Cond.code yX11_strokes cX11_strokes 4 (none) ∈ gw := ⟨gw_at 1719 (by decide +kernel) rfl, wx_1721, wx_82, wx_125, wx_1722⟩
theorem wx_1736 : Cond.instanceMethod yX11_cuts ∈ gw := gw_at 1736 (by decide +kernel) rfl
theorem wx_84 : Cond.selects RX11 yX11_cuts yX11_cuts ∈ gw := gw_at 84 (by decide +kernel) rfl
theorem wx_1737 : Cond.code yX11_cuts cX11_cuts 2 (none) ∈ gw := gw_at 1737 (by decide +kernel) rfl
theorem wm_RX11_315 : Cond.methodLink RX11 315 yX11_cuts ∈ gw ∧ Cond.instanceMethod yX11_cuts ∈ gw ∧ Cond.selects RX11 yX11_cuts yX11_cuts ∈ gw ∧ Cond.initialized RX11 ∈ gw ∧ Cond.code yX11_cuts cX11_cuts 2 (none) ∈ gw := ⟨gw_at 1734 (by decide +kernel) rfl, wx_1736, wx_84, wx_125, wx_1737⟩
theorem wx_1752 : Cond.instanceMethod yX11_stuffs ∈ gw := gw_at 1752 (by decide +kernel) rfl
theorem wx_86 : Cond.selects RX11 yX11_stuffs yX11_stuffs ∈ gw := gw_at 86 (by decide +kernel) rfl
theorem wx_1753 : Cond.code yX11_stuffs cX11_stuffs 3 (none) ∈ gw := gw_at 1753 (by decide +kernel) rfl
theorem wm_RX11_318 : Cond.methodLink RX11 318 yX11_stuffs ∈ gw ∧ Cond.instanceMethod yX11_stuffs ∈ gw ∧ Cond.selects RX11 yX11_stuffs yX11_stuffs ∈ gw ∧ Cond.initialized RX11 ∈ gw ∧ Cond.code yX11_stuffs cX11_stuffs 3 (none) ∈ gw := ⟨gw_at 1750 (by decide +kernel) rfl, wx_1752, wx_86, wx_125, wx_1753⟩
theorem wx_1760 : Cond.instanceMethod yX11_goesOn ∈ gw := gw_at 1760 (by decide +kernel) rfl
theorem wx_87 : Cond.selects RX11 yX11_goesOn yX11_goesOn ∈ gw := gw_at 87 (by decide +kernel) rfl
theorem wx_1761 : Cond.code yX11_goesOn cX11_goesOn 3 (some .int) ∈ gw := gw_at 1761 (by decide +kernel) rfl
theorem wm_RX11_321 : Cond.methodLink RX11 321 yX11_goesOn ∈ gw ∧ Cond.instanceMethod yX11_goesOn ∈ gw ∧ Cond.selects RX11 yX11_goesOn yX11_goesOn ∈ gw ∧ Cond.initialized RX11 ∈ gw ∧ Cond.code yX11_goesOn cX11_goesOn 3 (some .int) ∈ gw := ⟨gw_at 1758 (by decide +kernel) rfl, wx_1760, wx_87, wx_125, wx_1761⟩
theorem wx_1776 : Cond.instanceMethod yX11_easeBy ∈ gw := gw_at 1776 (by decide +kernel) rfl
theorem wx_89 : Cond.selects RX11 yX11_easeBy yX11_easeBy ∈ gw := gw_at 89 (by decide +kernel) rfl
theorem wx_1777 : Cond.code yX11_easeBy cX11_easeBy 6 (some .int) ∈ gw := gw_at 1777 (by decide +kernel) rfl
theorem wm_RX11_324 : Cond.methodLink RX11 324 yX11_easeBy ∈ gw ∧ Cond.instanceMethod yX11_easeBy ∈ gw ∧ Cond.selects RX11 yX11_easeBy yX11_easeBy ∈ gw ∧ Cond.initialized RX11 ∈ gw ∧ Cond.code yX11_easeBy cX11_easeBy 6 (some .int) ∈ gw := ⟨gw_at 1774 (by decide +kernel) rfl, wx_1776, wx_89, wx_125, wx_1777⟩
theorem wx_1784 : Cond.instanceMethod yX11_tries ∈ gw := gw_at 1784 (by decide +kernel) rfl
theorem wx_90 : Cond.selects RX11 yX11_tries yX11_tries ∈ gw := gw_at 90 (by decide +kernel) rfl
theorem wx_1785 : Cond.code yX11_tries cX11_tries 2 (none) ∈ gw := gw_at 1785 (by decide +kernel) rfl
theorem wm_RX11_327 : Cond.methodLink RX11 327 yX11_tries ∈ gw ∧ Cond.instanceMethod yX11_tries ∈ gw ∧ Cond.selects RX11 yX11_tries yX11_tries ∈ gw ∧ Cond.initialized RX11 ∈ gw ∧ Cond.code yX11_tries cX11_tries 2 (none) ∈ gw := ⟨gw_at 1782 (by decide +kernel) rfl, wx_1784, wx_90, wx_125, wx_1785⟩
theorem wx_1788 : Cond.instanceMethod yX11_back ∈ gw := gw_at 1788 (by decide +kernel) rfl
theorem wx_91 : Cond.selects RX11 yX11_back yX11_back ∈ gw := gw_at 91 (by decide +kernel) rfl
theorem wx_1789 : Cond.code yX11_back cX11_back 2 (none) ∈ gw := gw_at 1789 (by decide +kernel) rfl
theorem wm_RX11_330 : Cond.methodLink RX11 330 yX11_back ∈ gw ∧ Cond.instanceMethod yX11_back ∈ gw ∧ Cond.selects RX11 yX11_back yX11_back ∈ gw ∧ Cond.initialized RX11 ∈ gw ∧ Cond.code yX11_back cX11_back 2 (none) ∈ gw := ⟨gw_at 1786 (by decide +kernel) rfl, wx_1788, wx_91, wx_125, wx_1789⟩
theorem wx_1795 : Cond.static yX11_bitOf ∈ gw := gw_at 1795 (by decide +kernel) rfl
theorem wx_1796 : Cond.code yX11_bitOf cX11_bitOf 2 (some .boolean) ∈ gw := gw_at 1796 (by decide +kernel) rfl
theorem wm_RX11_333 : Cond.methodLink RX11 333 yX11_bitOf ∈ gw ∧ Cond.static yX11_bitOf ∈ gw ∧ Cond.initialized yX11_bitOf.cls ∈ gw ∧ Cond.code yX11_bitOf cX11_bitOf 2 (some .boolean) ∈ gw := ⟨gw_at 1794 (by decide +kernel) rfl, wx_1795, wx_125, wx_1796⟩
theorem wx_1798 : Cond.static yX11_bits ∈ gw := gw_at 1798 (by decide +kernel) rfl
theorem wx_1799 : Cond.code yX11_bits cX11_bits 3 (some .int) ∈ gw := gw_at 1799 (by decide +kernel) rfl
theorem wm_RX11_336 : Cond.methodLink RX11 336 yX11_bits ∈ gw ∧ Cond.static yX11_bits ∈ gw ∧ Cond.initialized yX11_bits.cls ∈ gw ∧ Cond.code yX11_bits cX11_bits 3 (some .int) ∈ gw := ⟨gw_at 1797 (by decide +kernel) rfl, wx_1798, wx_125, wx_1799⟩
theorem wx_1810 : Cond.instanceMethod yX11_laysBag ∈ gw := gw_at 1810 (by decide +kernel) rfl
theorem wx_92 : Cond.selects RX11 yX11_laysBag yX11_laysBag ∈ gw := gw_at 92 (by decide +kernel) rfl
theorem wx_1811 : Cond.code yX11_laysBag cX11_laysBag 4 (some .int) ∈ gw := gw_at 1811 (by decide +kernel) rfl
theorem wm_RX11_345 : Cond.methodLink RX11 345 yX11_laysBag ∈ gw ∧ Cond.instanceMethod yX11_laysBag ∈ gw ∧ Cond.selects RX11 yX11_laysBag yX11_laysBag ∈ gw ∧ Cond.initialized RX11 ∈ gw ∧ Cond.code yX11_laysBag cX11_laysBag 4 (some .int) ∈ gw := ⟨gw_at 1808 (by decide +kernel) rfl, wx_1810, wx_92, wx_125, wx_1811⟩
theorem wx_1814 : Cond.instanceMethod yX11_fills ∈ gw := gw_at 1814 (by decide +kernel) rfl
theorem wx_93 : Cond.selects RX11 yX11_fills yX11_fills ∈ gw := gw_at 93 (by decide +kernel) rfl
theorem wx_1815 : Cond.code yX11_fills cX11_fills 9 (some .boolean) ∈ gw := gw_at 1815 (by decide +kernel) rfl
theorem wm_RX11_348 : Cond.methodLink RX11 348 yX11_fills ∈ gw ∧ Cond.instanceMethod yX11_fills ∈ gw ∧ Cond.selects RX11 yX11_fills yX11_fills ∈ gw ∧ Cond.initialized RX11 ∈ gw ∧ Cond.code yX11_fills cX11_fills 9 (some .boolean) ∈ gw := ⟨gw_at 1812 (by decide +kernel) rfl, wx_1814, wx_93, wx_125, wx_1815⟩
theorem wx_1826 : Cond.instanceMethod yX11_octet ∈ gw := gw_at 1826 (by decide +kernel) rfl
theorem wx_94 : Cond.selects RX11 yX11_octet yX11_octet ∈ gw := gw_at 94 (by decide +kernel) rfl
theorem wx_1827 : Cond.code yX11_octet cX11_octet 2 (some .int) ∈ gw := gw_at 1827 (by decide +kernel) rfl
theorem wm_RX11_357 : Cond.methodLink RX11 357 yX11_octet ∈ gw ∧ Cond.instanceMethod yX11_octet ∈ gw ∧ Cond.selects RX11 yX11_octet yX11_octet ∈ gw ∧ Cond.initialized RX11 ∈ gw ∧ Cond.code yX11_octet cX11_octet 2 (some .int) ∈ gw := ⟨gw_at 1824 (by decide +kernel) rfl, wx_1826, wx_94, wx_125, wx_1827⟩
theorem wx_1837 : Cond.static yX11_greater ∈ gw := gw_at 1837 (by decide +kernel) rfl
theorem wx_1838 : Cond.code yX11_greater cX11_greater 2 (some .int) ∈ gw := gw_at 1838 (by decide +kernel) rfl
theorem wm_RX11_360 : Cond.methodLink RX11 360 yX11_greater ∈ gw ∧ Cond.static yX11_greater ∈ gw ∧ Cond.initialized yX11_greater.cls ∈ gw ∧ Cond.code yX11_greater cX11_greater 2 (some .int) ∈ gw := ⟨gw_at 1836 (by decide +kernel) rfl, wx_1837, wx_125, wx_1838⟩
theorem wx_1830 : Cond.instanceMethod yX11_isFit ∈ gw := gw_at 1830 (by decide +kernel) rfl
theorem wx_95 : Cond.selects RX11 yX11_isFit yX11_isFit ∈ gw := gw_at 95 (by decide +kernel) rfl
theorem wx_1831 : Cond.code yX11_isFit cX11_isFit 4 (some .boolean) ∈ gw := gw_at 1831 (by decide +kernel) rfl
theorem wm_RX11_363 : Cond.methodLink RX11 363 yX11_isFit ∈ gw ∧ Cond.instanceMethod yX11_isFit ∈ gw ∧ Cond.selects RX11 yX11_isFit yX11_isFit ∈ gw ∧ Cond.initialized RX11 ∈ gw ∧ Cond.code yX11_isFit cX11_isFit 4 (some .boolean) ∈ gw := ⟨gw_at 1828 (by decide +kernel) rfl, wx_1830, wx_95, wx_125, wx_1831⟩
theorem wx_1834 : Cond.instanceMethod yX11_leftBy ∈ gw := gw_at 1834 (by decide +kernel) rfl
theorem wx_96 : Cond.selects RX11 yX11_leftBy yX11_leftBy ∈ gw := gw_at 96 (by decide +kernel) rfl
theorem wx_1835 : Cond.code yX11_leftBy cX11_leftBy 7 (some .int) ∈ gw := gw_at 1835 (by decide +kernel) rfl
theorem wm_RX11_372 : Cond.methodLink RX11 372 yX11_leftBy ∈ gw ∧ Cond.instanceMethod yX11_leftBy ∈ gw ∧ Cond.selects RX11 yX11_leftBy yX11_leftBy ∈ gw ∧ Cond.initialized RX11 ∈ gw ∧ Cond.code yX11_leftBy cX11_leftBy 7 (some .int) ∈ gw := ⟨gw_at 1832 (by decide +kernel) rfl, wx_1834, wx_96, wx_125, wx_1835⟩
theorem wx_1849 : Cond.instanceMethod yX11_isLike ∈ gw := gw_at 1849 (by decide +kernel) rfl
theorem wx_97 : Cond.selects RX11 yX11_isLike yX11_isLike ∈ gw := gw_at 97 (by decide +kernel) rfl
theorem wx_1850 : Cond.code yX11_isLike cX11_isLike 5 (some .boolean) ∈ gw := gw_at 1850 (by decide +kernel) rfl
theorem wm_RX11_375 : Cond.methodLink RX11 375 yX11_isLike ∈ gw ∧ Cond.instanceMethod yX11_isLike ∈ gw ∧ Cond.selects RX11 yX11_isLike yX11_isLike ∈ gw ∧ Cond.initialized RX11 ∈ gw ∧ Cond.code yX11_isLike cX11_isLike 5 (some .boolean) ∈ gw := ⟨gw_at 1847 (by decide +kernel) rfl, wx_1849, wx_97, wx_125, wx_1850⟩
theorem wx_1870 : Cond.instanceMethod yX11_lays ∈ gw := gw_at 1870 (by decide +kernel) rfl
theorem wx_99 : Cond.selects RX11 yX11_lays yX11_lays ∈ gw := gw_at 99 (by decide +kernel) rfl
theorem wx_1871 : Cond.code yX11_lays cX11_lays 2 (none) ∈ gw := gw_at 1871 (by decide +kernel) rfl
theorem wm_RX11_383 : Cond.methodLink RX11 383 yX11_lays ∈ gw ∧ Cond.instanceMethod yX11_lays ∈ gw ∧ Cond.selects RX11 yX11_lays yX11_lays ∈ gw ∧ Cond.initialized RX11 ∈ gw ∧ Cond.code yX11_lays cX11_lays 2 (none) ∈ gw := ⟨gw_at 1868 (by decide +kernel) rfl, wx_1870, wx_99, wx_125, wx_1871⟩
theorem wx_1865 : Cond.instanceMethod yX11_spells ∈ gw := gw_at 1865 (by decide +kernel) rfl
theorem wx_98 : Cond.selects RX11 yX11_spells yX11_spells ∈ gw := gw_at 98 (by decide +kernel) rfl
theorem wx_1866 : Cond.code yX11_spells cX11_spells 4 (none) ∈ gw := gw_at 1866 (by decide +kernel) rfl
theorem wm_RX11_386 : Cond.methodLink RX11 386 yX11_spells ∈ gw ∧ Cond.instanceMethod yX11_spells ∈ gw ∧ Cond.selects RX11 yX11_spells yX11_spells ∈ gw ∧ Cond.initialized RX11 ∈ gw ∧ Cond.code yX11_spells cX11_spells 4 (none) ∈ gw := ⟨gw_at 1863 (by decide +kernel) rfl, wx_1865, wx_98, wx_125, wx_1866⟩
theorem wx_1874 : Cond.instanceMethod yX11_says ∈ gw := gw_at 1874 (by decide +kernel) rfl
theorem wx_100 : Cond.selects RX11 yX11_says yX11_says ∈ gw := gw_at 100 (by decide +kernel) rfl
theorem wx_1875 : Cond.code yX11_says cX11_says 3 (none) ∈ gw := gw_at 1875 (by decide +kernel) rfl
theorem wm_RX11_390 : Cond.methodLink RX11 390 yX11_says ∈ gw ∧ Cond.instanceMethod yX11_says ∈ gw ∧ Cond.selects RX11 yX11_says yX11_says ∈ gw ∧ Cond.initialized RX11 ∈ gw ∧ Cond.code yX11_says cX11_says 3 (none) ∈ gw := ⟨gw_at 1872 (by decide +kernel) rfl, wx_1874, wx_100, wx_125, wx_1875⟩
theorem wx_1894 : Cond.instanceMethod yX11_chance ∈ gw := gw_at 1894 (by decide +kernel) rfl
theorem wx_103 : Cond.selects RX11 yX11_chance yX11_chance ∈ gw := gw_at 103 (by decide +kernel) rfl
theorem wx_1895 : Cond.code yX11_chance cX11_chance 2 (some .int) ∈ gw := gw_at 1895 (by decide +kernel) rfl
theorem wm_RX11_397 : Cond.methodLink RX11 397 yX11_chance ∈ gw ∧ Cond.instanceMethod yX11_chance ∈ gw ∧ Cond.selects RX11 yX11_chance yX11_chance ∈ gw ∧ Cond.initialized RX11 ∈ gw ∧ Cond.code yX11_chance cX11_chance 2 (some .int) ∈ gw := ⟨gw_at 1892 (by decide +kernel) rfl, wx_1894, wx_103, wx_125, wx_1895⟩
theorem wx_1890 : Cond.instanceMethod yX11_chanceOf ∈ gw := gw_at 1890 (by decide +kernel) rfl
theorem wx_102 : Cond.selects RX11 yX11_chanceOf yX11_chanceOf ∈ gw := gw_at 102 (by decide +kernel) rfl
theorem wx_1891 : Cond.code yX11_chanceOf cX11_chanceOf 4 (none) ∈ gw := gw_at 1891 (by decide +kernel) rfl
theorem wm_RX11_400 : Cond.methodLink RX11 400 yX11_chanceOf ∈ gw ∧ Cond.instanceMethod yX11_chanceOf ∈ gw ∧ Cond.selects RX11 yX11_chanceOf yX11_chanceOf ∈ gw ∧ Cond.initialized RX11 ∈ gw ∧ Cond.code yX11_chanceOf cX11_chanceOf 4 (none) ∈ gw := ⟨gw_at 1888 (by decide +kernel) rfl, wx_1890, wx_102, wx_125, wx_1891⟩
theorem wx_1886 : Cond.instanceMethod yX11_chances ∈ gw := gw_at 1886 (by decide +kernel) rfl
theorem wx_101 : Cond.selects RX11 yX11_chances yX11_chances ∈ gw := gw_at 101 (by decide +kernel) rfl
theorem wx_1887 : Cond.code yX11_chances cX11_chances 5 (some .int) ∈ gw := gw_at 1887 (by decide +kernel) rfl
theorem wm_RX11_403 : Cond.methodLink RX11 403 yX11_chances ∈ gw ∧ Cond.instanceMethod yX11_chances ∈ gw ∧ Cond.selects RX11 yX11_chances yX11_chances ∈ gw ∧ Cond.initialized RX11 ∈ gw ∧ Cond.code yX11_chances cX11_chances 5 (some .int) ∈ gw := ⟨gw_at 1884 (by decide +kernel) rfl, wx_1886, wx_101, wx_125, wx_1887⟩
theorem wx_1907 : Cond.instanceMethod yX11_bookLine ∈ gw := gw_at 1907 (by decide +kernel) rfl
theorem wx_104 : Cond.selects RX11 yX11_bookLine yX11_bookLine ∈ gw := gw_at 104 (by decide +kernel) rfl
theorem wx_1908 : Cond.code yX11_bookLine cX11_bookLine 7 (some .boolean) ∈ gw := gw_at 1908 (by decide +kernel) rfl
theorem wm_RX11_409 : Cond.methodLink RX11 409 yX11_bookLine ∈ gw ∧ Cond.instanceMethod yX11_bookLine ∈ gw ∧ Cond.selects RX11 yX11_bookLine yX11_bookLine ∈ gw ∧ Cond.initialized RX11 ∈ gw ∧ Cond.code yX11_bookLine cX11_bookLine 7 (some .boolean) ∈ gw := ⟨gw_at 1905 (by decide +kernel) rfl, wx_1907, wx_104, wx_125, wx_1908⟩
theorem wx_1911 : Cond.instanceMethod yX11_does ∈ gw := gw_at 1911 (by decide +kernel) rfl
theorem wx_105 : Cond.selects RX11 yX11_does yX11_does ∈ gw := gw_at 105 (by decide +kernel) rfl
theorem wx_1912 : Cond.code yX11_does cX11_does 5 (some .int) ∈ gw := gw_at 1912 (by decide +kernel) rfl
theorem wm_RX11_412 : Cond.methodLink RX11 412 yX11_does ∈ gw ∧ Cond.instanceMethod yX11_does ∈ gw ∧ Cond.selects RX11 yX11_does yX11_does ∈ gw ∧ Cond.initialized RX11 ∈ gw ∧ Cond.code yX11_does cX11_does 5 (some .int) ∈ gw := ⟨gw_at 1909 (by decide +kernel) rfl, wx_1911, wx_105, wx_125, wx_1912⟩
theorem wx_1927 : Cond.instanceMethod yX11_code ∈ gw := gw_at 1927 (by decide +kernel) rfl
theorem wx_107 : Cond.selects RX11 yX11_code yX11_code ∈ gw := gw_at 107 (by decide +kernel) rfl
theorem wx_1928 : Cond.code yX11_code cX11_code 4 (none) ∈ gw := gw_at 1928 (by decide +kernel) rfl
theorem wm_RX11_425 : Cond.methodLink RX11 425 yX11_code ∈ gw ∧ Cond.instanceMethod yX11_code ∈ gw ∧ Cond.selects RX11 yX11_code yX11_code ∈ gw ∧ Cond.initialized RX11 ∈ gw ∧ Cond.code yX11_code cX11_code 4 (none) ∈ gw := ⟨gw_at 1925 (by decide +kernel) rfl, wx_1927, wx_107, wx_125, wx_1928⟩
theorem wx_1943 : Cond.instanceMethod yX11_leafOf ∈ gw := gw_at 1943 (by decide +kernel) rfl
theorem wx_111 : Cond.selects RX11 yX11_leafOf yX11_leafOf ∈ gw := gw_at 111 (by decide +kernel) rfl
theorem wx_1944 : Cond.code yX11_leafOf cX11_leafOf 1 (some .int) ∈ gw := gw_at 1944 (by decide +kernel) rfl
theorem wm_RX11_432 : Cond.methodLink RX11 432 yX11_leafOf ∈ gw ∧ Cond.instanceMethod yX11_leafOf ∈ gw ∧ Cond.selects RX11 yX11_leafOf yX11_leafOf ∈ gw ∧ Cond.initialized RX11 ∈ gw ∧ Cond.code yX11_leafOf cX11_leafOf 1 (some .int) ∈ gw := ⟨gw_at 1941 (by decide +kernel) rfl, wx_1943, wx_111, wx_125, wx_1944⟩
theorem wx_1923 : Cond.instanceMethod yX11_nots ∈ gw := gw_at 1923 (by decide +kernel) rfl
theorem wx_106 : Cond.selects RX11 yX11_nots yX11_nots ∈ gw := gw_at 106 (by decide +kernel) rfl
theorem wx_1924 : Cond.code yX11_nots cX11_nots 1 (none) ∈ gw := gw_at 1924 (by decide +kernel) rfl
theorem wm_RX11_441 : Cond.methodLink RX11 441 yX11_nots ∈ gw ∧ Cond.instanceMethod yX11_nots ∈ gw ∧ Cond.selects RX11 yX11_nots yX11_nots ∈ gw ∧ Cond.initialized RX11 ∈ gw ∧ Cond.code yX11_nots cX11_nots 1 (none) ∈ gw := ⟨gw_at 1921 (by decide +kernel) rfl, wx_1923, wx_106, wx_125, wx_1924⟩
theorem wx_1931 : Cond.instanceMethod yX11_joins ∈ gw := gw_at 1931 (by decide +kernel) rfl
theorem wx_108 : Cond.selects RX11 yX11_joins yX11_joins ∈ gw := gw_at 108 (by decide +kernel) rfl
theorem wx_1932 : Cond.code yX11_joins cX11_joins 2 (none) ∈ gw := gw_at 1932 (by decide +kernel) rfl
theorem wm_RX11_444 : Cond.methodLink RX11 444 yX11_joins ∈ gw ∧ Cond.instanceMethod yX11_joins ∈ gw ∧ Cond.selects RX11 yX11_joins yX11_joins ∈ gw ∧ Cond.initialized RX11 ∈ gw ∧ Cond.code yX11_joins cX11_joins 2 (none) ∈ gw := ⟨gw_at 1929 (by decide +kernel) rfl, wx_1931, wx_108, wx_125, wx_1932⟩
theorem wx_1935 : Cond.instanceMethod yX11_behind ∈ gw := gw_at 1935 (by decide +kernel) rfl
theorem wx_109 : Cond.selects RX11 yX11_behind yX11_behind ∈ gw := gw_at 109 (by decide +kernel) rfl
theorem wx_1936 : Cond.code yX11_behind cX11_behind 1 (some .boolean) ∈ gw := gw_at 1936 (by decide +kernel) rfl
theorem wm_RX11_447 : Cond.methodLink RX11 447 yX11_behind ∈ gw ∧ Cond.instanceMethod yX11_behind ∈ gw ∧ Cond.selects RX11 yX11_behind yX11_behind ∈ gw ∧ Cond.initialized RX11 ∈ gw ∧ Cond.code yX11_behind cX11_behind 1 (some .boolean) ∈ gw := ⟨gw_at 1933 (by decide +kernel) rfl, wx_1935, wx_109, wx_125, wx_1936⟩
theorem wx_1939 : Cond.instanceMethod yX11_operand ∈ gw := gw_at 1939 (by decide +kernel) rfl
theorem wx_110 : Cond.selects RX11 yX11_operand yX11_operand ∈ gw := gw_at 110 (by decide +kernel) rfl
theorem wx_1940 : Cond.code yX11_operand cX11_operand 5 (some .boolean) ∈ gw := gw_at 1940 (by decide +kernel) rfl
theorem wm_RX11_450 : Cond.methodLink RX11 450 yX11_operand ∈ gw ∧ Cond.instanceMethod yX11_operand ∈ gw ∧ Cond.selects RX11 yX11_operand yX11_operand ∈ gw ∧ Cond.initialized RX11 ∈ gw ∧ Cond.code yX11_operand cX11_operand 5 (some .boolean) ∈ gw := ⟨gw_at 1937 (by decide +kernel) rfl, wx_1939, wx_110, wx_125, wx_1940⟩
theorem wx_1955 : Cond.instanceMethod yX11_isLeaf ∈ gw := gw_at 1955 (by decide +kernel) rfl
theorem wx_113 : Cond.selects RX11 yX11_isLeaf yX11_isLeaf ∈ gw := gw_at 113 (by decide +kernel) rfl
theorem wx_1956 : Cond.code yX11_isLeaf cX11_isLeaf 6 (some .boolean) ∈ gw := gw_at 1956 (by decide +kernel) rfl
theorem wm_RX11_453 : Cond.methodLink RX11 453 yX11_isLeaf ∈ gw ∧ Cond.instanceMethod yX11_isLeaf ∈ gw ∧ Cond.selects RX11 yX11_isLeaf yX11_isLeaf ∈ gw ∧ Cond.initialized RX11 ∈ gw ∧ Cond.code yX11_isLeaf cX11_isLeaf 6 (some .boolean) ∈ gw := ⟨gw_at 1953 (by decide +kernel) rfl, wx_1955, wx_113, wx_125, wx_1956⟩
theorem wx_1951 : Cond.instanceMethod yX11_isSaid ∈ gw := gw_at 1951 (by decide +kernel) rfl
theorem wx_112 : Cond.selects RX11 yX11_isSaid yX11_isSaid ∈ gw := gw_at 112 (by decide +kernel) rfl
theorem wx_1952 : Cond.code yX11_isSaid cX11_isSaid 5 (some .boolean) ∈ gw := gw_at 1952 (by decide +kernel) rfl
theorem wm_RX11_457 : Cond.methodLink RX11 457 yX11_isSaid ∈ gw ∧ Cond.instanceMethod yX11_isSaid ∈ gw ∧ Cond.selects RX11 yX11_isSaid yX11_isSaid ∈ gw ∧ Cond.initialized RX11 ∈ gw ∧ Cond.code yX11_isSaid cX11_isSaid 5 (some .boolean) ∈ gw := ⟨gw_at 1949 (by decide +kernel) rfl, wx_1951, wx_112, wx_125, wx_1952⟩
theorem md_J6_bitCount_0f7a4 : yJ6_bitCount_0f7a4.cls ≠ "java/lang/invoke/MethodHandle" ∧ yJ6_bitCount_0f7a4.cls ≠ "java/lang/invoke/VarHandle" ∧ (parseMethodDescriptor yJ6_bitCount_0f7a4.desc).map (fun d => d.parameters.length) = some 1 := by decide +kernel
theorem md_X0_addLine : yX0_addLine.cls = RX0 ∧ yX0_addLine.cls ≠ "java/lang/invoke/MethodHandle" ∧ yX0_addLine.cls ≠ "java/lang/invoke/VarHandle" ∧ (parseMethodDescriptor yX0_addLine.desc).map (fun d => d.parameters.length) = some 3 := by decide +kernel
theorem md_X0_live : yX0_live.cls = RX0 ∧ yX0_live.cls ≠ "java/lang/invoke/MethodHandle" ∧ yX0_live.cls ≠ "java/lang/invoke/VarHandle" ∧ (parseMethodDescriptor yX0_live.desc).map (fun d => d.parameters.length) = some 2 := by decide +kernel
theorem md_X0_liveCatch : yX0_liveCatch.cls = RX0 ∧ yX0_liveCatch.cls ≠ "java/lang/invoke/MethodHandle" ∧ yX0_liveCatch.cls ≠ "java/lang/invoke/VarHandle" ∧ (parseMethodDescriptor yX0_liveCatch.desc).map (fun d => d.parameters.length) = some 3 := by decide +kernel
theorem md_X0_liveCut : yX0_liveCut.cls = RX0 ∧ yX0_liveCut.cls ≠ "java/lang/invoke/MethodHandle" ∧ yX0_liveCut.cls ≠ "java/lang/invoke/VarHandle" ∧ (parseMethodDescriptor yX0_liveCut.desc).map (fun d => d.parameters.length) = some 2 := by decide +kernel
theorem md_X0_liveLine : yX0_liveLine.cls = RX0 ∧ yX0_liveLine.cls ≠ "java/lang/invoke/MethodHandle" ∧ yX0_liveLine.cls ≠ "java/lang/invoke/VarHandle" ∧ (parseMethodDescriptor yX0_liveLine.desc).map (fun d => d.parameters.length) = some 3 := by decide +kernel
theorem md_X0_liveStroke : yX0_liveStroke.cls = RX0 ∧ yX0_liveStroke.cls ≠ "java/lang/invoke/MethodHandle" ∧ yX0_liveStroke.cls ≠ "java/lang/invoke/VarHandle" ∧ (parseMethodDescriptor yX0_liveStroke.desc).map (fun d => d.parameters.length) = some 4 := by decide +kernel
theorem md_X0_liveStuffing : yX0_liveStuffing.cls = RX0 ∧ yX0_liveStuffing.cls ≠ "java/lang/invoke/MethodHandle" ∧ yX0_liveStuffing.cls ≠ "java/lang/invoke/VarHandle" ∧ (parseMethodDescriptor yX0_liveStuffing.desc).map (fun d => d.parameters.length) = some 4 := by decide +kernel
theorem md_X0_readFrom : yX0_readFrom.cls = RX0 ∧ yX0_readFrom.cls ≠ "java/lang/invoke/MethodHandle" ∧ yX0_readFrom.cls ≠ "java/lang/invoke/VarHandle" ∧ (parseMethodDescriptor yX0_readFrom.desc).map (fun d => d.parameters.length) = some 2 := by decide +kernel
theorem md_X0_readLine : yX0_readLine.cls = RX0 ∧ yX0_readLine.cls ≠ "java/lang/invoke/MethodHandle" ∧ yX0_readLine.cls ≠ "java/lang/invoke/VarHandle" ∧ (parseMethodDescriptor yX0_readLine.desc).map (fun d => d.parameters.length) = some 2 := by decide +kernel
theorem md_X0_readOfPerson : yX0_readOfPerson.cls = RX0 ∧ yX0_readOfPerson.cls ≠ "java/lang/invoke/MethodHandle" ∧ yX0_readOfPerson.cls ≠ "java/lang/invoke/VarHandle" ∧ (parseMethodDescriptor yX0_readOfPerson.desc).map (fun d => d.parameters.length) = some 3 := by decide +kernel
theorem md_X0_readStuffing : yX0_readStuffing.cls = RX0 ∧ yX0_readStuffing.cls ≠ "java/lang/invoke/MethodHandle" ∧ yX0_readStuffing.cls ≠ "java/lang/invoke/VarHandle" ∧ (parseMethodDescriptor yX0_readStuffing.desc).map (fun d => d.parameters.length) = some 2 := by decide +kernel
theorem md_X10_isBed : yX10_isBed.cls = RX10 ∧ yX10_isBed.cls ≠ "java/lang/invoke/MethodHandle" ∧ yX10_isBed.cls ≠ "java/lang/invoke/VarHandle" ∧ (parseMethodDescriptor yX10_isBed.desc).map (fun d => d.parameters.length) = some 1 := by decide +kernel
theorem md_X10_isPerson : yX10_isPerson.cls = RX10 ∧ yX10_isPerson.cls ≠ "java/lang/invoke/MethodHandle" ∧ yX10_isPerson.cls ≠ "java/lang/invoke/VarHandle" ∧ (parseMethodDescriptor yX10_isPerson.desc).map (fun d => d.parameters.length) = some 1 := by decide +kernel
theorem md_X10_isThing : yX10_isThing.cls = RX10 ∧ yX10_isThing.cls ≠ "java/lang/invoke/MethodHandle" ∧ yX10_isThing.cls ≠ "java/lang/invoke/VarHandle" ∧ (parseMethodDescriptor yX10_isThing.desc).map (fun d => d.parameters.length) = some 1 := by decide +kernel
theorem md_X11_back : yX11_back.cls = RX11 ∧ yX11_back.cls ≠ "java/lang/invoke/MethodHandle" ∧ yX11_back.cls ≠ "java/lang/invoke/VarHandle" ∧ (parseMethodDescriptor yX11_back.desc).map (fun d => d.parameters.length) = some 0 := by decide +kernel
theorem md_X11_bad : yX11_bad.cls = RX11 ∧ yX11_bad.cls ≠ "java/lang/invoke/MethodHandle" ∧ yX11_bad.cls ≠ "java/lang/invoke/VarHandle" ∧ (parseMethodDescriptor yX11_bad.desc).map (fun d => d.parameters.length) = some 1 := by decide +kernel
theorem md_X11_bagged : yX11_bagged.cls = RX11 ∧ yX11_bagged.cls ≠ "java/lang/invoke/MethodHandle" ∧ yX11_bagged.cls ≠ "java/lang/invoke/VarHandle" ∧ (parseMethodDescriptor yX11_bagged.desc).map (fun d => d.parameters.length) = some 0 := by decide +kernel
theorem md_X11_behind : yX11_behind.cls = RX11 ∧ yX11_behind.cls ≠ "java/lang/invoke/MethodHandle" ∧ yX11_behind.cls ≠ "java/lang/invoke/VarHandle" ∧ (parseMethodDescriptor yX11_behind.desc).map (fun d => d.parameters.length) = some 0 := by decide +kernel
theorem md_X11_bitOf : yX11_bitOf.cls ≠ "java/lang/invoke/MethodHandle" ∧ yX11_bitOf.cls ≠ "java/lang/invoke/VarHandle" ∧ (parseMethodDescriptor yX11_bitOf.desc).map (fun d => d.parameters.length) = some 2 := by decide +kernel
theorem md_X11_bits : yX11_bits.cls ≠ "java/lang/invoke/MethodHandle" ∧ yX11_bits.cls ≠ "java/lang/invoke/VarHandle" ∧ (parseMethodDescriptor yX11_bits.desc).map (fun d => d.parameters.length) = some 1 := by decide +kernel
theorem md_X11_bookLine : yX11_bookLine.cls = RX11 ∧ yX11_bookLine.cls ≠ "java/lang/invoke/MethodHandle" ∧ yX11_bookLine.cls ≠ "java/lang/invoke/VarHandle" ∧ (parseMethodDescriptor yX11_bookLine.desc).map (fun d => d.parameters.length) = some 0 := by decide +kernel
theorem md_X11_catches : yX11_catches.cls = RX11 ∧ yX11_catches.cls ≠ "java/lang/invoke/MethodHandle" ∧ yX11_catches.cls ≠ "java/lang/invoke/VarHandle" ∧ (parseMethodDescriptor yX11_catches.desc).map (fun d => d.parameters.length) = some 2 := by decide +kernel
theorem md_X11_chance : yX11_chance.cls = RX11 ∧ yX11_chance.cls ≠ "java/lang/invoke/MethodHandle" ∧ yX11_chance.cls ≠ "java/lang/invoke/VarHandle" ∧ (parseMethodDescriptor yX11_chance.desc).map (fun d => d.parameters.length) = some 1 := by decide +kernel
theorem md_X11_chanceOf : yX11_chanceOf.cls = RX11 ∧ yX11_chanceOf.cls ≠ "java/lang/invoke/MethodHandle" ∧ yX11_chanceOf.cls ≠ "java/lang/invoke/VarHandle" ∧ (parseMethodDescriptor yX11_chanceOf.desc).map (fun d => d.parameters.length) = some 1 := by decide +kernel
theorem md_X11_chances : yX11_chances.cls = RX11 ∧ yX11_chances.cls ≠ "java/lang/invoke/MethodHandle" ∧ yX11_chances.cls ≠ "java/lang/invoke/VarHandle" ∧ (parseMethodDescriptor yX11_chances.desc).map (fun d => d.parameters.length) = some 2 := by decide +kernel
theorem md_X11_clears : yX11_clears.cls = RX11 ∧ yX11_clears.cls ≠ "java/lang/invoke/MethodHandle" ∧ yX11_clears.cls ≠ "java/lang/invoke/VarHandle" ∧ (parseMethodDescriptor yX11_clears.desc).map (fun d => d.parameters.length) = some 0 := by decide +kernel
theorem md_X11_code : yX11_code.cls = RX11 ∧ yX11_code.cls ≠ "java/lang/invoke/MethodHandle" ∧ yX11_code.cls ≠ "java/lang/invoke/VarHandle" ∧ (parseMethodDescriptor yX11_code.desc).map (fun d => d.parameters.length) = some 3 := by decide +kernel
theorem md_X11_cuts : yX11_cuts.cls = RX11 ∧ yX11_cuts.cls ≠ "java/lang/invoke/MethodHandle" ∧ yX11_cuts.cls ≠ "java/lang/invoke/VarHandle" ∧ (parseMethodDescriptor yX11_cuts.desc).map (fun d => d.parameters.length) = some 1 := by decide +kernel
theorem md_X11_day : yX11_day.cls = RX11 ∧ yX11_day.cls ≠ "java/lang/invoke/MethodHandle" ∧ yX11_day.cls ≠ "java/lang/invoke/VarHandle" ∧ (parseMethodDescriptor yX11_day.desc).map (fun d => d.parameters.length) = some 0 := by decide +kernel
theorem md_X11_does : yX11_does.cls = RX11 ∧ yX11_does.cls ≠ "java/lang/invoke/MethodHandle" ∧ yX11_does.cls ≠ "java/lang/invoke/VarHandle" ∧ (parseMethodDescriptor yX11_does.desc).map (fun d => d.parameters.length) = some 3 := by decide +kernel
theorem md_X11_draws : yX11_draws.cls = RX11 ∧ yX11_draws.cls ≠ "java/lang/invoke/MethodHandle" ∧ yX11_draws.cls ≠ "java/lang/invoke/VarHandle" ∧ (parseMethodDescriptor yX11_draws.desc).map (fun d => d.parameters.length) = some 2 := by decide +kernel
theorem md_X11_easeBy : yX11_easeBy.cls = RX11 ∧ yX11_easeBy.cls ≠ "java/lang/invoke/MethodHandle" ∧ yX11_easeBy.cls ≠ "java/lang/invoke/VarHandle" ∧ (parseMethodDescriptor yX11_easeBy.desc).map (fun d => d.parameters.length) = some 1 := by decide +kernel
theorem md_X11_fills : yX11_fills.cls = RX11 ∧ yX11_fills.cls ≠ "java/lang/invoke/MethodHandle" ∧ yX11_fills.cls ≠ "java/lang/invoke/VarHandle" ∧ (parseMethodDescriptor yX11_fills.desc).map (fun d => d.parameters.length) = some 2 := by decide +kernel
theorem md_X11_four : yX11_four.cls = RX11 ∧ yX11_four.cls ≠ "java/lang/invoke/MethodHandle" ∧ yX11_four.cls ≠ "java/lang/invoke/VarHandle" ∧ (parseMethodDescriptor yX11_four.desc).map (fun d => d.parameters.length) = some 1 := by decide +kernel
theorem md_X11_fresh : yX11_fresh.cls = RX11 ∧ yX11_fresh.cls ≠ "java/lang/invoke/MethodHandle" ∧ yX11_fresh.cls ≠ "java/lang/invoke/VarHandle" ∧ (parseMethodDescriptor yX11_fresh.desc).map (fun d => d.parameters.length) = some 1 := by decide +kernel
theorem md_X11_fromOutside : yX11_fromOutside.cls = RX11 ∧ yX11_fromOutside.cls ≠ "java/lang/invoke/MethodHandle" ∧ yX11_fromOutside.cls ≠ "java/lang/invoke/VarHandle" ∧ (parseMethodDescriptor yX11_fromOutside.desc).map (fun d => d.parameters.length) = some 2 := by decide +kernel
theorem md_X11_goesOn : yX11_goesOn.cls = RX11 ∧ yX11_goesOn.cls ≠ "java/lang/invoke/MethodHandle" ∧ yX11_goesOn.cls ≠ "java/lang/invoke/VarHandle" ∧ (parseMethodDescriptor yX11_goesOn.desc).map (fun d => d.parameters.length) = some 1 := by decide +kernel
theorem md_X11_greater : yX11_greater.cls ≠ "java/lang/invoke/MethodHandle" ∧ yX11_greater.cls ≠ "java/lang/invoke/VarHandle" ∧ (parseMethodDescriptor yX11_greater.desc).map (fun d => d.parameters.length) = some 2 := by decide +kernel
theorem md_X11_hasThing : yX11_hasThing.cls = RX11 ∧ yX11_hasThing.cls ≠ "java/lang/invoke/MethodHandle" ∧ yX11_hasThing.cls ≠ "java/lang/invoke/VarHandle" ∧ (parseMethodDescriptor yX11_hasThing.desc).map (fun d => d.parameters.length) = some 2 := by decide +kernel
theorem md_X11_holdsOf : yX11_holdsOf.cls = RX11 ∧ yX11_holdsOf.cls ≠ "java/lang/invoke/MethodHandle" ∧ yX11_holdsOf.cls ≠ "java/lang/invoke/VarHandle" ∧ (parseMethodDescriptor yX11_holdsOf.desc).map (fun d => d.parameters.length) = some 1 := by decide +kernel
theorem md_X11_isBed : yX11_isBed.cls = RX11 ∧ yX11_isBed.cls ≠ "java/lang/invoke/MethodHandle" ∧ yX11_isBed.cls ≠ "java/lang/invoke/VarHandle" ∧ (parseMethodDescriptor yX11_isBed.desc).map (fun d => d.parameters.length) = some 1 := by decide +kernel
theorem md_X11_isDigit : yX11_isDigit.cls ≠ "java/lang/invoke/MethodHandle" ∧ yX11_isDigit.cls ≠ "java/lang/invoke/VarHandle" ∧ (parseMethodDescriptor yX11_isDigit.desc).map (fun d => d.parameters.length) = some 1 := by decide +kernel
theorem md_X11_isFit : yX11_isFit.cls = RX11 ∧ yX11_isFit.cls ≠ "java/lang/invoke/MethodHandle" ∧ yX11_isFit.cls ≠ "java/lang/invoke/VarHandle" ∧ (parseMethodDescriptor yX11_isFit.desc).map (fun d => d.parameters.length) = some 1 := by decide +kernel
theorem md_X11_isIn : yX11_isIn.cls ≠ "java/lang/invoke/MethodHandle" ∧ yX11_isIn.cls ≠ "java/lang/invoke/VarHandle" ∧ (parseMethodDescriptor yX11_isIn.desc).map (fun d => d.parameters.length) = some 3 := by decide +kernel
theorem md_X11_isLeaf : yX11_isLeaf.cls = RX11 ∧ yX11_isLeaf.cls ≠ "java/lang/invoke/MethodHandle" ∧ yX11_isLeaf.cls ≠ "java/lang/invoke/VarHandle" ∧ (parseMethodDescriptor yX11_isLeaf.desc).map (fun d => d.parameters.length) = some 4 := by decide +kernel
theorem md_X11_isLike : yX11_isLike.cls = RX11 ∧ yX11_isLike.cls ≠ "java/lang/invoke/MethodHandle" ∧ yX11_isLike.cls ≠ "java/lang/invoke/VarHandle" ∧ (parseMethodDescriptor yX11_isLike.desc).map (fun d => d.parameters.length) = some 2 := by decide +kernel
theorem md_X11_isName : yX11_isName.cls = RX11 ∧ yX11_isName.cls ≠ "java/lang/invoke/MethodHandle" ∧ yX11_isName.cls ≠ "java/lang/invoke/VarHandle" ∧ (parseMethodDescriptor yX11_isName.desc).map (fun d => d.parameters.length) = some 0 := by decide +kernel
theorem md_X11_isNest : yX11_isNest.cls = RX11 ∧ yX11_isNest.cls ≠ "java/lang/invoke/MethodHandle" ∧ yX11_isNest.cls ≠ "java/lang/invoke/VarHandle" ∧ (parseMethodDescriptor yX11_isNest.desc).map (fun d => d.parameters.length) = some 1 := by decide +kernel
theorem md_X11_isPerson : yX11_isPerson.cls = RX11 ∧ yX11_isPerson.cls ≠ "java/lang/invoke/MethodHandle" ∧ yX11_isPerson.cls ≠ "java/lang/invoke/VarHandle" ∧ (parseMethodDescriptor yX11_isPerson.desc).map (fun d => d.parameters.length) = some 1 := by decide +kernel
theorem md_X11_isSaid : yX11_isSaid.cls = RX11 ∧ yX11_isSaid.cls ≠ "java/lang/invoke/MethodHandle" ∧ yX11_isSaid.cls ≠ "java/lang/invoke/VarHandle" ∧ (parseMethodDescriptor yX11_isSaid.desc).map (fun d => d.parameters.length) = some 1 := by decide +kernel
theorem md_X11_isSign : yX11_isSign.cls = RX11 ∧ yX11_isSign.cls ≠ "java/lang/invoke/MethodHandle" ∧ yX11_isSign.cls ≠ "java/lang/invoke/VarHandle" ∧ (parseMethodDescriptor yX11_isSign.desc).map (fun d => d.parameters.length) = some 1 := by decide +kernel
theorem md_X11_isSlept : yX11_isSlept.cls = RX11 ∧ yX11_isSlept.cls ≠ "java/lang/invoke/MethodHandle" ∧ yX11_isSlept.cls ≠ "java/lang/invoke/VarHandle" ∧ (parseMethodDescriptor yX11_isSlept.desc).map (fun d => d.parameters.length) = some 1 := by decide +kernel
theorem md_X11_isSmall : yX11_isSmall.cls ≠ "java/lang/invoke/MethodHandle" ∧ yX11_isSmall.cls ≠ "java/lang/invoke/VarHandle" ∧ (parseMethodDescriptor yX11_isSmall.desc).map (fun d => d.parameters.length) = some 1 := by decide +kernel
theorem md_X11_isThing : yX11_isThing.cls = RX11 ∧ yX11_isThing.cls ≠ "java/lang/invoke/MethodHandle" ∧ yX11_isThing.cls ≠ "java/lang/invoke/VarHandle" ∧ (parseMethodDescriptor yX11_isThing.desc).map (fun d => d.parameters.length) = some 1 := by decide +kernel
theorem md_X11_isWord : yX11_isWord.cls = RX11 ∧ yX11_isWord.cls ≠ "java/lang/invoke/MethodHandle" ∧ yX11_isWord.cls ≠ "java/lang/invoke/VarHandle" ∧ (parseMethodDescriptor yX11_isWord.desc).map (fun d => d.parameters.length) = some 1 := by decide +kernel
theorem md_X11_joins : yX11_joins.cls = RX11 ∧ yX11_joins.cls ≠ "java/lang/invoke/MethodHandle" ∧ yX11_joins.cls ≠ "java/lang/invoke/VarHandle" ∧ (parseMethodDescriptor yX11_joins.desc).map (fun d => d.parameters.length) = some 1 := by decide +kernel
theorem md_X11_keep : yX11_keep.cls = RX11 ∧ yX11_keep.cls ≠ "java/lang/invoke/MethodHandle" ∧ yX11_keep.cls ≠ "java/lang/invoke/VarHandle" ∧ (parseMethodDescriptor yX11_keep.desc).map (fun d => d.parameters.length) = some 0 := by decide +kernel
theorem md_X11_knotAt : yX11_knotAt.cls = RX11 ∧ yX11_knotAt.cls ≠ "java/lang/invoke/MethodHandle" ∧ yX11_knotAt.cls ≠ "java/lang/invoke/VarHandle" ∧ (parseMethodDescriptor yX11_knotAt.desc).map (fun d => d.parameters.length) = some 2 := by decide +kernel
theorem md_X11_knotHolds : yX11_knotHolds.cls = RX11 ∧ yX11_knotHolds.cls ≠ "java/lang/invoke/MethodHandle" ∧ yX11_knotHolds.cls ≠ "java/lang/invoke/VarHandle" ∧ (parseMethodDescriptor yX11_knotHolds.desc).map (fun d => d.parameters.length) = some 2 := by decide +kernel
theorem md_X11_knotsOf : yX11_knotsOf.cls = RX11 ∧ yX11_knotsOf.cls ≠ "java/lang/invoke/MethodHandle" ∧ yX11_knotsOf.cls ≠ "java/lang/invoke/VarHandle" ∧ (parseMethodDescriptor yX11_knotsOf.desc).map (fun d => d.parameters.length) = some 1 := by decide +kernel
theorem md_X11_lays : yX11_lays.cls = RX11 ∧ yX11_lays.cls ≠ "java/lang/invoke/MethodHandle" ∧ yX11_lays.cls ≠ "java/lang/invoke/VarHandle" ∧ (parseMethodDescriptor yX11_lays.desc).map (fun d => d.parameters.length) = some 1 := by decide +kernel
theorem md_X11_laysBag : yX11_laysBag.cls = RX11 ∧ yX11_laysBag.cls ≠ "java/lang/invoke/MethodHandle" ∧ yX11_laysBag.cls ≠ "java/lang/invoke/VarHandle" ∧ (parseMethodDescriptor yX11_laysBag.desc).map (fun d => d.parameters.length) = some 0 := by decide +kernel
theorem md_X11_leafOf : yX11_leafOf.cls = RX11 ∧ yX11_leafOf.cls ≠ "java/lang/invoke/MethodHandle" ∧ yX11_leafOf.cls ≠ "java/lang/invoke/VarHandle" ∧ (parseMethodDescriptor yX11_leafOf.desc).map (fun d => d.parameters.length) = some 0 := by decide +kernel
theorem md_X11_leftBy : yX11_leftBy.cls = RX11 ∧ yX11_leftBy.cls ≠ "java/lang/invoke/MethodHandle" ∧ yX11_leftBy.cls ≠ "java/lang/invoke/VarHandle" ∧ (parseMethodDescriptor yX11_leftBy.desc).map (fun d => d.parameters.length) = some 2 := by decide +kernel
theorem md_X11_lesser : yX11_lesser.cls ≠ "java/lang/invoke/MethodHandle" ∧ yX11_lesser.cls ≠ "java/lang/invoke/VarHandle" ∧ (parseMethodDescriptor yX11_lesser.desc).map (fun d => d.parameters.length) = some 2 := by decide +kernel
theorem md_X11_looksAt : yX11_looksAt.cls = RX11 ∧ yX11_looksAt.cls ≠ "java/lang/invoke/MethodHandle" ∧ yX11_looksAt.cls ≠ "java/lang/invoke/VarHandle" ∧ (parseMethodDescriptor yX11_looksAt.desc).map (fun d => d.parameters.length) = some 2 := by decide +kernel
theorem md_X11_next : yX11_next.cls = RX11 ∧ yX11_next.cls ≠ "java/lang/invoke/MethodHandle" ∧ yX11_next.cls ≠ "java/lang/invoke/VarHandle" ∧ (parseMethodDescriptor yX11_next.desc).map (fun d => d.parameters.length) = some 0 := by decide +kernel
theorem md_X11_nots : yX11_nots.cls = RX11 ∧ yX11_nots.cls ≠ "java/lang/invoke/MethodHandle" ∧ yX11_nots.cls ≠ "java/lang/invoke/VarHandle" ∧ (parseMethodDescriptor yX11_nots.desc).map (fun d => d.parameters.length) = some 0 := by decide +kernel
theorem md_X11_octet : yX11_octet.cls = RX11 ∧ yX11_octet.cls ≠ "java/lang/invoke/MethodHandle" ∧ yX11_octet.cls ≠ "java/lang/invoke/VarHandle" ∧ (parseMethodDescriptor yX11_octet.desc).map (fun d => d.parameters.length) = some 1 := by decide +kernel
theorem md_X11_operand : yX11_operand.cls = RX11 ∧ yX11_operand.cls ≠ "java/lang/invoke/MethodHandle" ∧ yX11_operand.cls ≠ "java/lang/invoke/VarHandle" ∧ (parseMethodDescriptor yX11_operand.desc).map (fun d => d.parameters.length) = some 0 := by decide +kernel
theorem md_X11_peek : yX11_peek.cls = RX11 ∧ yX11_peek.cls ≠ "java/lang/invoke/MethodHandle" ∧ yX11_peek.cls ≠ "java/lang/invoke/VarHandle" ∧ (parseMethodDescriptor yX11_peek.desc).map (fun d => d.parameters.length) = some 0 := by decide +kernel
theorem md_X11_puts : yX11_puts.cls = RX11 ∧ yX11_puts.cls ≠ "java/lang/invoke/MethodHandle" ∧ yX11_puts.cls ≠ "java/lang/invoke/VarHandle" ∧ (parseMethodDescriptor yX11_puts.desc).map (fun d => d.parameters.length) = some 3 := by decide +kernel
theorem md_X11_readBed : yX11_readBed.cls = RX11 ∧ yX11_readBed.cls ≠ "java/lang/invoke/MethodHandle" ∧ yX11_readBed.cls ≠ "java/lang/invoke/VarHandle" ∧ (parseMethodDescriptor yX11_readBed.desc).map (fun d => d.parameters.length) = some 0 := by decide +kernel
theorem md_X11_readCaught : yX11_readCaught.cls = RX11 ∧ yX11_readCaught.cls ≠ "java/lang/invoke/MethodHandle" ∧ yX11_readCaught.cls ≠ "java/lang/invoke/VarHandle" ∧ (parseMethodDescriptor yX11_readCaught.desc).map (fun d => d.parameters.length) = some 0 := by decide +kernel
theorem md_X11_readDaily : yX11_readDaily.cls = RX11 ∧ yX11_readDaily.cls ≠ "java/lang/invoke/MethodHandle" ∧ yX11_readDaily.cls ≠ "java/lang/invoke/VarHandle" ∧ (parseMethodDescriptor yX11_readDaily.desc).map (fun d => d.parameters.length) = some 0 := by decide +kernel
theorem md_X11_readLine : yX11_readLine.cls = RX11 ∧ yX11_readLine.cls ≠ "java/lang/invoke/MethodHandle" ∧ yX11_readLine.cls ≠ "java/lang/invoke/VarHandle" ∧ (parseMethodDescriptor yX11_readLine.desc).map (fun d => d.parameters.length) = some 0 := by decide +kernel
theorem md_X11_readPerson : yX11_readPerson.cls = RX11 ∧ yX11_readPerson.cls ≠ "java/lang/invoke/MethodHandle" ∧ yX11_readPerson.cls ≠ "java/lang/invoke/VarHandle" ∧ (parseMethodDescriptor yX11_readPerson.desc).map (fun d => d.parameters.length) = some 0 := by decide +kernel
theorem md_X11_readThing : yX11_readThing.cls = RX11 ∧ yX11_readThing.cls ≠ "java/lang/invoke/MethodHandle" ∧ yX11_readThing.cls ≠ "java/lang/invoke/VarHandle" ∧ (parseMethodDescriptor yX11_readThing.desc).map (fun d => d.parameters.length) = some 0 := by decide +kernel
theorem md_X11_says : yX11_says.cls = RX11 ∧ yX11_says.cls ≠ "java/lang/invoke/MethodHandle" ∧ yX11_says.cls ≠ "java/lang/invoke/VarHandle" ∧ (parseMethodDescriptor yX11_says.desc).map (fun d => d.parameters.length) = some 1 := by decide +kernel
theorem md_X11_seek : yX11_seek.cls = RX11 ∧ yX11_seek.cls ≠ "java/lang/invoke/MethodHandle" ∧ yX11_seek.cls ≠ "java/lang/invoke/VarHandle" ∧ (parseMethodDescriptor yX11_seek.desc).map (fun d => d.parameters.length) = some 2 := by decide +kernel
theorem md_X11_sign : yX11_sign.cls = RX11 ∧ yX11_sign.cls ≠ "java/lang/invoke/MethodHandle" ∧ yX11_sign.cls ≠ "java/lang/invoke/VarHandle" ∧ (parseMethodDescriptor yX11_sign.desc).map (fun d => d.parameters.length) = some 1 := by decide +kernel
theorem md_X11_sleptOn : yX11_sleptOn.cls = RX11 ∧ yX11_sleptOn.cls ≠ "java/lang/invoke/MethodHandle" ∧ yX11_sleptOn.cls ≠ "java/lang/invoke/VarHandle" ∧ (parseMethodDescriptor yX11_sleptOn.desc).map (fun d => d.parameters.length) = some 0 := by decide +kernel
theorem md_X11_spells : yX11_spells.cls = RX11 ∧ yX11_spells.cls ≠ "java/lang/invoke/MethodHandle" ∧ yX11_spells.cls ≠ "java/lang/invoke/VarHandle" ∧ (parseMethodDescriptor yX11_spells.desc).map (fun d => d.parameters.length) = some 1 := by decide +kernel
theorem md_X11_stillOf : yX11_stillOf.cls = RX11 ∧ yX11_stillOf.cls ≠ "java/lang/invoke/MethodHandle" ∧ yX11_stillOf.cls ≠ "java/lang/invoke/VarHandle" ∧ (parseMethodDescriptor yX11_stillOf.desc).map (fun d => d.parameters.length) = some 1 := by decide +kernel
theorem md_X11_strokes : yX11_strokes.cls = RX11 ∧ yX11_strokes.cls ≠ "java/lang/invoke/MethodHandle" ∧ yX11_strokes.cls ≠ "java/lang/invoke/VarHandle" ∧ (parseMethodDescriptor yX11_strokes.desc).map (fun d => d.parameters.length) = some 2 := by decide +kernel
theorem md_X11_stuffs : yX11_stuffs.cls = RX11 ∧ yX11_stuffs.cls ≠ "java/lang/invoke/MethodHandle" ∧ yX11_stuffs.cls ≠ "java/lang/invoke/VarHandle" ∧ (parseMethodDescriptor yX11_stuffs.desc).map (fun d => d.parameters.length) = some 2 := by decide +kernel
theorem md_X11_taken : yX11_taken.cls = RX11 ∧ yX11_taken.cls ≠ "java/lang/invoke/MethodHandle" ∧ yX11_taken.cls ≠ "java/lang/invoke/VarHandle" ∧ (parseMethodDescriptor yX11_taken.desc).map (fun d => d.parameters.length) = some 1 := by decide +kernel
theorem md_X11_takes : yX11_takes.cls = RX11 ∧ yX11_takes.cls ≠ "java/lang/invoke/MethodHandle" ∧ yX11_takes.cls ≠ "java/lang/invoke/VarHandle" ∧ (parseMethodDescriptor yX11_takes.desc).map (fun d => d.parameters.length) = some 2 := by decide +kernel
theorem md_X11_takesName : yX11_takesName.cls = RX11 ∧ yX11_takesName.cls ≠ "java/lang/invoke/MethodHandle" ∧ yX11_takesName.cls ≠ "java/lang/invoke/VarHandle" ∧ (parseMethodDescriptor yX11_takesName.desc).map (fun d => d.parameters.length) = some 2 := by decide +kernel
theorem md_X11_throwsIf : yX11_throwsIf.cls = RX11 ∧ yX11_throwsIf.cls ≠ "java/lang/invoke/MethodHandle" ∧ yX11_throwsIf.cls ≠ "java/lang/invoke/VarHandle" ∧ (parseMethodDescriptor yX11_throwsIf.desc).map (fun d => d.parameters.length) = some 1 := by decide +kernel
theorem md_X11_tries : yX11_tries.cls = RX11 ∧ yX11_tries.cls ≠ "java/lang/invoke/MethodHandle" ∧ yX11_tries.cls ≠ "java/lang/invoke/VarHandle" ∧ (parseMethodDescriptor yX11_tries.desc).map (fun d => d.parameters.length) = some 0 := by decide +kernel
theorem md_X11_whyStroke : yX11_whyStroke.cls = RX11 ∧ yX11_whyStroke.cls ≠ "java/lang/invoke/MethodHandle" ∧ yX11_whyStroke.cls ≠ "java/lang/invoke/VarHandle" ∧ (parseMethodDescriptor yX11_whyStroke.desc).map (fun d => d.parameters.length) = some 2 := by decide +kernel
theorem md_X1_bringBack : yX1_bringBack.cls = RX1 ∧ yX1_bringBack.cls ≠ "java/lang/invoke/MethodHandle" ∧ yX1_bringBack.cls ≠ "java/lang/invoke/VarHandle" ∧ (parseMethodDescriptor yX1_bringBack.desc).map (fun d => d.parameters.length) = some 3 := by decide +kernel
theorem md_X1_keep : yX1_keep.cls = RX1 ∧ yX1_keep.cls ≠ "java/lang/invoke/MethodHandle" ∧ yX1_keep.cls ≠ "java/lang/invoke/VarHandle" ∧ (parseMethodDescriptor yX1_keep.desc).map (fun d => d.parameters.length) = some 3 := by decide +kernel
theorem md_X2_forget : yX2_forget.cls = RX2 ∧ yX2_forget.cls ≠ "java/lang/invoke/MethodHandle" ∧ yX2_forget.cls ≠ "java/lang/invoke/VarHandle" ∧ (parseMethodDescriptor yX2_forget.desc).map (fun d => d.parameters.length) = some 0 := by decide +kernel
theorem md_X2_keep : yX2_keep.cls = RX2 ∧ yX2_keep.cls ≠ "java/lang/invoke/MethodHandle" ∧ yX2_keep.cls ≠ "java/lang/invoke/VarHandle" ∧ (parseMethodDescriptor yX2_keep.desc).map (fun d => d.parameters.length) = some 1 := by decide +kernel
theorem md_X2_takeBack : yX2_takeBack.cls = RX2 ∧ yX2_takeBack.cls ≠ "java/lang/invoke/MethodHandle" ∧ yX2_takeBack.cls ≠ "java/lang/invoke/VarHandle" ∧ (parseMethodDescriptor yX2_takeBack.desc).map (fun d => d.parameters.length) = some 1 := by decide +kernel
theorem md_X3_bestBeds : yX3_bestBeds.cls = RX3 ∧ yX3_bestBeds.cls ≠ "java/lang/invoke/MethodHandle" ∧ yX3_bestBeds.cls ≠ "java/lang/invoke/VarHandle" ∧ (parseMethodDescriptor yX3_bestBeds.desc).map (fun d => d.parameters.length) = some 2 := by decide +kernel
theorem md_X3_bestFill : yX3_bestFill.cls = RX3 ∧ yX3_bestFill.cls ≠ "java/lang/invoke/MethodHandle" ∧ yX3_bestFill.cls ≠ "java/lang/invoke/VarHandle" ∧ (parseMethodDescriptor yX3_bestFill.desc).map (fun d => d.parameters.length) = some 2 := by decide +kernel
theorem md_X3_bestLayer : yX3_bestLayer.cls = RX3 ∧ yX3_bestLayer.cls ≠ "java/lang/invoke/MethodHandle" ∧ yX3_bestLayer.cls ≠ "java/lang/invoke/VarHandle" ∧ (parseMethodDescriptor yX3_bestLayer.desc).map (fun d => d.parameters.length) = some 3 := by decide +kernel
theorem md_X3_bestRound : yX3_bestRound.cls = RX3 ∧ yX3_bestRound.cls ≠ "java/lang/invoke/MethodHandle" ∧ yX3_bestRound.cls ≠ "java/lang/invoke/VarHandle" ∧ (parseMethodDescriptor yX3_bestRound.desc).map (fun d => d.parameters.length) = some 3 := by decide +kernel
theorem md_X3_canFill : yX3_canFill.cls = RX3 ∧ yX3_canFill.cls ≠ "java/lang/invoke/MethodHandle" ∧ yX3_canFill.cls ≠ "java/lang/invoke/VarHandle" ∧ (parseMethodDescriptor yX3_canFill.desc).map (fun d => d.parameters.length) = some 3 := by decide +kernel
theorem md_X3_caughtOn : yX3_caughtOn.cls = RX3 ∧ yX3_caughtOn.cls ≠ "java/lang/invoke/MethodHandle" ∧ yX3_caughtOn.cls ≠ "java/lang/invoke/VarHandle" ∧ (parseMethodDescriptor yX3_caughtOn.desc).map (fun d => d.parameters.length) = some 3 := by decide +kernel
theorem md_X3_daysToNest : yX3_daysToNest.cls = RX3 ∧ yX3_daysToNest.cls ≠ "java/lang/invoke/MethodHandle" ∧ yX3_daysToNest.cls ≠ "java/lang/invoke/VarHandle" ∧ (parseMethodDescriptor yX3_daysToNest.desc).map (fun d => d.parameters.length) = some 3 := by decide +kernel
theorem md_X3_fewestStrokes : yX3_fewestStrokes.cls = RX3 ∧ yX3_fewestStrokes.cls ≠ "java/lang/invoke/MethodHandle" ∧ yX3_fewestStrokes.cls ≠ "java/lang/invoke/VarHandle" ∧ (parseMethodDescriptor yX3_fewestStrokes.desc).map (fun d => d.parameters.length) = some 3 := by decide +kernel
theorem md_X3_fillOn : yX3_fillOn.cls = RX3 ∧ yX3_fillOn.cls ≠ "java/lang/invoke/MethodHandle" ∧ yX3_fillOn.cls ≠ "java/lang/invoke/VarHandle" ∧ (parseMethodDescriptor yX3_fillOn.desc).map (fun d => d.parameters.length) = some 3 := by decide +kernel
theorem md_X3_listBag : yX3_listBag.cls = RX3 ∧ yX3_listBag.cls ≠ "java/lang/invoke/MethodHandle" ∧ yX3_listBag.cls ≠ "java/lang/invoke/VarHandle" ∧ (parseMethodDescriptor yX3_listBag.desc).map (fun d => d.parameters.length) = some 2 := by decide +kernel
theorem md_X3_mostFilled : yX3_mostFilled.cls = RX3 ∧ yX3_mostFilled.cls ≠ "java/lang/invoke/MethodHandle" ∧ yX3_mostFilled.cls ≠ "java/lang/invoke/VarHandle" ∧ (parseMethodDescriptor yX3_mostFilled.desc).map (fun d => d.parameters.length) = some 1 := by decide +kernel
theorem md_X3_mostLeft : yX3_mostLeft.cls = RX3 ∧ yX3_mostLeft.cls ≠ "java/lang/invoke/MethodHandle" ∧ yX3_mostLeft.cls ≠ "java/lang/invoke/VarHandle" ∧ (parseMethodDescriptor yX3_mostLeft.desc).map (fun d => d.parameters.length) = some 4 := by decide +kernel
theorem md_X3_roundCost : yX3_roundCost.cls = RX3 ∧ yX3_roundCost.cls ≠ "java/lang/invoke/MethodHandle" ∧ yX3_roundCost.cls ≠ "java/lang/invoke/VarHandle" ∧ (parseMethodDescriptor yX3_roundCost.desc).map (fun d => d.parameters.length) = some 2 := by decide +kernel
theorem md_X3_takesFirstOfLikeOnes : yX3_takesFirstOfLikeOnes.cls = RX3 ∧ yX3_takesFirstOfLikeOnes.cls ≠ "java/lang/invoke/MethodHandle" ∧ yX3_takesFirstOfLikeOnes.cls ≠ "java/lang/invoke/VarHandle" ∧ (parseMethodDescriptor yX3_takesFirstOfLikeOnes.desc).map (fun d => d.parameters.length) = some 1 := by decide +kernel
theorem md_X4_catchesOn : yX4_catchesOn.cls = RX4 ∧ yX4_catchesOn.cls ≠ "java/lang/invoke/MethodHandle" ∧ yX4_catchesOn.cls ≠ "java/lang/invoke/VarHandle" ∧ (parseMethodDescriptor yX4_catchesOn.desc).map (fun d => d.parameters.length) = some 2 := by decide +kernel
theorem md_X4_copyFrom : yX4_copyFrom.cls = RX4 ∧ yX4_copyFrom.cls ≠ "java/lang/invoke/MethodHandle" ∧ yX4_copyFrom.cls ≠ "java/lang/invoke/VarHandle" ∧ (parseMethodDescriptor yX4_copyFrom.desc).map (fun d => d.parameters.length) = some 1 := by decide +kernel
theorem md_X4_isNewName : yX4_isNewName.cls = RX4 ∧ yX4_isNewName.cls ≠ "java/lang/invoke/MethodHandle" ∧ yX4_isNewName.cls ≠ "java/lang/invoke/VarHandle" ∧ (parseMethodDescriptor yX4_isNewName.desc).map (fun d => d.parameters.length) = some 1 := by decide +kernel
theorem md_X4_readBed : yX4_readBed.cls = RX4 ∧ yX4_readBed.cls ≠ "java/lang/invoke/MethodHandle" ∧ yX4_readBed.cls ≠ "java/lang/invoke/VarHandle" ∧ (parseMethodDescriptor yX4_readBed.desc).map (fun d => d.parameters.length) = some 1 := by decide +kernel
theorem md_X4_readCaught : yX4_readCaught.cls = RX4 ∧ yX4_readCaught.cls ≠ "java/lang/invoke/MethodHandle" ∧ yX4_readCaught.cls ≠ "java/lang/invoke/VarHandle" ∧ (parseMethodDescriptor yX4_readCaught.desc).map (fun d => d.parameters.length) = some 2 := by decide +kernel
theorem md_X4_readComb : yX4_readComb.cls = RX4 ∧ yX4_readComb.cls ≠ "java/lang/invoke/MethodHandle" ∧ yX4_readComb.cls ≠ "java/lang/invoke/VarHandle" ∧ (parseMethodDescriptor yX4_readComb.desc).map (fun d => d.parameters.length) = some 1 := by decide +kernel
theorem md_X4_readDaily : yX4_readDaily.cls = RX4 ∧ yX4_readDaily.cls ≠ "java/lang/invoke/MethodHandle" ∧ yX4_readDaily.cls ≠ "java/lang/invoke/VarHandle" ∧ (parseMethodDescriptor yX4_readDaily.desc).map (fun d => d.parameters.length) = some 1 := by decide +kernel
theorem md_X4_readFrom : yX4_readFrom.cls = RX4 ∧ yX4_readFrom.cls ≠ "java/lang/invoke/MethodHandle" ∧ yX4_readFrom.cls ≠ "java/lang/invoke/VarHandle" ∧ (parseMethodDescriptor yX4_readFrom.desc).map (fun d => d.parameters.length) = some 2 := by decide +kernel
theorem md_X4_readLine : yX4_readLine.cls = RX4 ∧ yX4_readLine.cls ≠ "java/lang/invoke/MethodHandle" ∧ yX4_readLine.cls ≠ "java/lang/invoke/VarHandle" ∧ (parseMethodDescriptor yX4_readLine.desc).map (fun d => d.parameters.length) = some 2 := by decide +kernel
theorem md_X4_readPerson : yX4_readPerson.cls = RX4 ∧ yX4_readPerson.cls ≠ "java/lang/invoke/MethodHandle" ∧ yX4_readPerson.cls ≠ "java/lang/invoke/VarHandle" ∧ (parseMethodDescriptor yX4_readPerson.desc).map (fun d => d.parameters.length) = some 1 := by decide +kernel
theorem md_X4_readThing : yX4_readThing.cls = RX4 ∧ yX4_readThing.cls ≠ "java/lang/invoke/MethodHandle" ∧ yX4_readThing.cls ≠ "java/lang/invoke/VarHandle" ∧ (parseMethodDescriptor yX4_readThing.desc).map (fun d => d.parameters.length) = some 1 := by decide +kernel
theorem md_X5_addStep : yX5_addStep.cls = RX5 ∧ yX5_addStep.cls ≠ "java/lang/invoke/MethodHandle" ∧ yX5_addStep.cls ≠ "java/lang/invoke/VarHandle" ∧ (parseMethodDescriptor yX5_addStep.desc).map (fun d => d.parameters.length) = some 3 := by decide +kernel
theorem md_X5_beginsOne : yX5_beginsOne.cls ≠ "java/lang/invoke/MethodHandle" ∧ yX5_beginsOne.cls ≠ "java/lang/invoke/VarHandle" ∧ (parseMethodDescriptor yX5_beginsOne.desc).map (fun d => d.parameters.length) = some 1 := by decide +kernel
theorem md_X5_copyFrom : yX5_copyFrom.cls = RX5 ∧ yX5_copyFrom.cls ≠ "java/lang/invoke/MethodHandle" ∧ yX5_copyFrom.cls ≠ "java/lang/invoke/VarHandle" ∧ (parseMethodDescriptor yX5_copyFrom.desc).map (fun d => d.parameters.length) = some 1 := by decide +kernel
theorem md_X5_forget : yX5_forget.cls = RX5 ∧ yX5_forget.cls ≠ "java/lang/invoke/MethodHandle" ∧ yX5_forget.cls ≠ "java/lang/invoke/VarHandle" ∧ (parseMethodDescriptor yX5_forget.desc).map (fun d => d.parameters.length) = some 0 := by decide +kernel
theorem md_X5_isMeasured : yX5_isMeasured.cls ≠ "java/lang/invoke/MethodHandle" ∧ yX5_isMeasured.cls ≠ "java/lang/invoke/VarHandle" ∧ (parseMethodDescriptor yX5_isMeasured.desc).map (fun d => d.parameters.length) = some 1 := by decide +kernel
theorem md_X5_isPlainTrue : yX5_isPlainTrue.cls = RX5 ∧ yX5_isPlainTrue.cls ≠ "java/lang/invoke/MethodHandle" ∧ yX5_isPlainTrue.cls ≠ "java/lang/invoke/VarHandle" ∧ (parseMethodDescriptor yX5_isPlainTrue.desc).map (fun d => d.parameters.length) = some 4 := by decide +kernel
theorem md_X5_isTrueOf : yX5_isTrueOf.cls = RX5 ∧ yX5_isTrueOf.cls ≠ "java/lang/invoke/MethodHandle" ∧ yX5_isTrueOf.cls ≠ "java/lang/invoke/VarHandle" ∧ (parseMethodDescriptor yX5_isTrueOf.desc).map (fun d => d.parameters.length) = some 3 := by decide +kernel
theorem md_X5_measureOf : yX5_measureOf.cls ≠ "java/lang/invoke/MethodHandle" ∧ yX5_measureOf.cls ≠ "java/lang/invoke/VarHandle" ∧ (parseMethodDescriptor yX5_measureOf.desc).map (fun d => d.parameters.length) = some 3 := by decide +kernel
theorem md_X5_readCond : yX5_readCond.cls = RX5 ∧ yX5_readCond.cls ≠ "java/lang/invoke/MethodHandle" ∧ yX5_readCond.cls ≠ "java/lang/invoke/VarHandle" ∧ (parseMethodDescriptor yX5_readCond.desc).map (fun d => d.parameters.length) = some 3 := by decide +kernel
theorem md_X5_readFrom : yX5_readFrom.cls = RX5 ∧ yX5_readFrom.cls ≠ "java/lang/invoke/MethodHandle" ∧ yX5_readFrom.cls ≠ "java/lang/invoke/VarHandle" ∧ (parseMethodDescriptor yX5_readFrom.desc).map (fun d => d.parameters.length) = some 2 := by decide +kernel
theorem md_X5_readOne : yX5_readOne.cls = RX5 ∧ yX5_readOne.cls ≠ "java/lang/invoke/MethodHandle" ∧ yX5_readOne.cls ≠ "java/lang/invoke/VarHandle" ∧ (parseMethodDescriptor yX5_readOne.desc).map (fun d => d.parameters.length) = some 3 := by decide +kernel
theorem md_X5_readPlain : yX5_readPlain.cls = RX5 ∧ yX5_readPlain.cls ≠ "java/lang/invoke/MethodHandle" ∧ yX5_readPlain.cls ≠ "java/lang/invoke/VarHandle" ∧ (parseMethodDescriptor yX5_readPlain.desc).map (fun d => d.parameters.length) = some 3 := by decide +kernel
theorem md_X6_actAsDrawn : yX6_actAsDrawn.cls = RX6 ∧ yX6_actAsDrawn.cls ≠ "java/lang/invoke/MethodHandle" ∧ yX6_actAsDrawn.cls ≠ "java/lang/invoke/VarHandle" ∧ (parseMethodDescriptor yX6_actAsDrawn.desc).map (fun d => d.parameters.length) = some 2 := by decide +kernel
theorem md_X6_alike : yX6_alike.cls = RX6 ∧ yX6_alike.cls ≠ "java/lang/invoke/MethodHandle" ∧ yX6_alike.cls ≠ "java/lang/invoke/VarHandle" ∧ (parseMethodDescriptor yX6_alike.desc).map (fun d => d.parameters.length) = some 2 := by decide +kernel
theorem md_X6_allHolds : yX6_allHolds.cls = RX6 ∧ yX6_allHolds.cls ≠ "java/lang/invoke/MethodHandle" ∧ yX6_allHolds.cls ≠ "java/lang/invoke/VarHandle" ∧ (parseMethodDescriptor yX6_allHolds.desc).map (fun d => d.parameters.length) = some 2 := by decide +kernel
theorem md_X6_allNests : yX6_allNests.cls = RX6 ∧ yX6_allNests.cls ≠ "java/lang/invoke/MethodHandle" ∧ yX6_allNests.cls ≠ "java/lang/invoke/VarHandle" ∧ (parseMethodDescriptor yX6_allNests.desc).map (fun d => d.parameters.length) = some 1 := by decide +kernel
theorem md_X6_allSleeping : yX6_allSleeping.cls = RX6 ∧ yX6_allSleeping.cls ≠ "java/lang/invoke/MethodHandle" ∧ yX6_allSleeping.cls ≠ "java/lang/invoke/VarHandle" ∧ (parseMethodDescriptor yX6_allSleeping.desc).map (fun d => d.parameters.length) = some 1 := by decide +kernel
theorem md_X6_catchThing : yX6_catchThing.cls = RX6 ∧ yX6_catchThing.cls ≠ "java/lang/invoke/MethodHandle" ∧ yX6_catchThing.cls ≠ "java/lang/invoke/VarHandle" ∧ (parseMethodDescriptor yX6_catchThing.desc).map (fun d => d.parameters.length) = some 2 := by decide +kernel
theorem md_X6_clear : yX6_clear.cls = RX6 ∧ yX6_clear.cls ≠ "java/lang/invoke/MethodHandle" ∧ yX6_clear.cls ≠ "java/lang/invoke/VarHandle" ∧ (parseMethodDescriptor yX6_clear.desc).map (fun d => d.parameters.length) = some 0 := by decide +kernel
theorem md_X6_comb : yX6_comb.cls = RX6 ∧ yX6_comb.cls ≠ "java/lang/invoke/MethodHandle" ∧ yX6_comb.cls ≠ "java/lang/invoke/VarHandle" ∧ (parseMethodDescriptor yX6_comb.desc).map (fun d => d.parameters.length) = some 3 := by decide +kernel
theorem md_X6_copyFrom : yX6_copyFrom.cls = RX6 ∧ yX6_copyFrom.cls ≠ "java/lang/invoke/MethodHandle" ∧ yX6_copyFrom.cls ≠ "java/lang/invoke/VarHandle" ∧ (parseMethodDescriptor yX6_copyFrom.desc).map (fun d => d.parameters.length) = some 1 := by decide +kernel
theorem md_X6_cutOff : yX6_cutOff.cls = RX6 ∧ yX6_cutOff.cls ≠ "java/lang/invoke/MethodHandle" ∧ yX6_cutOff.cls ≠ "java/lang/invoke/VarHandle" ∧ (parseMethodDescriptor yX6_cutOff.desc).map (fun d => d.parameters.length) = some 1 := by decide +kernel
theorem md_X6_daysLeft : yX6_daysLeft.cls = RX6 ∧ yX6_daysLeft.cls ≠ "java/lang/invoke/MethodHandle" ∧ yX6_daysLeft.cls ≠ "java/lang/invoke/VarHandle" ∧ (parseMethodDescriptor yX6_daysLeft.desc).map (fun d => d.parameters.length) = some 0 := by decide +kernel
theorem md_X6_draw : yX6_draw.cls = RX6 ∧ yX6_draw.cls ≠ "java/lang/invoke/MethodHandle" ∧ yX6_draw.cls ≠ "java/lang/invoke/VarHandle" ∧ (parseMethodDescriptor yX6_draw.desc).map (fun d => d.parameters.length) = some 1 := by decide +kernel
theorem md_X6_endsWith : yX6_endsWith.cls = RX6 ∧ yX6_endsWith.cls ≠ "java/lang/invoke/MethodHandle" ∧ yX6_endsWith.cls ≠ "java/lang/invoke/VarHandle" ∧ (parseMethodDescriptor yX6_endsWith.desc).map (fun d => d.parameters.length) = some 3 := by decide +kernel
theorem md_X6_fillBed : yX6_fillBed.cls = RX6 ∧ yX6_fillBed.cls ≠ "java/lang/invoke/MethodHandle" ∧ yX6_fillBed.cls ≠ "java/lang/invoke/VarHandle" ∧ (parseMethodDescriptor yX6_fillBed.desc).map (fun d => d.parameters.length) = some 3 := by decide +kernel
theorem md_X6_has : yX6_has.cls = RX6 ∧ yX6_has.cls ≠ "java/lang/invoke/MethodHandle" ∧ yX6_has.cls ≠ "java/lang/invoke/VarHandle" ∧ (parseMethodDescriptor yX6_has.desc).map (fun d => d.parameters.length) = some 2 := by decide +kernel
theorem md_X6_holdAt : yX6_holdAt.cls = RX6 ∧ yX6_holdAt.cls ≠ "java/lang/invoke/MethodHandle" ∧ yX6_holdAt.cls ≠ "java/lang/invoke/VarHandle" ∧ (parseMethodDescriptor yX6_holdAt.desc).map (fun d => d.parameters.length) = some 3 := by decide +kernel
theorem md_X6_isNest : yX6_isNest.cls = RX6 ∧ yX6_isNest.cls ≠ "java/lang/invoke/MethodHandle" ∧ yX6_isNest.cls ≠ "java/lang/invoke/VarHandle" ∧ (parseMethodDescriptor yX6_isNest.desc).map (fun d => d.parameters.length) = some 1 := by decide +kernel
theorem md_X6_knotBelow : yX6_knotBelow.cls = RX6 ∧ yX6_knotBelow.cls ≠ "java/lang/invoke/MethodHandle" ∧ yX6_knotBelow.cls ≠ "java/lang/invoke/VarHandle" ∧ (parseMethodDescriptor yX6_knotBelow.desc).map (fun d => d.parameters.length) = some 2 := by decide +kernel
theorem md_X6_knotsOf : yX6_knotsOf.cls = RX6 ∧ yX6_knotsOf.cls ≠ "java/lang/invoke/MethodHandle" ∧ yX6_knotsOf.cls ≠ "java/lang/invoke/VarHandle" ∧ (parseMethodDescriptor yX6_knotsOf.desc).map (fun d => d.parameters.length) = some 1 := by decide +kernel
theorem md_X6_layerAt : yX6_layerAt.cls = RX6 ∧ yX6_layerAt.cls ≠ "java/lang/invoke/MethodHandle" ∧ yX6_layerAt.cls ≠ "java/lang/invoke/VarHandle" ∧ (parseMethodDescriptor yX6_layerAt.desc).map (fun d => d.parameters.length) = some 2 := by decide +kernel
theorem md_X6_layerFromOutside : yX6_layerFromOutside.cls = RX6 ∧ yX6_layerFromOutside.cls ≠ "java/lang/invoke/MethodHandle" ∧ yX6_layerFromOutside.cls ≠ "java/lang/invoke/VarHandle" ∧ (parseMethodDescriptor yX6_layerFromOutside.desc).map (fun d => d.parameters.length) = some 2 := by decide +kernel
theorem md_X6_letDaysGo : yX6_letDaysGo.cls = RX6 ∧ yX6_letDaysGo.cls ≠ "java/lang/invoke/MethodHandle" ∧ yX6_letDaysGo.cls ≠ "java/lang/invoke/VarHandle" ∧ (parseMethodDescriptor yX6_letDaysGo.desc).map (fun d => d.parameters.length) = some 2 := by decide +kernel
theorem md_X6_letDrawnDaysGo : yX6_letDrawnDaysGo.cls = RX6 ∧ yX6_letDrawnDaysGo.cls ≠ "java/lang/invoke/MethodHandle" ∧ yX6_letDrawnDaysGo.cls ≠ "java/lang/invoke/VarHandle" ∧ (parseMethodDescriptor yX6_letDrawnDaysGo.desc).map (fun d => d.parameters.length) = some 3 := by decide +kernel
theorem md_X6_letOneDayGo : yX6_letOneDayGo.cls = RX6 ∧ yX6_letOneDayGo.cls ≠ "java/lang/invoke/MethodHandle" ∧ yX6_letOneDayGo.cls ≠ "java/lang/invoke/VarHandle" ∧ (parseMethodDescriptor yX6_letOneDayGo.desc).map (fun d => d.parameters.length) = some 1 := by decide +kernel
theorem md_X6_outsideHolds : yX6_outsideHolds.cls = RX6 ∧ yX6_outsideHolds.cls ≠ "java/lang/invoke/MethodHandle" ∧ yX6_outsideHolds.cls ≠ "java/lang/invoke/VarHandle" ∧ (parseMethodDescriptor yX6_outsideHolds.desc).map (fun d => d.parameters.length) = some 2 := by decide +kernel
theorem md_X6_putOutsideKnotIntoBag : yX6_putOutsideKnotIntoBag.cls = RX6 ∧ yX6_putOutsideKnotIntoBag.cls ≠ "java/lang/invoke/MethodHandle" ∧ yX6_putOutsideKnotIntoBag.cls ≠ "java/lang/invoke/VarHandle" ∧ (parseMethodDescriptor yX6_putOutsideKnotIntoBag.desc).map (fun d => d.parameters.length) = some 1 := by decide +kernel
theorem md_X6_sleeps : yX6_sleeps.cls = RX6 ∧ yX6_sleeps.cls ≠ "java/lang/invoke/MethodHandle" ∧ yX6_sleeps.cls ≠ "java/lang/invoke/VarHandle" ∧ (parseMethodDescriptor yX6_sleeps.desc).map (fun d => d.parameters.length) = some 2 := by decide +kernel
theorem md_X6_stillOf : yX6_stillOf.cls = RX6 ∧ yX6_stillOf.cls ≠ "java/lang/invoke/MethodHandle" ∧ yX6_stillOf.cls ≠ "java/lang/invoke/VarHandle" ∧ (parseMethodDescriptor yX6_stillOf.desc).map (fun d => d.parameters.length) = some 2 := by decide +kernel
theorem md_X6_whoHas : yX6_whoHas.cls = RX6 ∧ yX6_whoHas.cls ≠ "java/lang/invoke/MethodHandle" ∧ yX6_whoHas.cls ≠ "java/lang/invoke/VarHandle" ∧ (parseMethodDescriptor yX6_whoHas.desc).map (fun d => d.parameters.length) = some 2 := by decide +kernel
theorem md_X6_whyNoCatch : yX6_whyNoCatch.cls = RX6 ∧ yX6_whyNoCatch.cls ≠ "java/lang/invoke/MethodHandle" ∧ yX6_whyNoCatch.cls ≠ "java/lang/invoke/VarHandle" ∧ (parseMethodDescriptor yX6_whyNoCatch.desc).map (fun d => d.parameters.length) = some 1 := by decide +kernel
theorem md_X6_whyNoCut : yX6_whyNoCut.cls = RX6 ∧ yX6_whyNoCut.cls ≠ "java/lang/invoke/MethodHandle" ∧ yX6_whyNoCut.cls ≠ "java/lang/invoke/VarHandle" ∧ (parseMethodDescriptor yX6_whyNoCut.desc).map (fun d => d.parameters.length) = some 1 := by decide +kernel
theorem md_X6_whyNoStroke : yX6_whyNoStroke.cls = RX6 ∧ yX6_whyNoStroke.cls ≠ "java/lang/invoke/MethodHandle" ∧ yX6_whyNoStroke.cls ≠ "java/lang/invoke/VarHandle" ∧ (parseMethodDescriptor yX6_whyNoStroke.desc).map (fun d => d.parameters.length) = some 3 := by decide +kernel
theorem md_X6_whyNoStuffing : yX6_whyNoStuffing.cls = RX6 ∧ yX6_whyNoStuffing.cls ≠ "java/lang/invoke/MethodHandle" ∧ yX6_whyNoStuffing.cls ≠ "java/lang/invoke/VarHandle" ∧ (parseMethodDescriptor yX6_whyNoStuffing.desc).map (fun d => d.parameters.length) = some 1 := by decide +kernel
theorem md_X7_put : yX7_put.cls = RX7 ∧ yX7_put.cls ≠ "java/lang/invoke/MethodHandle" ∧ yX7_put.cls ≠ "java/lang/invoke/VarHandle" ∧ (parseMethodDescriptor yX7_put.desc).map (fun d => d.parameters.length) = some 1 := by decide +kernel
theorem md_X7_putKnot : yX7_putKnot.cls = RX7 ∧ yX7_putKnot.cls ≠ "java/lang/invoke/MethodHandle" ∧ yX7_putKnot.cls ≠ "java/lang/invoke/VarHandle" ∧ (parseMethodDescriptor yX7_putKnot.desc).map (fun d => d.parameters.length) = some 3 := by decide +kernel
theorem md_X7_putName : yX7_putName.cls = RX7 ∧ yX7_putName.cls ≠ "java/lang/invoke/MethodHandle" ∧ yX7_putName.cls ≠ "java/lang/invoke/VarHandle" ∧ (parseMethodDescriptor yX7_putName.desc).map (fun d => d.parameters.length) = some 1 := by decide +kernel
theorem md_X7_write : yX7_write.cls = RX7 ∧ yX7_write.cls ≠ "java/lang/invoke/MethodHandle" ∧ yX7_write.cls ≠ "java/lang/invoke/VarHandle" ∧ (parseMethodDescriptor yX7_write.desc).map (fun d => d.parameters.length) = some 3 := by decide +kernel
theorem md_X8_advance : yX8_advance.cls = RX8 ∧ yX8_advance.cls ≠ "java/lang/invoke/MethodHandle" ∧ yX8_advance.cls ≠ "java/lang/invoke/VarHandle" ∧ (parseMethodDescriptor yX8_advance.desc).map (fun d => d.parameters.length) = some 0 := by decide +kernel
theorem md_X8_findName : yX8_findName.cls = RX8 ∧ yX8_findName.cls ≠ "java/lang/invoke/MethodHandle" ∧ yX8_findName.cls ≠ "java/lang/invoke/VarHandle" ∧ (parseMethodDescriptor yX8_findName.desc).map (fun d => d.parameters.length) = some 2 := by decide +kernel
theorem md_X8_isName : yX8_isName.cls = RX8 ∧ yX8_isName.cls ≠ "java/lang/invoke/MethodHandle" ∧ yX8_isName.cls ≠ "java/lang/invoke/VarHandle" ∧ (parseMethodDescriptor yX8_isName.desc).map (fun d => d.parameters.length) = some 0 := by decide +kernel
theorem md_X8_isSign : yX8_isSign.cls ≠ "java/lang/invoke/MethodHandle" ∧ yX8_isSign.cls ≠ "java/lang/invoke/VarHandle" ∧ (parseMethodDescriptor yX8_isSign.desc).map (fun d => d.parameters.length) = some 1 := by decide +kernel
theorem md_X8_open : yX8_open.cls = RX8 ∧ yX8_open.cls ≠ "java/lang/invoke/MethodHandle" ∧ yX8_open.cls ≠ "java/lang/invoke/VarHandle" ∧ (parseMethodDescriptor yX8_open.desc).map (fun d => d.parameters.length) = some 1 := by decide +kernel
theorem md_X8_placeIn : yX8_placeIn.cls = RX8 ∧ yX8_placeIn.cls ≠ "java/lang/invoke/MethodHandle" ∧ yX8_placeIn.cls ≠ "java/lang/invoke/VarHandle" ∧ (parseMethodDescriptor yX8_placeIn.desc).map (fun d => d.parameters.length) = some 2 := by decide +kernel
theorem md_X8_putNumber : yX8_putNumber.cls = RX8 ∧ yX8_putNumber.cls ≠ "java/lang/invoke/MethodHandle" ∧ yX8_putNumber.cls ≠ "java/lang/invoke/VarHandle" ∧ (parseMethodDescriptor yX8_putNumber.desc).map (fun d => d.parameters.length) = some 1 := by decide +kernel
theorem md_X8_refuse : yX8_refuse.cls = RX8 ∧ yX8_refuse.cls ≠ "java/lang/invoke/MethodHandle" ∧ yX8_refuse.cls ≠ "java/lang/invoke/VarHandle" ∧ (parseMethodDescriptor yX8_refuse.desc).map (fun d => d.parameters.length) = some 1 := by decide +kernel
theorem md_X8_scanRun : yX8_scanRun.cls = RX8 ∧ yX8_scanRun.cls ≠ "java/lang/invoke/MethodHandle" ∧ yX8_scanRun.cls ≠ "java/lang/invoke/VarHandle" ∧ (parseMethodDescriptor yX8_scanRun.desc).map (fun d => d.parameters.length) = some 0 := by decide +kernel
theorem md_X8_takeName : yX8_takeName.cls = RX8 ∧ yX8_takeName.cls ≠ "java/lang/invoke/MethodHandle" ∧ yX8_takeName.cls ≠ "java/lang/invoke/VarHandle" ∧ (parseMethodDescriptor yX8_takeName.desc).map (fun d => d.parameters.length) = some 2 := by decide +kernel
theorem md_X8_takeNumber : yX8_takeNumber.cls = RX8 ∧ yX8_takeNumber.cls ≠ "java/lang/invoke/MethodHandle" ∧ yX8_takeNumber.cls ≠ "java/lang/invoke/VarHandle" ∧ (parseMethodDescriptor yX8_takeNumber.desc).map (fun d => d.parameters.length) = some 2 := by decide +kernel
theorem md_X8_takeSign : yX8_takeSign.cls = RX8 ∧ yX8_takeSign.cls ≠ "java/lang/invoke/MethodHandle" ∧ yX8_takeSign.cls ≠ "java/lang/invoke/VarHandle" ∧ (parseMethodDescriptor yX8_takeSign.desc).map (fun d => d.parameters.length) = some 1 := by decide +kernel
theorem md_X9_of : yX9_of.cls ≠ "java/lang/invoke/MethodHandle" ∧ yX9_of.cls ≠ "java/lang/invoke/VarHandle" ∧ (parseMethodDescriptor yX9_of.desc).map (fun d => d.parameters.length) = some 1 := by decide +kernel
