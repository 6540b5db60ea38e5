theorem cb_8 : (Int8.ofInt (8)).toInt32 = (8 : Int32) := by decide
theorem cb_10 : (Int8.ofInt (10)).toInt32 = (10 : Int32) := by decide
theorem ci_m1 : Int32.ofInt (-1) = (-1 : Int32) := by decide
theorem ci_0 : Int32.ofInt (0) = (0 : Int32) := by decide
theorem ci_1 : Int32.ofInt (1) = (1 : Int32) := by decide
theorem inX0 : ∀ w ∈ u_ws RX0 TX0 9, w ∈ gw := gw_in [474, 476, 478, 480, 482, 484, 486, 488, 490] (by decide +kernel) (by decide +kernel)
theorem inX1 : ∀ w ∈ u_ws RX1 TX1 4, w ∈ gw := gw_in [419, 421, 423, 425] (by decide +kernel) (by decide +kernel)
theorem inX2 : ∀ w ∈ u_ws RX2 TX2 3, w ∈ gw := gw_in [394, 396, 398] (by decide +kernel) (by decide +kernel)
theorem inX3 : ∀ w ∈ u_ws RX3 TX3 6, w ∈ gw := gw_in [440, 442, 444, 446, 448, 450] (by decide +kernel) (by decide +kernel)
theorem inX4 : ∀ w ∈ u_ws RX4 TX4 16, w ∈ gw := gw_in [257, 259, 261, 263, 265, 267, 269, 271, 273, 275, 277, 279, 281, 283, 285, 287] (by decide +kernel) (by decide +kernel)
theorem inX5 : ∀ w ∈ u_ws RX5 TX5 5, w ∈ gw := gw_in [371, 373, 375, 377, 379] (by decide +kernel) (by decide +kernel)
theorem inX6 : ∀ w ∈ u_ws RX6 TX6 13, w ∈ gw := gw_in [330, 332, 334, 336, 338, 340, 342, 344, 346, 348, 350, 352, 354] (by decide +kernel) (by decide +kernel)
theorem inX7 : ∀ w ∈ u_ws RX7 TX7 2, w ∈ gw := gw_in [503, 505] (by decide +kernel) (by decide +kernel)
theorem inX8 : ∀ w ∈ u_ws RX8 TX8 11, w ∈ gw := gw_in [169, 171, 173, 175, 177, 179, 181, 183, 185, 187, 189] (by decide +kernel) (by decide +kernel)
theorem inX10 : ∀ w ∈ u_ws RX10 TX10 16, w ∈ gw := gw_in [524, 526, 528, 530, 532, 534, 536, 538, 540, 542, 544, 546, 548, 550, 552, 554] (by decide +kernel) (by decide +kernel)
theorem inX11 : ∀ w ∈ u_ws RX11 TX11 49, w ∈ gw := gw_in [1417, 1419, 1421, 1423, 1425, 1427, 1429, 1431, 1433, 1435, 1437, 1439, 1441, 1443, 1445, 1447, 1449, 1451, 1453, 1455, 1457, 1459, 1461, 1463, 1465, 1467, 1469, 1471, 1473, 1475, 1477, 1479, 1481, 1483, 1485, 1487, 1489, 1491, 1493, 1495, 1497, 1499, 1501, 1503, 1505, 1507, 1509, 1511, 1513] (by decide +kernel) (by decide +kernel)
theorem wf_RX6_9 : Cond.fieldLink RX6 9 RX6 "rows" "[I" ∈ gw := gw_at 297 (by decide +kernel) rfl
theorem gf_RX6_9 {cc : ByteArray} {fr lo nL : Nat} {G : Wc} {Γ : Cx} {us : List (Nat × Ob)} {pc : Nat} {L : List (Nat × Value)} {st : List Value} {u : Nat} {S : Ob} (i : Nat) (hu : us[i]? = some (u, S)) (hk : kd u = 6) (d : decode cc pc = .ok (.getfield 9, 3)) (kk : V cc RX6 fr lo nL G Γ us (pc + 3) L (.ref (wA G u 1) :: st)) : V cc RX6 fr lo nL G Γ us pc L (.ref (wA G u 0) :: st) :=
  V_get (T := TX6) 0 i (Or.inl wf_RX6_9) inX6 rfl (by decide) rfl hu hk (by decide) rfl rfl d kk
theorem wf_RX6_15 : Cond.fieldLink RX6 15 RX6 "heights" "[I" ∈ gw := gw_at 298 (by decide +kernel) rfl
theorem gf_RX6_15 {cc : ByteArray} {fr lo nL : Nat} {G : Wc} {Γ : Cx} {us : List (Nat × Ob)} {pc : Nat} {L : List (Nat × Value)} {st : List Value} {u : Nat} {S : Ob} (i : Nat) (hu : us[i]? = some (u, S)) (hk : kd u = 6) (d : decode cc pc = .ok (.getfield 15, 3)) (kk : V cc RX6 fr lo nL G Γ us (pc + 3) L (.ref (wA G u 2) :: st)) : V cc RX6 fr lo nL G Γ us pc L (.ref (wA G u 0) :: st) :=
  V_get (T := TX6) 1 i (Or.inl wf_RX6_15) inX6 rfl (by decide) rfl hu hk (by decide) rfl rfl d kk
theorem wf_RX6_18 : Cond.fieldLink RX6 18 RX6 "pains" "[I" ∈ gw := gw_at 303 (by decide +kernel) rfl
theorem gf_RX6_18 {cc : ByteArray} {fr lo nL : Nat} {G : Wc} {Γ : Cx} {us : List (Nat × Ob)} {pc : Nat} {L : List (Nat × Value)} {st : List Value} {u : Nat} {S : Ob} (i : Nat) (hu : us[i]? = some (u, S)) (hk : kd u = 6) (d : decode cc pc = .ok (.getfield 18, 3)) (kk : V cc RX6 fr lo nL G Γ us (pc + 3) L (.ref (wA G u 3) :: st)) : V cc RX6 fr lo nL G Γ us pc L (.ref (wA G u 0) :: st) :=
  V_get (T := TX6) 2 i (Or.inl wf_RX6_18) inX6 rfl (by decide) rfl hu hk (by decide) rfl rfl d kk
theorem wf_RX6_21 : Cond.fieldLink RX6 21 RX6 "bag" "[I" ∈ gw := gw_at 307 (by decide +kernel) rfl
theorem gf_RX6_21 {cc : ByteArray} {fr lo nL : Nat} {G : Wc} {Γ : Cx} {us : List (Nat × Ob)} {pc : Nat} {L : List (Nat × Value)} {st : List Value} {u : Nat} {S : Ob} (i : Nat) (hu : us[i]? = some (u, S)) (hk : kd u = 6) (d : decode cc pc = .ok (.getfield 21, 3)) (kk : V cc RX6 fr lo nL G Γ us (pc + 3) L (.ref (wA G u 4) :: st)) : V cc RX6 fr lo nL G Γ us pc L (.ref (wA G u 0) :: st) :=
  V_get (T := TX6) 3 i (Or.inl wf_RX6_21) inX6 rfl (by decide) rfl hu hk (by decide) rfl rfl d kk
theorem wf_RX6_33 : Cond.fieldLink RX6 33 RX6 "inBag" "I" ∈ gw := gw_at 316 (by decide +kernel) rfl
theorem gf_RX6_33 {cc : ByteArray} {fr lo nL : Nat} {G : Wc} {Γ : Cx} {us : List (Nat × Ob)} {pc : Nat} {L : List (Nat × Value)} {st : List Value} {u : Nat} {S : Ob} (i : Nat) (hu : us[i]? = some (u, S)) (hk : kd u = 6) (d : decode cc pc = .ok (.getfield 33, 3)) (kk : V cc RX6 fr lo nL G Γ us (pc + 3) L (.int (oI S 7) :: st)) : V cc RX6 fr lo nL G Γ us pc L (.ref (wA G u 0) :: st) :=
  V_get (T := TX6) 7 i (Or.inl wf_RX6_33) inX6 rfl (by decide) rfl hu hk (by decide) rfl rfl d kk
theorem pf_RX6_33 {cc : ByteArray} {fr lo nL : Nat} {G : Wc} {Γ : Cx} {us : List (Nat × Ob)} {pc : Nat} {L : List (Nat × Value)} {st : List Value} {u : Nat} {S : Ob} {v : Int32} (us1 : List (Nat × Ob)) (i : Nat) (hu : us[i]? = some (u, S)) (hk : kd u = 6) (hus : us.set i (u, sI S 7 v) = us1) (d : decode cc pc = .ok (.putfield 33, 3)) (kk : V cc RX6 fr lo nL G Γ us1 (pc + 3) L st) : V cc RX6 fr lo nL G Γ us pc L (.int v :: .ref (wA G u 0) :: st) :=
  V_put (T := TX6) (ty := .int) tyX6 7 i (Or.inl wf_RX6_33) inX6 tyX6_ok nmX6 rfl (by decide) rfl rfl (tyX6_ok 7 (by decide)) rfl rfl hu hk (by decide) rfl (Nat.le_of_ble_eq_true rfl) rfl hus d kk
theorem wf_RX6_40 : Cond.fieldLink RX6 40 RX6 "strokes" "I" ∈ gw := gw_at 323 (by decide +kernel) rfl
theorem gf_RX6_40 {cc : ByteArray} {fr lo nL : Nat} {G : Wc} {Γ : Cx} {us : List (Nat × Ob)} {pc : Nat} {L : List (Nat × Value)} {st : List Value} {u : Nat} {S : Ob} (i : Nat) (hu : us[i]? = some (u, S)) (hk : kd u = 6) (d : decode cc pc = .ok (.getfield 40, 3)) (kk : V cc RX6 fr lo nL G Γ us (pc + 3) L (.int (oI S 9) :: st)) : V cc RX6 fr lo nL G Γ us pc L (.ref (wA G u 0) :: st) :=
  V_get (T := TX6) 9 i (Or.inl wf_RX6_40) inX6 rfl (by decide) rfl hu hk (by decide) rfl rfl d kk
theorem pf_RX6_40 {cc : ByteArray} {fr lo nL : Nat} {G : Wc} {Γ : Cx} {us : List (Nat × Ob)} {pc : Nat} {L : List (Nat × Value)} {st : List Value} {u : Nat} {S : Ob} {v : Int32} (us1 : List (Nat × Ob)) (i : Nat) (hu : us[i]? = some (u, S)) (hk : kd u = 6) (hus : us.set i (u, sI S 9 v) = us1) (d : decode cc pc = .ok (.putfield 40, 3)) (kk : V cc RX6 fr lo nL G Γ us1 (pc + 3) L st) : V cc RX6 fr lo nL G Γ us pc L (.int v :: .ref (wA G u 0) :: st) :=
  V_put (T := TX6) (ty := .int) tyX6 9 i (Or.inl wf_RX6_40) inX6 tyX6_ok nmX6 rfl (by decide) rfl rfl (tyX6_ok 9 (by decide)) rfl rfl hu hk (by decide) rfl (Nat.le_of_ble_eq_true rfl) rfl hus d kk
theorem wf_RX6_46 : Cond.fieldLink RX6 46 RX6 "lost" "I" ∈ gw := gw_at 327 (by decide +kernel) rfl
theorem gf_RX6_46 {cc : ByteArray} {fr lo nL : Nat} {G : Wc} {Γ : Cx} {us : List (Nat × Ob)} {pc : Nat} {L : List (Nat × Value)} {st : List Value} {u : Nat} {S : Ob} (i : Nat) (hu : us[i]? = some (u, S)) (hk : kd u = 6) (d : decode cc pc = .ok (.getfield 46, 3)) (kk : V cc RX6 fr lo nL G Γ us (pc + 3) L (.int (oI S 11) :: st)) : V cc RX6 fr lo nL G Γ us pc L (.ref (wA G u 0) :: st) :=
  V_get (T := TX6) 11 i (Or.inl wf_RX6_46) inX6 rfl (by decide) rfl hu hk (by decide) rfl rfl d kk
theorem pf_RX6_46 {cc : ByteArray} {fr lo nL : Nat} {G : Wc} {Γ : Cx} {us : List (Nat × Ob)} {pc : Nat} {L : List (Nat × Value)} {st : List Value} {u : Nat} {S : Ob} {v : Int32} (us1 : List (Nat × Ob)) (i : Nat) (hu : us[i]? = some (u, S)) (hk : kd u = 6) (hus : us.set i (u, sI S 11 v) = us1) (d : decode cc pc = .ok (.putfield 46, 3)) (kk : V cc RX6 fr lo nL G Γ us1 (pc + 3) L st) : V cc RX6 fr lo nL G Γ us pc L (.int v :: .ref (wA G u 0) :: st) :=
  V_put (T := TX6) (ty := .int) tyX6 11 i (Or.inl wf_RX6_46) inX6 tyX6_ok nmX6 rfl (by decide) rfl rfl (tyX6_ok 11 (by decide)) rfl rfl hu hk (by decide) rfl (Nat.le_of_ble_eq_true rfl) rfl hus d kk
theorem wf_RX6_59 : Cond.fieldLinkNest RX6 59 RX4 "holds" "[I" "CombedOut" ∈ lw_tbl := List.mem_of_getElem? (i := 211) (by decide +kernel)
theorem gf_RX6_59 {cc : ByteArray} {fr lo nL : Nat} {G : Wc} {Γ : Cx} {us : List (Nat × Ob)} {pc : Nat} {L : List (Nat × Value)} {st : List Value} {u : Nat} {S : Ob} (i : Nat) (hu : us[i]? = some (u, S)) (hk : kd u = 4) (d : decode cc pc = .ok (.getfield 59, 3)) (kk : V cc RX6 fr lo nL G Γ us (pc + 3) L (.ref (wA G u 3) :: st)) : V cc RX6 fr lo nL G Γ us pc L (.ref (wA G u 0) :: st) :=
  V_get (T := TX4) 2 i (Or.inr ⟨_, wf_RX6_59⟩) inX4 rfl (by decide) rfl hu hk (by decide) rfl rfl d kk
theorem al_X4_2 {cc : ByteArray} {own : String} {fr lo nL : Nat} {G : Wc} {Γ : Cx} {us : List (Nat × Ob)} {pc : Nat} {L : List (Nat × Value)} {st : List Value} {u : Nat} {S : Ob} {i : Int32} (j x : Nat) (hu : us[x]? = some (u, S)) (hk : kd u = 4) (hj : i.toNatClampNeg = j) (hin : inB i 8 = true) (d : decode cc pc = .ok (.iaload, 1)) (kk : V cc own fr lo nL G Γ us (pc + 1) L (.int (oA S 2 j) :: st)) : V cc own fr lo nL G Γ us pc L (.int i :: .ref (wA G u 3) :: st) := by
  subst hj
  exact V_iald x 2 hu hk (by decide) rfl hin d kk
theorem al_X6_0 {cc : ByteArray} {own : String} {fr lo nL : Nat} {G : Wc} {Γ : Cx} {us : List (Nat × Ob)} {pc : Nat} {L : List (Nat × Value)} {st : List Value} {u : Nat} {S : Ob} {i : Int32} (j x : Nat) (hu : us[x]? = some (u, S)) (hk : kd u = 6) (hj : i.toNatClampNeg = j) (hin : inB i 48 = true) (d : decode cc pc = .ok (.iaload, 1)) (kk : V cc own fr lo nL G Γ us (pc + 1) L (.int (oA S 0 j) :: st)) : V cc own fr lo nL G Γ us pc L (.int i :: .ref (wA G u 1) :: st) := by
  subst hj
  exact V_iald x 1 hu hk (by decide) rfl hin d kk
theorem al_X6_1 {cc : ByteArray} {own : String} {fr lo nL : Nat} {G : Wc} {Γ : Cx} {us : List (Nat × Ob)} {pc : Nat} {L : List (Nat × Value)} {st : List Value} {u : Nat} {S : Ob} {i : Int32} (j x : Nat) (hu : us[x]? = some (u, S)) (hk : kd u = 6) (hj : i.toNatClampNeg = j) (hin : inB i 6 = true) (d : decode cc pc = .ok (.iaload, 1)) (kk : V cc own fr lo nL G Γ us (pc + 1) L (.int (oA S 1 j) :: st)) : V cc own fr lo nL G Γ us pc L (.int i :: .ref (wA G u 2) :: st) := by
  subst hj
  exact V_iald x 2 hu hk (by decide) rfl hin d kk
theorem as_X6_1 {cc : ByteArray} {own : String} {fr lo nL : Nat} {G : Wc} {Γ : Cx} {us : List (Nat × Ob)} {pc : Nat} {L : List (Nat × Value)} {st : List Value} {u : Nat} {S : Ob} {i : Int32} {v : Int32} (us1 : List (Nat × Ob)) (j x : Nat) (hu : us[x]? = some (u, S)) (hk : kd u = 6) (hj : i.toNatClampNeg = j) (hin : inB i 6 = true) (hus : us.set x (u, sA S 1 (va_up (oA S 1) j v)) = us1) (d : decode cc pc = .ok (.iastore, 1)) (kk : V cc own fr lo nL G Γ us1 (pc + 1) L st) : V cc own fr lo nL G Γ us pc L (.int v :: .int i :: .ref (wA G u 2) :: st) := by
  subst hj
  exact V_iast x 2 hu hk (by decide) rfl hin rfl hus d kk
theorem al_X6_2 {cc : ByteArray} {own : String} {fr lo nL : Nat} {G : Wc} {Γ : Cx} {us : List (Nat × Ob)} {pc : Nat} {L : List (Nat × Value)} {st : List Value} {u : Nat} {S : Ob} {i : Int32} (j x : Nat) (hu : us[x]? = some (u, S)) (hk : kd u = 6) (hj : i.toNatClampNeg = j) (hin : inB i 6 = true) (d : decode cc pc = .ok (.iaload, 1)) (kk : V cc own fr lo nL G Γ us (pc + 1) L (.int (oA S 2 j) :: st)) : V cc own fr lo nL G Γ us pc L (.int i :: .ref (wA G u 3) :: st) := by
  subst hj
  exact V_iald x 3 hu hk (by decide) rfl hin d kk
theorem as_X6_2 {cc : ByteArray} {own : String} {fr lo nL : Nat} {G : Wc} {Γ : Cx} {us : List (Nat × Ob)} {pc : Nat} {L : List (Nat × Value)} {st : List Value} {u : Nat} {S : Ob} {i : Int32} {v : Int32} (us1 : List (Nat × Ob)) (j x : Nat) (hu : us[x]? = some (u, S)) (hk : kd u = 6) (hj : i.toNatClampNeg = j) (hin : inB i 6 = true) (hus : us.set x (u, sA S 2 (va_up (oA S 2) j v)) = us1) (d : decode cc pc = .ok (.iastore, 1)) (kk : V cc own fr lo nL G Γ us1 (pc + 1) L st) : V cc own fr lo nL G Γ us pc L (.int v :: .int i :: .ref (wA G u 3) :: st) := by
  subst hj
  exact V_iast x 3 hu hk (by decide) rfl hin rfl hus d kk
theorem al_X6_3 {cc : ByteArray} {own : String} {fr lo nL : Nat} {G : Wc} {Γ : Cx} {us : List (Nat × Ob)} {pc : Nat} {L : List (Nat × Value)} {st : List Value} {u : Nat} {S : Ob} {i : Int32} (j x : Nat) (hu : us[x]? = some (u, S)) (hk : kd u = 6) (hj : i.toNatClampNeg = j) (hin : inB i 8 = true) (d : decode cc pc = .ok (.iaload, 1)) (kk : V cc own fr lo nL G Γ us (pc + 1) L (.int (oA S 3 j) :: st)) : V cc own fr lo nL G Γ us pc L (.int i :: .ref (wA G u 4) :: st) := by
  subst hj
  exact V_iald x 4 hu hk (by decide) rfl hin d kk
theorem as_X6_3 {cc : ByteArray} {own : String} {fr lo nL : Nat} {G : Wc} {Γ : Cx} {us : List (Nat × Ob)} {pc : Nat} {L : List (Nat × Value)} {st : List Value} {u : Nat} {S : Ob} {i : Int32} {v : Int32} (us1 : List (Nat × Ob)) (j x : Nat) (hu : us[x]? = some (u, S)) (hk : kd u = 6) (hj : i.toNatClampNeg = j) (hin : inB i 8 = true) (hus : us.set x (u, sA S 3 (va_up (oA S 3) j v)) = us1) (d : decode cc pc = .ok (.iastore, 1)) (kk : V cc own fr lo nL G Γ us1 (pc + 1) L st) : V cc own fr lo nL G Γ us pc L (.int v :: .int i :: .ref (wA G u 4) :: st) := by
  subst hj
  exact V_iast x 4 hu hk (by decide) rfl hin rfl hus d kk
theorem wx_722 : Cond.instanceMethod yX6_layerAt ∈ gw := gw_at 722 (by decide +kernel) rfl
theorem wx_723 : Cond.selects RX6 yX6_layerAt yX6_layerAt ∈ gw := gw_at 723 (by decide +kernel) rfl
theorem wx_116 : Cond.initialized RX6 ∈ gw := gw_at 116 (by decide +kernel) rfl
theorem wx_724 : Cond.code yX6_layerAt cX6_layerAt 3 (some .int) ∈ gw := gw_at 724 (by decide +kernel) rfl
theorem wm_RX6_55 : Cond.methodLink RX6 55 yX6_layerAt ∈ gw ∧ Cond.instanceMethod yX6_layerAt ∈ gw ∧ Cond.selects RX6 yX6_layerAt yX6_layerAt ∈ gw ∧ Cond.initialized RX6 ∈ gw ∧ Cond.code yX6_layerAt cX6_layerAt 3 (some .int) ∈ gw := ⟨gw_at 741 (by decide +kernel) rfl, wx_722, wx_723, wx_116, wx_724⟩
theorem wx_785 : Cond.instanceMethod yX6_knotBelow ∈ gw := gw_at 785 (by decide +kernel) rfl
theorem wx_786 : Cond.selects RX6 yX6_knotBelow yX6_knotBelow ∈ gw := gw_at 786 (by decide +kernel) rfl
theorem wx_787 : Cond.code yX6_knotBelow cX6_knotBelow 5 (some .int) ∈ gw := gw_at 787 (by decide +kernel) rfl
theorem wm_RX6_64 : Cond.methodLink RX6 64 yX6_knotBelow ∈ gw ∧ Cond.instanceMethod yX6_knotBelow ∈ gw ∧ Cond.selects RX6 yX6_knotBelow yX6_knotBelow ∈ gw ∧ Cond.initialized RX6 ∈ gw ∧ Cond.code yX6_knotBelow cX6_knotBelow 5 (some .int) ∈ gw := ⟨gw_at 784 (by decide +kernel) rfl, wx_785, wx_786, wx_116, wx_787⟩
theorem wx_789 : Cond.instanceMethod yX6_holdAt ∈ gw := gw_at 789 (by decide +kernel) rfl
theorem wx_790 : Cond.selects RX6 yX6_holdAt yX6_holdAt ∈ gw := gw_at 790 (by decide +kernel) rfl
theorem wx_791 : Cond.code yX6_holdAt cX6_holdAt 5 (some .int) ∈ gw := gw_at 791 (by decide +kernel) rfl
theorem wm_RX6_67 : Cond.methodLink RX6 67 yX6_holdAt ∈ gw ∧ Cond.instanceMethod yX6_holdAt ∈ gw ∧ Cond.selects RX6 yX6_holdAt yX6_holdAt ∈ gw ∧ Cond.initialized RX6 ∈ gw ∧ Cond.code yX6_holdAt cX6_holdAt 5 (some .int) ∈ gw := ⟨gw_at 788 (by decide +kernel) rfl, wx_789, wx_790, wx_116, wx_791⟩
theorem wx_781 : Cond.instanceMethod yX6_outsideHolds ∈ gw := gw_at 781 (by decide +kernel) rfl
theorem wx_782 : Cond.selects RX6 yX6_outsideHolds yX6_outsideHolds ∈ gw := gw_at 782 (by decide +kernel) rfl
theorem wx_783 : Cond.code yX6_outsideHolds cX6_outsideHolds 3 (some .int) ∈ gw := gw_at 783 (by decide +kernel) rfl
theorem wm_RX6_92 : Cond.methodLink RX6 92 yX6_outsideHolds ∈ gw ∧ Cond.instanceMethod yX6_outsideHolds ∈ gw ∧ Cond.selects RX6 yX6_outsideHolds yX6_outsideHolds ∈ gw ∧ Cond.initialized RX6 ∈ gw ∧ Cond.code yX6_outsideHolds cX6_outsideHolds 3 (some .int) ∈ gw := ⟨gw_at 780 (by decide +kernel) rfl, wx_781, wx_782, wx_116, wx_783⟩
theorem wx_804 : Cond.instanceMethod yX6_putOutsideKnotIntoBag ∈ gw := gw_at 804 (by decide +kernel) rfl
theorem wx_12 : Cond.selects RX6 yX6_putOutsideKnotIntoBag yX6_putOutsideKnotIntoBag ∈ gw := gw_at 12 (by decide +kernel) rfl
theorem wx_805 : Cond.code yX6_putOutsideKnotIntoBag cX6_putOutsideKnotIntoBag 5 (none) ∈ gw := gw_at 805 (by decide +kernel) rfl
theorem wm_RX6_102 : Cond.methodLink RX6 102 yX6_putOutsideKnotIntoBag ∈ gw ∧ Cond.instanceMethod yX6_putOutsideKnotIntoBag ∈ gw ∧ Cond.selects RX6 yX6_putOutsideKnotIntoBag yX6_putOutsideKnotIntoBag ∈ gw ∧ Cond.initialized RX6 ∈ gw ∧ Cond.code yX6_putOutsideKnotIntoBag cX6_putOutsideKnotIntoBag 5 (none) ∈ gw := ⟨gw_at 802 (by decide +kernel) rfl, wx_804, wx_12, wx_116, wx_805⟩
theorem wx_807 : Cond.instanceMethod yX6_layerFromOutside ∈ gw := gw_at 807 (by decide +kernel) rfl
theorem wx_808 : Cond.selects RX6 yX6_layerFromOutside yX6_layerFromOutside ∈ gw := gw_at 808 (by decide +kernel) rfl
theorem wx_809 : Cond.code yX6_layerFromOutside cX6_layerFromOutside 3 (some .int) ∈ gw := gw_at 809 (by decide +kernel) rfl
theorem wm_RX6_106 : Cond.methodLink RX6 106 yX6_layerFromOutside ∈ gw ∧ Cond.instanceMethod yX6_layerFromOutside ∈ gw ∧ Cond.selects RX6 yX6_layerFromOutside yX6_layerFromOutside ∈ gw ∧ Cond.initialized RX6 ∈ gw ∧ Cond.code yX6_layerFromOutside cX6_layerFromOutside 3 (some .int) ∈ gw := ⟨gw_at 806 (by decide +kernel) rfl, wx_807, wx_808, wx_116, wx_809⟩
theorem wm_RX6_109 : Cond.methodLink RX6 109 Lib.Math.min.name ∈ gw ∧ Cond.static Lib.Math.min.name ∈ gw ∧ Cond.initialized "java/lang/Math" ∈ gw ∧ Cond.code Lib.Math.min.name Lib.Math.min.code 2 (some .int) ∈ gw := ⟨gw_at 810 (by decide +kernel) rfl, gw_at 590 (by decide +kernel) rfl, gw_at 124 (by decide +kernel) rfl, gw_at 591 (by decide +kernel) rfl⟩
theorem md_X6_holdAt : yX6_holdAt.cls = RX6 ∧ yX6_holdAt.cls ≠ "java/lang/invoke/MethodHandle" ∧ yX6_holdAt.cls ≠ "java/lang/invoke/VarHandle" ∧ (parseMethodDescriptor yX6_holdAt.desc).map (fun d => d.parameters.length) = some 3 := by decide +kernel
theorem md_X6_knotBelow : yX6_knotBelow.cls = RX6 ∧ yX6_knotBelow.cls ≠ "java/lang/invoke/MethodHandle" ∧ yX6_knotBelow.cls ≠ "java/lang/invoke/VarHandle" ∧ (parseMethodDescriptor yX6_knotBelow.desc).map (fun d => d.parameters.length) = some 2 := by decide +kernel
theorem md_X6_layerAt : yX6_layerAt.cls = RX6 ∧ yX6_layerAt.cls ≠ "java/lang/invoke/MethodHandle" ∧ yX6_layerAt.cls ≠ "java/lang/invoke/VarHandle" ∧ (parseMethodDescriptor yX6_layerAt.desc).map (fun d => d.parameters.length) = some 2 := by decide +kernel
theorem md_X6_layerFromOutside : yX6_layerFromOutside.cls = RX6 ∧ yX6_layerFromOutside.cls ≠ "java/lang/invoke/MethodHandle" ∧ yX6_layerFromOutside.cls ≠ "java/lang/invoke/VarHandle" ∧ (parseMethodDescriptor yX6_layerFromOutside.desc).map (fun d => d.parameters.length) = some 2 := by decide +kernel
theorem md_X6_outsideHolds : yX6_outsideHolds.cls = RX6 ∧ yX6_outsideHolds.cls ≠ "java/lang/invoke/MethodHandle" ∧ yX6_outsideHolds.cls ≠ "java/lang/invoke/VarHandle" ∧ (parseMethodDescriptor yX6_outsideHolds.desc).map (fun d => d.parameters.length) = some 2 := by decide +kernel
theorem md_X6_putOutsideKnotIntoBag : yX6_putOutsideKnotIntoBag.cls = RX6 ∧ yX6_putOutsideKnotIntoBag.cls ≠ "java/lang/invoke/MethodHandle" ∧ yX6_putOutsideKnotIntoBag.cls ≠ "java/lang/invoke/VarHandle" ∧ (parseMethodDescriptor yX6_putOutsideKnotIntoBag.desc).map (fun d => d.parameters.length) = some 1 := by decide +kernel
