set_option maxRecDepth 20000 in
theorem kX6_copyFrom {G : Wc} {o oa : Nat} {S : Ob} {Sa : Ob}  {r : Ob} (hk0 : kd o = 6) (hk1 : kd oa = 6) (hf : pX6_copyFrom S Sa   = some r) : Cn yX6_copyFrom cX6_copyFrom 2 (none) 1 80 G [.ref (wA G o 0), .ref (wA G oa 0)] [(o, S), (oa, Sa)] [(o, r), (oa, Sa)] none := by
  refine V_method [(0, .ref (wA G o 0)), (1, .ref (wA G oa 0))] (by decide) rfl (Nat.le_of_ble_eq_true rfl) rfl (fun Γ hF => ?_)
  unfold pX6_copyFrom at hf
  refine v_aload_n (pc := 0) 1 dX6_copyFrom_0 rfl ?_
  refine gf_RX6_9 (pc := 1) 1 rfl hk1 dX6_copyFrom_1 ?_
  refine v_iconst (pc := 4) (0 : Int32) dX6_copyFrom_4 ci_0 ?_
  refine v_aload_n (pc := 5) 0 dX6_copyFrom_5 rfl ?_
  refine gf_RX6_9 (pc := 6) 0 rfl hk0 dX6_copyFrom_6 ?_
  refine v_iconst (pc := 9) (0 : Int32) dX6_copyFrom_9 ci_0 ?_
  refine v_bipush (pc := 10) (48 : Int32) dX6_copyFrom_10 cb_48 ?_
  refine V_copyi (pc := 12) (us1 := [_, _]) (S1 := sA S 0 (va_cpy (oA Sa 0) (oA S 0) 0 0 48)) 48 1 0 1 1 rfl hk1 (Nat.le_of_ble_eq_true rfl) rfl rfl hk0 (Nat.le_of_ble_eq_true rfl) rfl wm_RX6_49 (by decide) (by decide) (by decide) (Nat.le_of_ble_eq_true rfl) (Nat.le_of_ble_eq_true rfl) rfl rfl (Nat.le_of_ble_eq_true rfl) (Nat.le_of_ble_eq_true rfl) (Nat.le_of_ble_eq_true rfl) dX6_copyFrom_12 ?_
  refine v_aload_n (pc := 15) 1 dX6_copyFrom_15 rfl ?_
  refine gf_RX6_15 (pc := 16) 1 rfl hk1 dX6_copyFrom_16 ?_
  refine v_iconst (pc := 19) (0 : Int32) dX6_copyFrom_19 ci_0 ?_
  refine v_aload_n (pc := 20) 0 dX6_copyFrom_20 rfl ?_
  refine gf_RX6_15 (pc := 21) 0 rfl hk0 dX6_copyFrom_21 ?_
  refine v_iconst (pc := 24) (0 : Int32) dX6_copyFrom_24 ci_0 ?_
  refine v_bipush (pc := 25) (6 : Int32) dX6_copyFrom_25 cb_6 ?_
  refine V_copyi (pc := 27) (us1 := [_, _]) (S1 := sA (sA S 0 (va_cpy (oA Sa 0) (oA S 0) 0 0 48)) 1 (va_cpy (oA Sa 1) (oA (sA S 0 (va_cpy (oA Sa 0) (oA S 0) 0 0 48)) 1) 0 0 6)) 6 1 0 2 2 rfl hk1 (Nat.le_of_ble_eq_true rfl) rfl rfl hk0 (Nat.le_of_ble_eq_true rfl) rfl wm_RX6_49 (by decide) (by decide) (by decide) (Nat.le_of_ble_eq_true rfl) (Nat.le_of_ble_eq_true rfl) rfl rfl (Nat.le_of_ble_eq_true rfl) (Nat.le_of_ble_eq_true rfl) (Nat.le_of_ble_eq_true rfl) dX6_copyFrom_27 ?_
  refine v_aload_n (pc := 30) 1 dX6_copyFrom_30 rfl ?_
  refine gf_RX6_18 (pc := 31) 1 rfl hk1 dX6_copyFrom_31 ?_
  refine v_iconst (pc := 34) (0 : Int32) dX6_copyFrom_34 ci_0 ?_
  refine v_aload_n (pc := 35) 0 dX6_copyFrom_35 rfl ?_
  refine gf_RX6_18 (pc := 36) 0 rfl hk0 dX6_copyFrom_36 ?_
  refine v_iconst (pc := 39) (0 : Int32) dX6_copyFrom_39 ci_0 ?_
  refine v_bipush (pc := 40) (6 : Int32) dX6_copyFrom_40 cb_6 ?_
  refine V_copyi (pc := 42) (us1 := [_, _]) (S1 := sA (sA (sA S 0 (va_cpy (oA Sa 0) (oA S 0) 0 0 48)) 1 (va_cpy (oA Sa 1) (oA (sA S 0 (va_cpy (oA Sa 0) (oA S 0) 0 0 48)) 1) 0 0 6)) 2 (va_cpy (oA Sa 2) (oA (sA (sA S 0 (va_cpy (oA Sa 0) (oA S 0) 0 0 48)) 1 (va_cpy (oA Sa 1) (oA (sA S 0 (va_cpy (oA Sa 0) (oA S 0) 0 0 48)) 1) 0 0 6)) 2) 0 0 6)) 6 1 0 3 3 rfl hk1 (Nat.le_of_ble_eq_true rfl) rfl rfl hk0 (Nat.le_of_ble_eq_true rfl) rfl wm_RX6_49 (by decide) (by decide) (by decide) (Nat.le_of_ble_eq_true rfl) (Nat.le_of_ble_eq_true rfl) rfl rfl (Nat.le_of_ble_eq_true rfl) (Nat.le_of_ble_eq_true rfl) (Nat.le_of_ble_eq_true rfl) dX6_copyFrom_42 ?_
  refine v_aload_n (pc := 45) 1 dX6_copyFrom_45 rfl ?_
  refine gf_RX6_21 (pc := 46) 1 rfl hk1 dX6_copyFrom_46 ?_
  refine v_iconst (pc := 49) (0 : Int32) dX6_copyFrom_49 ci_0 ?_
  refine v_aload_n (pc := 50) 0 dX6_copyFrom_50 rfl ?_
  refine gf_RX6_21 (pc := 51) 0 rfl hk0 dX6_copyFrom_51 ?_
  refine v_iconst (pc := 54) (0 : Int32) dX6_copyFrom_54 ci_0 ?_
  refine v_bipush (pc := 55) (8 : Int32) dX6_copyFrom_55 cb_8 ?_
  refine V_copyi (pc := 57) (us1 := [_, _]) (S1 := sA (sA (sA (sA S 0 (va_cpy (oA Sa 0) (oA S 0) 0 0 48)) 1 (va_cpy (oA Sa 1) (oA (sA S 0 (va_cpy (oA Sa 0) (oA S 0) 0 0 48)) 1) 0 0 6)) 2 (va_cpy (oA Sa 2) (oA (sA (sA S 0 (va_cpy (oA Sa 0) (oA S 0) 0 0 48)) 1 (va_cpy (oA Sa 1) (oA (sA S 0 (va_cpy (oA Sa 0) (oA S 0) 0 0 48)) 1) 0 0 6)) 2) 0 0 6)) 3 (va_cpy (oA Sa 3) (oA (sA (sA (sA S 0 (va_cpy (oA Sa 0) (oA S 0) 0 0 48)) 1 (va_cpy (oA Sa 1) (oA (sA S 0 (va_cpy (oA Sa 0) (oA S 0) 0 0 48)) 1) 0 0 6)) 2 (va_cpy (oA Sa 2) (oA (sA (sA S 0 (va_cpy (oA Sa 0) (oA S 0) 0 0 48)) 1 (va_cpy (oA Sa 1) (oA (sA S 0 (va_cpy (oA Sa 0) (oA S 0) 0 0 48)) 1) 0 0 6)) 2) 0 0 6)) 3) 0 0 8)) 8 1 0 4 4 rfl hk1 (Nat.le_of_ble_eq_true rfl) rfl rfl hk0 (Nat.le_of_ble_eq_true rfl) rfl wm_RX6_49 (by decide) (by decide) (by decide) (Nat.le_of_ble_eq_true rfl) (Nat.le_of_ble_eq_true rfl) rfl rfl (Nat.le_of_ble_eq_true rfl) (Nat.le_of_ble_eq_true rfl) (Nat.le_of_ble_eq_true rfl) dX6_copyFrom_57 ?_
  refine v_aload_n (pc := 60) 1 dX6_copyFrom_60 rfl ?_
  refine gf_RX6_24 (pc := 61) 1 rfl hk1 dX6_copyFrom_61 ?_
  refine v_iconst (pc := 64) (0 : Int32) dX6_copyFrom_64 ci_0 ?_
  refine v_aload_n (pc := 65) 0 dX6_copyFrom_65 rfl ?_
  refine gf_RX6_24 (pc := 66) 0 rfl hk0 dX6_copyFrom_66 ?_
  refine v_iconst (pc := 69) (0 : Int32) dX6_copyFrom_69 ci_0 ?_
  refine v_bipush (pc := 70) (8 : Int32) dX6_copyFrom_70 cb_8 ?_
  refine V_copyi (pc := 72) (us1 := [_, _]) (S1 := sA (sA (sA (sA (sA S 0 (va_cpy (oA Sa 0) (oA S 0) 0 0 48)) 1 (va_cpy (oA Sa 1) (oA (sA S 0 (va_cpy (oA Sa 0) (oA S 0) 0 0 48)) 1) 0 0 6)) 2 (va_cpy (oA Sa 2) (oA (sA (sA S 0 (va_cpy (oA Sa 0) (oA S 0) 0 0 48)) 1 (va_cpy (oA Sa 1) (oA (sA S 0 (va_cpy (oA Sa 0) (oA S 0) 0 0 48)) 1) 0 0 6)) 2) 0 0 6)) 3 (va_cpy (oA Sa 3) (oA (sA (sA (sA S 0 (va_cpy (oA Sa 0) (oA S 0) 0 0 48)) 1 (va_cpy (oA Sa 1) (oA (sA S 0 (va_cpy (oA Sa 0) (oA S 0) 0 0 48)) 1) 0 0 6)) 2 (va_cpy (oA Sa 2) (oA (sA (sA S 0 (va_cpy (oA Sa 0) (oA S 0) 0 0 48)) 1 (va_cpy (oA Sa 1) (oA (sA S 0 (va_cpy (oA Sa 0) (oA S 0) 0 0 48)) 1) 0 0 6)) 2) 0 0 6)) 3) 0 0 8)) 4 (va_cpy (oA Sa 4) (oA (sA (sA (sA (sA S 0 (va_cpy (oA Sa 0) (oA S 0) 0 0 48)) 1 (va_cpy (oA Sa 1) (oA (sA S 0 (va_cpy (oA Sa 0) (oA S 0) 0 0 48)) 1) 0 0 6)) 2 (va_cpy (oA Sa 2) (oA (sA (sA S 0 (va_cpy (oA Sa 0) (oA S 0) 0 0 48)) 1 (va_cpy (oA Sa 1) (oA (sA S 0 (va_cpy (oA Sa 0) (oA S 0) 0 0 48)) 1) 0 0 6)) 2) 0 0 6)) 3 (va_cpy (oA Sa 3) (oA (sA (sA (sA S 0 (va_cpy (oA Sa 0) (oA S 0) 0 0 48)) 1 (va_cpy (oA Sa 1) (oA (sA S 0 (va_cpy (oA Sa 0) (oA S 0) 0 0 48)) 1) 0 0 6)) 2 (va_cpy (oA Sa 2) (oA (sA (sA S 0 (va_cpy (oA Sa 0) (oA S 0) 0 0 48)) 1 (va_cpy (oA Sa 1) (oA (sA S 0 (va_cpy (oA Sa 0) (oA S 0) 0 0 48)) 1) 0 0 6)) 2) 0 0 6)) 3) 0 0 8)) 4) 0 0 8)) 8 1 0 5 5 rfl hk1 (Nat.le_of_ble_eq_true rfl) rfl rfl hk0 (Nat.le_of_ble_eq_true rfl) rfl wm_RX6_49 (by decide) (by decide) (by decide) (Nat.le_of_ble_eq_true rfl) (Nat.le_of_ble_eq_true rfl) rfl rfl (Nat.le_of_ble_eq_true rfl) (Nat.le_of_ble_eq_true rfl) (Nat.le_of_ble_eq_true rfl) dX6_copyFrom_72 ?_
  refine v_aload_n (pc := 75) 1 dX6_copyFrom_75 rfl ?_
  refine gf_RX6_27 (pc := 76) 1 rfl hk1 dX6_copyFrom_76 ?_
  refine v_iconst (pc := 79) (0 : Int32) dX6_copyFrom_79 ci_0 ?_
  refine v_aload_n (pc := 80) 0 dX6_copyFrom_80 rfl ?_
  refine gf_RX6_27 (pc := 81) 0 rfl hk0 dX6_copyFrom_81 ?_
  refine v_iconst (pc := 84) (0 : Int32) dX6_copyFrom_84 ci_0 ?_
  refine v_iconst (pc := 85) (4 : Int32) dX6_copyFrom_85 ci_4 ?_
  refine V_copyi (pc := 86) (us1 := [_, _]) (S1 := sA (sA (sA (sA (sA (sA S 0 (va_cpy (oA Sa 0) (oA S 0) 0 0 48)) 1 (va_cpy (oA Sa 1) (oA (sA S 0 (va_cpy (oA Sa 0) (oA S 0) 0 0 48)) 1) 0 0 6)) 2 (va_cpy (oA Sa 2) (oA (sA (sA S 0 (va_cpy (oA Sa 0) (oA S 0) 0 0 48)) 1 (va_cpy (oA Sa 1) (oA (sA S 0 (va_cpy (oA Sa 0) (oA S 0) 0 0 48)) 1) 0 0 6)) 2) 0 0 6)) 3 (va_cpy (oA Sa 3) (oA (sA (sA (sA S 0 (va_cpy (oA Sa 0) (oA S 0) 0 0 48)) 1 (va_cpy (oA Sa 1) (oA (sA S 0 (va_cpy (oA Sa 0) (oA S 0) 0 0 48)) 1) 0 0 6)) 2 (va_cpy (oA Sa 2) (oA (sA (sA S 0 (va_cpy (oA Sa 0) (oA S 0) 0 0 48)) 1 (va_cpy (oA Sa 1) (oA (sA S 0 (va_cpy (oA Sa 0) (oA S 0) 0 0 48)) 1) 0 0 6)) 2) 0 0 6)) 3) 0 0 8)) 4 (va_cpy (oA Sa 4) (oA (sA (sA (sA (sA S 0 (va_cpy (oA Sa 0) (oA S 0) 0 0 48)) 1 (va_cpy (oA Sa 1) (oA (sA S 0 (va_cpy (oA Sa 0) (oA S 0) 0 0 48)) 1) 0 0 6)) 2 (va_cpy (oA Sa 2) (oA (sA (sA S 0 (va_cpy (oA Sa 0) (oA S 0) 0 0 48)) 1 (va_cpy (oA Sa 1) (oA (sA S 0 (va_cpy (oA Sa 0) (oA S 0) 0 0 48)) 1) 0 0 6)) 2) 0 0 6)) 3 (va_cpy (oA Sa 3) (oA (sA (sA (sA S 0 (va_cpy (oA Sa 0) (oA S 0) 0 0 48)) 1 (va_cpy (oA Sa 1) (oA (sA S 0 (va_cpy (oA Sa 0) (oA S 0) 0 0 48)) 1) 0 0 6)) 2 (va_cpy (oA Sa 2) (oA (sA (sA S 0 (va_cpy (oA Sa 0) (oA S 0) 0 0 48)) 1 (va_cpy (oA Sa 1) (oA (sA S 0 (va_cpy (oA Sa 0) (oA S 0) 0 0 48)) 1) 0 0 6)) 2) 0 0 6)) 3) 0 0 8)) 4) 0 0 8)) 5 (va_cpy (oA Sa 5) (oA (sA (sA (sA (sA (sA S 0 (va_cpy (oA Sa 0) (oA S 0) 0 0 48)) 1 (va_cpy (oA Sa 1) (oA (sA S 0 (va_cpy (oA Sa 0) (oA S 0) 0 0 48)) 1) 0 0 6)) 2 (va_cpy (oA Sa 2) (oA (sA (sA S 0 (va_cpy (oA Sa 0) (oA S 0) 0 0 48)) 1 (va_cpy (oA Sa 1) (oA (sA S 0 (va_cpy (oA Sa 0) (oA S 0) 0 0 48)) 1) 0 0 6)) 2) 0 0 6)) 3 (va_cpy (oA Sa 3) (oA (sA (sA (sA S 0 (va_cpy (oA Sa 0) (oA S 0) 0 0 48)) 1 (va_cpy (oA Sa 1) (oA (sA S 0 (va_cpy (oA Sa 0) (oA S 0) 0 0 48)) 1) 0 0 6)) 2 (va_cpy (oA Sa 2) (oA (sA (sA S 0 (va_cpy (oA Sa 0) (oA S 0) 0 0 48)) 1 (va_cpy (oA Sa 1) (oA (sA S 0 (va_cpy (oA Sa 0) (oA S 0) 0 0 48)) 1) 0 0 6)) 2) 0 0 6)) 3) 0 0 8)) 4 (va_cpy (oA Sa 4) (oA (sA (sA (sA (sA S 0 (va_cpy (oA Sa 0) (oA S 0) 0 0 48)) 1 (va_cpy (oA Sa 1) (oA (sA S 0 (va_cpy (oA Sa 0) (oA S 0) 0 0 48)) 1) 0 0 6)) 2 (va_cpy (oA Sa 2) (oA (sA (sA S 0 (va_cpy (oA Sa 0) (oA S 0) 0 0 48)) 1 (va_cpy (oA Sa 1) (oA (sA S 0 (va_cpy (oA Sa 0) (oA S 0) 0 0 48)) 1) 0 0 6)) 2) 0 0 6)) 3 (va_cpy (oA Sa 3) (oA (sA (sA (sA S 0 (va_cpy (oA Sa 0) (oA S 0) 0 0 48)) 1 (va_cpy (oA Sa 1) (oA (sA S 0 (va_cpy (oA Sa 0) (oA S 0) 0 0 48)) 1) 0 0 6)) 2 (va_cpy (oA Sa 2) (oA (sA (sA S 0 (va_cpy (oA Sa 0) (oA S 0) 0 0 48)) 1 (va_cpy (oA Sa 1) (oA (sA S 0 (va_cpy (oA Sa 0) (oA S 0) 0 0 48)) 1) 0 0 6)) 2) 0 0 6)) 3) 0 0 8)) 4) 0 0 8)) 5) 0 0 4)) 4 1 0 6 6 rfl hk1 (Nat.le_of_ble_eq_true rfl) rfl rfl hk0 (Nat.le_of_ble_eq_true rfl) rfl wm_RX6_49 (by decide) (by decide) (by decide) (Nat.le_of_ble_eq_true rfl) (Nat.le_of_ble_eq_true rfl) rfl rfl (Nat.le_of_ble_eq_true rfl) (Nat.le_of_ble_eq_true rfl) (Nat.le_of_ble_eq_true rfl) dX6_copyFrom_86 ?_
  refine v_aload_n (pc := 89) 1 dX6_copyFrom_89 rfl ?_
  refine gf_RX6_30 (pc := 90) 1 rfl hk1 dX6_copyFrom_90 ?_
  refine v_iconst (pc := 93) (0 : Int32) dX6_copyFrom_93 ci_0 ?_
  refine v_aload_n (pc := 94) 0 dX6_copyFrom_94 rfl ?_
  refine gf_RX6_30 (pc := 95) 0 rfl hk0 dX6_copyFrom_95 ?_
  refine v_iconst (pc := 98) (0 : Int32) dX6_copyFrom_98 ci_0 ?_
  refine v_iconst (pc := 99) (4 : Int32) dX6_copyFrom_99 ci_4 ?_
  refine V_copyi (pc := 100) (us1 := [_, _]) (S1 := sA (sA (sA (sA (sA (sA (sA S 0 (va_cpy (oA Sa 0) (oA S 0) 0 0 48)) 1 (va_cpy (oA Sa 1) (oA (sA S 0 (va_cpy (oA Sa 0) (oA S 0) 0 0 48)) 1) 0 0 6)) 2 (va_cpy (oA Sa 2) (oA (sA (sA S 0 (va_cpy (oA Sa 0) (oA S 0) 0 0 48)) 1 (va_cpy (oA Sa 1) (oA (sA S 0 (va_cpy (oA Sa 0) (oA S 0) 0 0 48)) 1) 0 0 6)) 2) 0 0 6)) 3 (va_cpy (oA Sa 3) (oA (sA (sA (sA S 0 (va_cpy (oA Sa 0) (oA S 0) 0 0 48)) 1 (va_cpy (oA Sa 1) (oA (sA S 0 (va_cpy (oA Sa 0) (oA S 0) 0 0 48)) 1) 0 0 6)) 2 (va_cpy (oA Sa 2) (oA (sA (sA S 0 (va_cpy (oA Sa 0) (oA S 0) 0 0 48)) 1 (va_cpy (oA Sa 1) (oA (sA S 0 (va_cpy (oA Sa 0) (oA S 0) 0 0 48)) 1) 0 0 6)) 2) 0 0 6)) 3) 0 0 8)) 4 (va_cpy (oA Sa 4) (oA (sA (sA (sA (sA S 0 (va_cpy (oA Sa 0) (oA S 0) 0 0 48)) 1 (va_cpy (oA Sa 1) (oA (sA S 0 (va_cpy (oA Sa 0) (oA S 0) 0 0 48)) 1) 0 0 6)) 2 (va_cpy (oA Sa 2) (oA (sA (sA S 0 (va_cpy (oA Sa 0) (oA S 0) 0 0 48)) 1 (va_cpy (oA Sa 1) (oA (sA S 0 (va_cpy (oA Sa 0) (oA S 0) 0 0 48)) 1) 0 0 6)) 2) 0 0 6)) 3 (va_cpy (oA Sa 3) (oA (sA (sA (sA S 0 (va_cpy (oA Sa 0) (oA S 0) 0 0 48)) 1 (va_cpy (oA Sa 1) (oA (sA S 0 (va_cpy (oA Sa 0) (oA S 0) 0 0 48)) 1) 0 0 6)) 2 (va_cpy (oA Sa 2) (oA (sA (sA S 0 (va_cpy (oA Sa 0) (oA S 0) 0 0 48)) 1 (va_cpy (oA Sa 1) (oA (sA S 0 (va_cpy (oA Sa 0) (oA S 0) 0 0 48)) 1) 0 0 6)) 2) 0 0 6)) 3) 0 0 8)) 4) 0 0 8)) 5 (va_cpy (oA Sa 5) (oA (sA (sA (sA (sA (sA S 0 (va_cpy (oA Sa 0) (oA S 0) 0 0 48)) 1 (va_cpy (oA Sa 1) (oA (sA S 0 (va_cpy (oA Sa 0) (oA S 0) 0 0 48)) 1) 0 0 6)) 2 (va_cpy (oA Sa 2) (oA (sA (sA S 0 (va_cpy (oA Sa 0) (oA S 0) 0 0 48)) 1 (va_cpy (oA Sa 1) (oA (sA S 0 (va_cpy (oA Sa 0) (oA S 0) 0 0 48)) 1) 0 0 6)) 2) 0 0 6)) 3 (va_cpy (oA Sa 3) (oA (sA (sA (sA S 0 (va_cpy (oA Sa 0) (oA S 0) 0 0 48)) 1 (va_cpy (oA Sa 1) (oA (sA S 0 (va_cpy (oA Sa 0) (oA S 0) 0 0 48)) 1) 0 0 6)) 2 (va_cpy (oA Sa 2) (oA (sA (sA S 0 (va_cpy (oA Sa 0) (oA S 0) 0 0 48)) 1 (va_cpy (oA Sa 1) (oA (sA S 0 (va_cpy (oA Sa 0) (oA S 0) 0 0 48)) 1) 0 0 6)) 2) 0 0 6)) 3) 0 0 8)) 4 (va_cpy (oA Sa 4) (oA (sA (sA (sA (sA S 0 (va_cpy (oA Sa 0) (oA S 0) 0 0 48)) 1 (va_cpy (oA Sa 1) (oA (sA S 0 (va_cpy (oA Sa 0) (oA S 0) 0 0 48)) 1) 0 0 6)) 2 (va_cpy (oA Sa 2) (oA (sA (sA S 0 (va_cpy (oA Sa 0) (oA S 0) 0 0 48)) 1 (va_cpy (oA Sa 1) (oA (sA S 0 (va_cpy (oA Sa 0) (oA S 0) 0 0 48)) 1) 0 0 6)) 2) 0 0 6)) 3 (va_cpy (oA Sa 3) (oA (sA (sA (sA S 0 (va_cpy (oA Sa 0) (oA S 0) 0 0 48)) 1 (va_cpy (oA Sa 1) (oA (sA S 0 (va_cpy (oA Sa 0) (oA S 0) 0 0 48)) 1) 0 0 6)) 2 (va_cpy (oA Sa 2) (oA (sA (sA S 0 (va_cpy (oA Sa 0) (oA S 0) 0 0 48)) 1 (va_cpy (oA Sa 1) (oA (sA S 0 (va_cpy (oA Sa 0) (oA S 0) 0 0 48)) 1) 0 0 6)) 2) 0 0 6)) 3) 0 0 8)) 4) 0 0 8)) 5) 0 0 4)) 6 (va_cpy (oA Sa 6) (oA (sA (sA (sA (sA (sA (sA S 0 (va_cpy (oA Sa 0) (oA S 0) 0 0 48)) 1 (va_cpy (oA Sa 1) (oA (sA S 0 (va_cpy (oA Sa 0) (oA S 0) 0 0 48)) 1) 0 0 6)) 2 (va_cpy (oA Sa 2) (oA (sA (sA S 0 (va_cpy (oA Sa 0) (oA S 0) 0 0 48)) 1 (va_cpy (oA Sa 1) (oA (sA S 0 (va_cpy (oA Sa 0) (oA S 0) 0 0 48)) 1) 0 0 6)) 2) 0 0 6)) 3 (va_cpy (oA Sa 3) (oA (sA (sA (sA S 0 (va_cpy (oA Sa 0) (oA S 0) 0 0 48)) 1 (va_cpy (oA Sa 1) (oA (sA S 0 (va_cpy (oA Sa 0) (oA S 0) 0 0 48)) 1) 0 0 6)) 2 (va_cpy (oA Sa 2) (oA (sA (sA S 0 (va_cpy (oA Sa 0) (oA S 0) 0 0 48)) 1 (va_cpy (oA Sa 1) (oA (sA S 0 (va_cpy (oA Sa 0) (oA S 0) 0 0 48)) 1) 0 0 6)) 2) 0 0 6)) 3) 0 0 8)) 4 (va_cpy (oA Sa 4) (oA (sA (sA (sA (sA S 0 (va_cpy (oA Sa 0) (oA S 0) 0 0 48)) 1 (va_cpy (oA Sa 1) (oA (sA S 0 (va_cpy (oA Sa 0) (oA S 0) 0 0 48)) 1) 0 0 6)) 2 (va_cpy (oA Sa 2) (oA (sA (sA S 0 (va_cpy (oA Sa 0) (oA S 0) 0 0 48)) 1 (va_cpy (oA Sa 1) (oA (sA S 0 (va_cpy (oA Sa 0) (oA S 0) 0 0 48)) 1) 0 0 6)) 2) 0 0 6)) 3 (va_cpy (oA Sa 3) (oA (sA (sA (sA S 0 (va_cpy (oA Sa 0) (oA S 0) 0 0 48)) 1 (va_cpy (oA Sa 1) (oA (sA S 0 (va_cpy (oA Sa 0) (oA S 0) 0 0 48)) 1) 0 0 6)) 2 (va_cpy (oA Sa 2) (oA (sA (sA S 0 (va_cpy (oA Sa 0) (oA S 0) 0 0 48)) 1 (va_cpy (oA Sa 1) (oA (sA S 0 (va_cpy (oA Sa 0) (oA S 0) 0 0 48)) 1) 0 0 6)) 2) 0 0 6)) 3) 0 0 8)) 4) 0 0 8)) 5 (va_cpy (oA Sa 5) (oA (sA (sA (sA (sA (sA S 0 (va_cpy (oA Sa 0) (oA S 0) 0 0 48)) 1 (va_cpy (oA Sa 1) (oA (sA S 0 (va_cpy (oA Sa 0) (oA S 0) 0 0 48)) 1) 0 0 6)) 2 (va_cpy (oA Sa 2) (oA (sA (sA S 0 (va_cpy (oA Sa 0) (oA S 0) 0 0 48)) 1 (va_cpy (oA Sa 1) (oA (sA S 0 (va_cpy (oA Sa 0) (oA S 0) 0 0 48)) 1) 0 0 6)) 2) 0 0 6)) 3 (va_cpy (oA Sa 3) (oA (sA (sA (sA S 0 (va_cpy (oA Sa 0) (oA S 0) 0 0 48)) 1 (va_cpy (oA Sa 1) (oA (sA S 0 (va_cpy (oA Sa 0) (oA S 0) 0 0 48)) 1) 0 0 6)) 2 (va_cpy (oA Sa 2) (oA (sA (sA S 0 (va_cpy (oA Sa 0) (oA S 0) 0 0 48)) 1 (va_cpy (oA Sa 1) (oA (sA S 0 (va_cpy (oA Sa 0) (oA S 0) 0 0 48)) 1) 0 0 6)) 2) 0 0 6)) 3) 0 0 8)) 4 (va_cpy (oA Sa 4) (oA (sA (sA (sA (sA S 0 (va_cpy (oA Sa 0) (oA S 0) 0 0 48)) 1 (va_cpy (oA Sa 1) (oA (sA S 0 (va_cpy (oA Sa 0) (oA S 0) 0 0 48)) 1) 0 0 6)) 2 (va_cpy (oA Sa 2) (oA (sA (sA S 0 (va_cpy (oA Sa 0) (oA S 0) 0 0 48)) 1 (va_cpy (oA Sa 1) (oA (sA S 0 (va_cpy (oA Sa 0) (oA S 0) 0 0 48)) 1) 0 0 6)) 2) 0 0 6)) 3 (va_cpy (oA Sa 3) (oA (sA (sA (sA S 0 (va_cpy (oA Sa 0) (oA S 0) 0 0 48)) 1 (va_cpy (oA Sa 1) (oA (sA S 0 (va_cpy (oA Sa 0) (oA S 0) 0 0 48)) 1) 0 0 6)) 2 (va_cpy (oA Sa 2) (oA (sA (sA S 0 (va_cpy (oA Sa 0) (oA S 0) 0 0 48)) 1 (va_cpy (oA Sa 1) (oA (sA S 0 (va_cpy (oA Sa 0) (oA S 0) 0 0 48)) 1) 0 0 6)) 2) 0 0 6)) 3) 0 0 8)) 4) 0 0 8)) 5) 0 0 4)) 6) 0 0 4)) 4 1 0 7 7 rfl hk1 (Nat.le_of_ble_eq_true rfl) rfl rfl hk0 (Nat.le_of_ble_eq_true rfl) rfl wm_RX6_49 (by decide) (by decide) (by decide) (Nat.le_of_ble_eq_true rfl) (Nat.le_of_ble_eq_true rfl) rfl rfl (Nat.le_of_ble_eq_true rfl) (Nat.le_of_ble_eq_true rfl) (Nat.le_of_ble_eq_true rfl) dX6_copyFrom_100 ?_
  refine v_aload_n (pc := 103) 0 dX6_copyFrom_103 rfl ?_
  refine v_aload_n (pc := 104) 1 dX6_copyFrom_104 rfl ?_
  refine gf_RX6_33 (pc := 105) 1 rfl hk1 dX6_copyFrom_105 ?_
  refine pf_RX6_33 (pc := 108) [_, _] 0 rfl hk0 rfl dX6_copyFrom_108 ?_
  refine v_aload_n (pc := 111) 0 dX6_copyFrom_111 rfl ?_
  refine v_aload_n (pc := 112) 1 dX6_copyFrom_112 rfl ?_
  refine gf_RX6_37 (pc := 113) 1 rfl hk1 dX6_copyFrom_113 ?_
  refine pf_RX6_37 (pc := 116) [_, _] 0 rfl hk0 rfl dX6_copyFrom_116 ?_
  refine v_aload_n (pc := 119) 0 dX6_copyFrom_119 rfl ?_
  refine v_aload_n (pc := 120) 1 dX6_copyFrom_120 rfl ?_
  refine gf_RX6_40 (pc := 121) 1 rfl hk1 dX6_copyFrom_121 ?_
  refine pf_RX6_40 (pc := 124) [_, _] 0 rfl hk0 rfl dX6_copyFrom_124 ?_
  refine v_aload_n (pc := 127) 0 dX6_copyFrom_127 rfl ?_
  refine v_aload_n (pc := 128) 1 dX6_copyFrom_128 rfl ?_
  refine gf_RX6_43 (pc := 129) 1 rfl hk1 dX6_copyFrom_129 ?_
  refine pf_RX6_43 (pc := 132) [_, _] 0 rfl hk0 rfl dX6_copyFrom_132 ?_
  refine v_aload_n (pc := 135) 0 dX6_copyFrom_135 rfl ?_
  refine v_aload_n (pc := 136) 1 dX6_copyFrom_136 rfl ?_
  refine gf_RX6_46 (pc := 137) 1 rfl hk1 dX6_copyFrom_137 ?_
  refine pf_RX6_46 (pc := 140) [_, _] 0 rfl hk0 rfl dX6_copyFrom_140 ?_
  have hf2 := Option.some.inj hf; subst hf2
  exact V_vret (pc := 143) hF dX6_copyFrom_143
set_option maxRecDepth 20000 in
theorem wX5_copyFrom_l2 {G : Wc} {Γ : Cx} {o oa : Nat} {Sa : Ob} (hk0 : kd o = 5) (hk1 : kd oa = 5) : ∀ (n : Nat) {l2 : Int32} {S : Ob} {r : Ob}, pX5_copyFrom_l2  Sa n l2 S = some r → V cX5_copyFrom RX5 1 80 3 G Γ [(o, r), (oa, Sa)] 26 [(0, .ref (wA G o 0)), (1, .ref (wA G oa 0))] [] → V cX5_copyFrom RX5 1 80 3 G Γ [(o, S), (oa, Sa)] 2 [(0, .ref (wA G o 0)), (1, .ref (wA G oa 0)), (2, .int l2)] [] := by
  intro n
  induction n with
  | zero => intro l2 S r hf hx; unfold pX5_copyFrom_l2 at hf; cases hf
  | succ n ih =>
    intro l2 S r hf hx
    have hrec : ∀ {l2 : Int32} {S : Ob}, pX5_copyFrom_l2  Sa n l2 S = some r → V cX5_copyFrom RX5 1 80 3 G Γ [(o, S), (oa, Sa)] 2 [(0, .ref (wA G o 0)), (1, .ref (wA G oa 0)), (2, .int l2)] [] := fun h => ih h hx
    clear ih
    unfold pX5_copyFrom_l2 at hf
    refine v_iload_n (pc := 2) 2 dX5_copyFrom_2 rfl ?_
    refine v_bipush (pc := 3) (40 : Int32) dX5_copyFrom_3 cb_40 ?_
    refine v_icmp_ge (pc := 5) 26 dX5_copyFrom_5 (by decide) (fun c1 => ?_) (fun c1 => ?_)
    · replace hf := it_t c1 hf
      have hf2 := Option.some.inj hf; subst hf2
      exact V_sub [0, 1] rfl hx
    · replace hf := it_f c1 hf
      refine v_aload_n (pc := 8) 0 dX5_copyFrom_8 rfl ?_
      refine gf_RX5_13 (pc := 9) 0 rfl hk0 dX5_copyFrom_9 ?_
      refine v_iload_n (pc := 12) 2 dX5_copyFrom_12 rfl ?_
      refine v_aload_n (pc := 13) 1 dX5_copyFrom_13 rfl ?_
      refine gf_RX5_13 (pc := 14) 1 rfl hk1 dX5_copyFrom_14 ?_
      refine v_iload_n (pc := 17) 2 dX5_copyFrom_17 rfl ?_
      replace hf := gd_some hf; obtain ⟨g2, hf⟩ := hf
      refine al_X5_0 (pc := 18) _ 1 rfl hk1 rfl g2 dX5_copyFrom_18 ?_
      replace hf := gd_some hf; obtain ⟨g3, hf⟩ := hf
      replace hf := gd_some hf; obtain ⟨g4, hf⟩ := hf
      refine as_X5_0 (pc := 19) [_, _] _ 0 rfl hk0 rfl g4 g3 rfl dX5_copyFrom_19 ?_
      refine v_iinc (pc := 20) 2 (l2 + (1 : Int32)) [(2, _), (0, _), (1, _)] dX5_copyFrom_20 rfl (congrArg (fun z => _ + z) ci_1) (Nat.le_of_ble_eq_true rfl) rfl ?_
      refine v_goto (pc := 23) 2 dX5_copyFrom_23 (by decide) ?_
      exact V_sub [1, 2, 0] rfl (hrec hf)
set_option maxRecDepth 20000 in
theorem kX5_copyFrom {G : Wc} {o oa : Nat} {S : Ob} {Sa : Ob}  {r : Ob} (hk0 : kd o = 5) (hk1 : kd oa = 5) (hf : pX5_copyFrom S Sa   = some r) : Cn yX5_copyFrom cX5_copyFrom 3 (none) 1 80 G [.ref (wA G o 0), .ref (wA G oa 0)] [(o, S), (oa, Sa)] [(o, r), (oa, Sa)] none := by
  refine V_method [(0, .ref (wA G o 0)), (1, .ref (wA G oa 0))] (by decide) rfl (Nat.le_of_ble_eq_true rfl) rfl (fun Γ hF => ?_)
  unfold pX5_copyFrom at hf
  refine v_iconst (pc := 0) (0 : Int32) dX5_copyFrom_0 ci_0 ?_
  refine v_istore_n (pc := 1) [(2, _), (0, _), (1, _)] dX5_copyFrom_1 (Nat.le_of_ble_eq_true rfl) rfl ?_
  replace hf := bd_some hf; obtain ⟨r5, h6, hf⟩ := hf
  refine V_sub [1, 2, 0] rfl (wX5_copyFrom_l2 hk0 hk1 fu h6 ?_)
  refine v_aload_n (pc := 26) 1 dX5_copyFrom_26 rfl ?_
  refine gf_RX5_17 (pc := 27) 1 rfl hk1 dX5_copyFrom_27 ?_
  refine v_iconst (pc := 30) (0 : Int32) dX5_copyFrom_30 ci_0 ?_
  refine v_aload_n (pc := 31) 0 dX5_copyFrom_31 rfl ?_
  refine gf_RX5_17 (pc := 32) 0 rfl hk0 dX5_copyFrom_32 ?_
  refine v_iconst (pc := 35) (0 : Int32) dX5_copyFrom_35 ci_0 ?_
  refine v_bipush (pc := 36) (40 : Int32) dX5_copyFrom_36 cb_40 ?_
  refine V_copyi (pc := 38) (us1 := [_, _]) (S1 := sA r5 1 (va_cpy (oA Sa 1) (oA r5 1) 0 0 40)) 40 1 0 2 2 rfl hk1 (Nat.le_of_ble_eq_true rfl) rfl rfl hk0 (Nat.le_of_ble_eq_true rfl) rfl wm_RX5_31 (by decide) (by decide) (by decide) (Nat.le_of_ble_eq_true rfl) (Nat.le_of_ble_eq_true rfl) rfl rfl (Nat.le_of_ble_eq_true rfl) (Nat.le_of_ble_eq_true rfl) (Nat.le_of_ble_eq_true rfl) dX5_copyFrom_38 ?_
  refine v_aload_n (pc := 41) 1 dX5_copyFrom_41 rfl ?_
  refine gf_RX5_21 (pc := 42) 1 rfl hk1 dX5_copyFrom_42 ?_
  refine v_iconst (pc := 45) (0 : Int32) dX5_copyFrom_45 ci_0 ?_
  refine v_aload_n (pc := 46) 0 dX5_copyFrom_46 rfl ?_
  refine gf_RX5_21 (pc := 47) 0 rfl hk0 dX5_copyFrom_47 ?_
  refine v_iconst (pc := 50) (0 : Int32) dX5_copyFrom_50 ci_0 ?_
  refine v_bipush (pc := 51) (40 : Int32) dX5_copyFrom_51 cb_40 ?_
  refine V_copyi (pc := 53) (us1 := [_, _]) (S1 := sA (sA r5 1 (va_cpy (oA Sa 1) (oA r5 1) 0 0 40)) 2 (va_cpy (oA Sa 2) (oA (sA r5 1 (va_cpy (oA Sa 1) (oA r5 1) 0 0 40)) 2) 0 0 40)) 40 1 0 3 3 rfl hk1 (Nat.le_of_ble_eq_true rfl) rfl rfl hk0 (Nat.le_of_ble_eq_true rfl) rfl wm_RX5_31 (by decide) (by decide) (by decide) (Nat.le_of_ble_eq_true rfl) (Nat.le_of_ble_eq_true rfl) rfl rfl (Nat.le_of_ble_eq_true rfl) (Nat.le_of_ble_eq_true rfl) (Nat.le_of_ble_eq_true rfl) dX5_copyFrom_53 ?_
  refine v_aload_n (pc := 56) 0 dX5_copyFrom_56 rfl ?_
  refine v_aload_n (pc := 57) 1 dX5_copyFrom_57 rfl ?_
  refine gf_RX5_24 (pc := 58) 1 rfl hk1 dX5_copyFrom_58 ?_
  refine pf_RX5_24 (pc := 61) [_, _] 0 rfl hk0 rfl dX5_copyFrom_61 ?_
  refine v_aload_n (pc := 64) 0 dX5_copyFrom_64 rfl ?_
  refine v_aload_n (pc := 65) 1 dX5_copyFrom_65 rfl ?_
  refine gf_RX5_28 (pc := 66) 1 rfl hk1 dX5_copyFrom_66 ?_
  refine pf_RX5_28 (pc := 69) [_, _] 0 rfl hk0 rfl dX5_copyFrom_69 ?_
  have hf2 := Option.some.inj hf; subst hf2
  exact V_vret (pc := 72) hF dX5_copyFrom_72
set_option maxRecDepth 20000 in
theorem kX1_keep {G : Wc} {o oa ob oc : Nat} {S : Ob} {Sa : Ob} {Sb : Ob} {Sc : Ob} {I0 : Ob} {I1 : Ob} {I2 : Ob}  {r : Ob × Ob × Ob × Ob} (hk0 : kd o = 1) (hk1 : kd oa = 4) (hk2 : kd ob = 6) (hk3 : kd oc = 5) (hk4 : kd (tgI o + 0) = 4) (hk5 : kd (tgI o + 1) = 6) (hk6 : kd (tgI o + 2) = 5) (hf : pX1_keep S Sa Sb Sc I0 I1 I2   = some r) : Cn yX1_keep cX1_keep 4 (none) 2 102 G [.ref (wA G o 0), .ref (wA G oa 0), .ref (wA G ob 0), .ref (wA G oc 0)] [(o, S), (oa, Sa), (ob, Sb), (oc, Sc), ((tgI o + 0), I0), ((tgI o + 1), I1), ((tgI o + 2), I2)] [(o, r.1), (oa, Sa), (ob, Sb), (oc, Sc), ((tgI o + 0), r.2.1), ((tgI o + 1), r.2.2.1), ((tgI o + 2), r.2.2.2)] none := by
  refine V_method [(0, .ref (wA G o 0)), (1, .ref (wA G oa 0)), (2, .ref (wA G ob 0)), (3, .ref (wA G oc 0))] (by decide) rfl (Nat.le_of_ble_eq_true rfl) rfl (fun Γ hF => ?_)
  unfold pX1_keep at hf
  refine v_aload_n (pc := 0) 0 dX1_keep_0 rfl ?_
  refine gf_RX1_10 (pc := 1) 0 rfl hk0 dX1_keep_1 ?_
  refine v_aload_n (pc := 4) 1 dX1_keep_4 rfl ?_
  replace hf := bd_some hf; obtain ⟨r1, h2, hf⟩ := hf
  refine V_call (pc := 5) (us1 := [_, _, _, _, _, _, _]) [4, 1] 4 (kX4_copyFrom (o := (tgI o + 0)) (oa := oa) hk4 hk1 h2) rfl rfl rfl rfl rfl hk4 (Nat.le_of_ble_eq_true rfl) rfl rfl rfl wm_RX1_30 md_X4_copyFrom (Nat.le_of_ble_eq_true rfl) (Nat.le_of_ble_eq_true rfl) rfl rfl (Nat.le_of_ble_eq_true rfl) dX1_keep_5 ?_
  refine v_aload_n (pc := 8) 0 dX1_keep_8 rfl ?_
  refine gf_RX1_19 (pc := 9) 0 rfl hk0 dX1_keep_9 ?_
  refine v_aload_n (pc := 12) 2 dX1_keep_12 rfl ?_
  replace hf := bd_some hf; obtain ⟨r3, h4, hf⟩ := hf
  refine V_call (pc := 13) (us1 := [_, _, _, _, _, _, _]) [5, 2] 5 (kX6_copyFrom (o := (tgI o + 1)) (oa := ob) hk5 hk2 h4) rfl rfl rfl rfl rfl hk5 (Nat.le_of_ble_eq_true rfl) rfl rfl rfl wm_RX1_34 md_X6_copyFrom (Nat.le_of_ble_eq_true rfl) (Nat.le_of_ble_eq_true rfl) rfl rfl (Nat.le_of_ble_eq_true rfl) dX1_keep_13 ?_
  refine v_aload_n (pc := 16) 0 dX1_keep_16 rfl ?_
  refine gf_RX1_26 (pc := 17) 0 rfl hk0 dX1_keep_17 ?_
  refine v_aload_n (pc := 20) 3 dX1_keep_20 rfl ?_
  replace hf := bd_some hf; obtain ⟨r5, h6, hf⟩ := hf
  refine V_call (pc := 21) (us1 := [_, _, _, _, _, _, _]) [6, 3] 6 (kX5_copyFrom (o := (tgI o + 2)) (oa := oc) hk6 hk3 h6) rfl rfl rfl rfl rfl hk6 (Nat.le_of_ble_eq_true rfl) rfl rfl rfl wm_RX1_37 md_X5_copyFrom (Nat.le_of_ble_eq_true rfl) (Nat.le_of_ble_eq_true rfl) rfl rfl (Nat.le_of_ble_eq_true rfl) dX1_keep_21 ?_
  refine v_aload_n (pc := 24) 0 dX1_keep_24 rfl ?_
  refine v_iconst (pc := 25) (1 : Int32) dX1_keep_25 ci_1 ?_
  refine pf_RX1_40 (pc := 26) [_, _, _, _, _, _, _] 0 rfl hk0 rfl rfl dX1_keep_26 ?_
  have hf2 := Option.some.inj hf; subst hf2
  exact V_vret (pc := 29) hF dX1_keep_29
set_option maxRecDepth 20000 in
theorem kX1_bringBack {G : Wc} {o oa ob oc : Nat} {S : Ob} {Sa : Ob} {Sb : Ob} {Sc : Ob} {I0 : Ob} {I1 : Ob} {I2 : Ob}  {r : Ob × Ob × Ob} (hk0 : kd o = 1) (hk1 : kd oa = 4) (hk2 : kd ob = 6) (hk3 : kd oc = 5) (hk4 : kd (tgI o + 0) = 4) (hk5 : kd (tgI o + 1) = 6) (hk6 : kd (tgI o + 2) = 5) (hf : pX1_bringBack S Sa Sb Sc I0 I1 I2   = some r) : Cn yX1_bringBack cX1_bringBack 4 (none) 2 102 G [.ref (wA G o 0), .ref (wA G oa 0), .ref (wA G ob 0), .ref (wA G oc 0)] [(o, S), (oa, Sa), (ob, Sb), (oc, Sc), ((tgI o + 0), I0), ((tgI o + 1), I1), ((tgI o + 2), I2)] [(o, S), (oa, r.1), (ob, r.2.1), (oc, r.2.2), ((tgI o + 0), I0), ((tgI o + 1), I1), ((tgI o + 2), I2)] none := by
  refine V_method [(0, .ref (wA G o 0)), (1, .ref (wA G oa 0)), (2, .ref (wA G ob 0)), (3, .ref (wA G oc 0))] (by decide) rfl (Nat.le_of_ble_eq_true rfl) rfl (fun Γ hF => ?_)
  unfold pX1_bringBack at hf
  refine v_aload_n (pc := 0) 1 dX1_bringBack_0 rfl ?_
  refine v_aload_n (pc := 1) 0 dX1_bringBack_1 rfl ?_
  refine gf_RX1_10 (pc := 2) 0 rfl hk0 dX1_bringBack_2 ?_
  replace hf := bd_some hf; obtain ⟨r1, h2, hf⟩ := hf
  refine V_call (pc := 5) (us1 := [_, _, _, _, _, _, _]) [1, 4] 1 (kX4_copyFrom (o := oa) (oa := (tgI o + 0)) hk1 hk4 h2) rfl rfl rfl rfl rfl hk1 (Nat.le_of_ble_eq_true rfl) rfl rfl rfl wm_RX1_30 md_X4_copyFrom (Nat.le_of_ble_eq_true rfl) (Nat.le_of_ble_eq_true rfl) rfl rfl (Nat.le_of_ble_eq_true rfl) dX1_bringBack_5 ?_
  refine v_aload_n (pc := 8) 2 dX1_bringBack_8 rfl ?_
  refine v_aload_n (pc := 9) 0 dX1_bringBack_9 rfl ?_
  refine gf_RX1_19 (pc := 10) 0 rfl hk0 dX1_bringBack_10 ?_
  replace hf := bd_some hf; obtain ⟨r3, h4, hf⟩ := hf
  refine V_call (pc := 13) (us1 := [_, _, _, _, _, _, _]) [2, 5] 2 (kX6_copyFrom (o := ob) (oa := (tgI o + 1)) hk2 hk5 h4) rfl rfl rfl rfl rfl hk2 (Nat.le_of_ble_eq_true rfl) rfl rfl rfl wm_RX1_34 md_X6_copyFrom (Nat.le_of_ble_eq_true rfl) (Nat.le_of_ble_eq_true rfl) rfl rfl (Nat.le_of_ble_eq_true rfl) dX1_bringBack_13 ?_
  refine v_aload_n (pc := 16) 3 dX1_bringBack_16 rfl ?_
  refine v_aload_n (pc := 17) 0 dX1_bringBack_17 rfl ?_
  refine gf_RX1_26 (pc := 18) 0 rfl hk0 dX1_bringBack_18 ?_
  replace hf := bd_some hf; obtain ⟨r5, h6, hf⟩ := hf
  refine V_call (pc := 21) (us1 := [_, _, _, _, _, _, _]) [3, 6] 3 (kX5_copyFrom (o := oc) (oa := (tgI o + 2)) hk3 hk6 h6) rfl rfl rfl rfl rfl hk3 (Nat.le_of_ble_eq_true rfl) rfl rfl rfl wm_RX1_37 md_X5_copyFrom (Nat.le_of_ble_eq_true rfl) (Nat.le_of_ble_eq_true rfl) rfl rfl (Nat.le_of_ble_eq_true rfl) dX1_bringBack_21 ?_
  have hf2 := Option.some.inj hf; subst hf2
  exact V_vret (pc := 24) hF dX1_bringBack_24
set_option maxRecDepth 20000 in
theorem kX2_keep {G : Wc} {oa : Nat} {S : Ob} {Sa : Ob} {K : (Nat → Ob)}  {r : Ob × (Nat → Ob)} (hk1 : kd oa = 6) (hf : pX2_keep S Sa K   = some r) : Cn yX2_keep cX2_keep 2 (none) 2 101 G [.ref (wA G 5 0), .ref (wA G oa 0)] [(5, S), (oa, Sa), (14, K 0), (15, K 1), (16, K 2), (17, K 3), (18, K 4), (19, K 5), (20, K 6), (21, K 7)] [(5, r.1), (oa, Sa), (14, r.2 0), (15, r.2 1), (16, r.2 2), (17, r.2 3), (18, r.2 4), (19, r.2 5), (20, r.2 6), (21, r.2 7)] none := by
  refine V_method [(0, .ref (wA G 5 0)), (1, .ref (wA G oa 0))] (by decide) rfl (Nat.le_of_ble_eq_true rfl) rfl (fun Γ hF => ?_)
  unfold pX2_keep at hf
  refine v_aload_n (pc := 0) 0 dX2_keep_0 rfl ?_
  refine gf_RX2_13 (pc := 1) 0 rfl rfl dX2_keep_1 ?_
  refine v_aload_n (pc := 4) 0 dX2_keep_4 rfl ?_
  refine gf_RX2_18 (pc := 5) 0 rfl rfl dX2_keep_5 ?_
  replace hf := gd_some hf; obtain ⟨g1, hf⟩ := hf
  refine V_sald (pc := 8) 0 1 rfl rfl (Nat.le_of_ble_eq_true rfl) rfl g1 dX2_keep_8 ?_
  refine v_ifnonnullU (pc := 9) 13 dX2_keep_9 (by decide) ?_
  refine v_aload_n (pc := 13) 0 dX2_keep_13 rfl ?_
  refine gf_RX2_13 (pc := 14) 0 rfl rfl dX2_keep_14 ?_
  refine v_aload_n (pc := 17) 0 dX2_keep_17 rfl ?_
  refine gf_RX2_18 (pc := 18) 0 rfl rfl dX2_keep_18 ?_
  replace hf := gd_some hf; obtain ⟨g2, hf⟩ := hf
  refine V_sald (pc := 21) 0 1 rfl rfl (Nat.le_of_ble_eq_true rfl) rfl g2 dX2_keep_21 ?_
  refine v_aload_n (pc := 22) 1 dX2_keep_22 rfl ?_
  obtain ⟨j3, e4, e4e⟩ : ∃ j : Nat, j < 8 ∧ (oI S 1).toNatClampNeg = j := ⟨_, inB_lt g2, rfl⟩
  rcases (show j3 = 0 ∨ j3 = 1 ∨ j3 = 2 ∨ j3 = 3 ∨ j3 = 4 ∨ j3 = 5 ∨ j3 = 6 ∨ j3 = 7 by omega) with rfl | rfl | rfl | rfl | rfl | rfl | rfl | rfl
  · rw [e4e] at hf ⊢
    replace hf := bd_some hf; obtain ⟨r5, h6, hf⟩ := hf
    refine V_call (pc := 23) (us1 := [_, _, _, _, _, _, _, _, _, _]) [2, 1] 2 (kX6_copyFrom (o := 14) (oa := oa) rfl hk1 h6) rfl rfl rfl rfl rfl rfl (Nat.le_of_ble_eq_true rfl) rfl rfl rfl wm_RX2_22 md_X6_copyFrom (Nat.le_of_ble_eq_true rfl) (Nat.le_of_ble_eq_true rfl) rfl rfl (Nat.le_of_ble_eq_true rfl) dX2_keep_23 ?_
    refine v_aload_n (pc := 26) 0 dX2_keep_26 rfl ?_
    refine v_aload_n (pc := 27) 0 dX2_keep_27 rfl ?_
    refine gf_RX2_18 (pc := 28) 0 rfl rfl dX2_keep_28 ?_
    refine v_iconst (pc := 31) (1 : Int32) dX2_keep_31 ci_1 ?_
    refine v_iadd (pc := 32) dX2_keep_32 ?_
    refine v_bipush (pc := 33) (8 : Int32) dX2_keep_33 cb_8 ?_
    refine v_irem (pc := 35) dX2_keep_35 (by decide) ?_
    refine pf_RX2_18 (pc := 36) [_, _, _, _, _, _, _, _, _, _] 0 rfl rfl rfl dX2_keep_36 ?_
    refine v_aload_n (pc := 39) 0 dX2_keep_39 rfl ?_
    refine v_aload_n (pc := 40) 0 dX2_keep_40 rfl ?_
    refine gf_RX2_26 (pc := 41) 0 rfl rfl dX2_keep_41 ?_
    refine v_iconst (pc := 44) (1 : Int32) dX2_keep_44 ci_1 ?_
    refine v_iadd (pc := 45) dX2_keep_45 ?_
    refine v_bipush (pc := 46) (8 : Int32) dX2_keep_46 cb_8 ?_
    refine v_mmin (pc := 48) wm_RX2_29 (Nat.le_of_ble_eq_true rfl) (Nat.le_of_ble_eq_true rfl) (Nat.le_of_ble_eq_true rfl) dX2_keep_48 ?_
    refine pf_RX2_26 (pc := 51) [_, _, _, _, _, _, _, _, _, _] 0 rfl rfl rfl dX2_keep_51 ?_
    have hf2 := Option.some.inj hf; subst hf2
    exact V_vret (pc := 54) hF dX2_keep_54
  · rw [e4e] at hf ⊢
    replace hf := bd_some hf; obtain ⟨r7, h8, hf⟩ := hf
    refine V_call (us1 := [_, _, _, _, _, _, _, _, _, _]) [3, 1] 3 (kX6_copyFrom (o := 15) (oa := oa) rfl hk1 h8) rfl rfl rfl rfl rfl rfl (Nat.le_of_ble_eq_true rfl) rfl rfl rfl wm_RX2_22 md_X6_copyFrom (Nat.le_of_ble_eq_true rfl) (Nat.le_of_ble_eq_true rfl) rfl rfl (Nat.le_of_ble_eq_true rfl) dX2_keep_23 ?_
    refine v_aload_n (pc := 26) 0 dX2_keep_26 rfl ?_
    refine v_aload_n (pc := 27) 0 dX2_keep_27 rfl ?_
    refine gf_RX2_18 (pc := 28) 0 rfl rfl dX2_keep_28 ?_
    refine v_iconst (pc := 31) (1 : Int32) dX2_keep_31 ci_1 ?_
    refine v_iadd (pc := 32) dX2_keep_32 ?_
    refine v_bipush (pc := 33) (8 : Int32) dX2_keep_33 cb_8 ?_
    refine v_irem (pc := 35) dX2_keep_35 (by decide) ?_
    refine pf_RX2_18 (pc := 36) [_, _, _, _, _, _, _, _, _, _] 0 rfl rfl rfl dX2_keep_36 ?_
    refine v_aload_n (pc := 39) 0 dX2_keep_39 rfl ?_
    refine v_aload_n (pc := 40) 0 dX2_keep_40 rfl ?_
    refine gf_RX2_26 (pc := 41) 0 rfl rfl dX2_keep_41 ?_
    refine v_iconst (pc := 44) (1 : Int32) dX2_keep_44 ci_1 ?_
    refine v_iadd (pc := 45) dX2_keep_45 ?_
    refine v_bipush (pc := 46) (8 : Int32) dX2_keep_46 cb_8 ?_
    refine v_mmin (pc := 48) wm_RX2_29 (Nat.le_of_ble_eq_true rfl) (Nat.le_of_ble_eq_true rfl) (Nat.le_of_ble_eq_true rfl) dX2_keep_48 ?_
    refine pf_RX2_26 (pc := 51) [_, _, _, _, _, _, _, _, _, _] 0 rfl rfl rfl dX2_keep_51 ?_
    have hf2 := Option.some.inj hf; subst hf2
    exact V_vret (pc := 54) hF dX2_keep_54
  · rw [e4e] at hf ⊢
    replace hf := bd_some hf; obtain ⟨r9, h10, hf⟩ := hf
    refine V_call (us1 := [_, _, _, _, _, _, _, _, _, _]) [4, 1] 4 (kX6_copyFrom (o := 16) (oa := oa) rfl hk1 h10) rfl rfl rfl rfl rfl rfl (Nat.le_of_ble_eq_true rfl) rfl rfl rfl wm_RX2_22 md_X6_copyFrom (Nat.le_of_ble_eq_true rfl) (Nat.le_of_ble_eq_true rfl) rfl rfl (Nat.le_of_ble_eq_true rfl) dX2_keep_23 ?_
    refine v_aload_n (pc := 26) 0 dX2_keep_26 rfl ?_
    refine v_aload_n (pc := 27) 0 dX2_keep_27 rfl ?_
    refine gf_RX2_18 (pc := 28) 0 rfl rfl dX2_keep_28 ?_
    refine v_iconst (pc := 31) (1 : Int32) dX2_keep_31 ci_1 ?_
    refine v_iadd (pc := 32) dX2_keep_32 ?_
    refine v_bipush (pc := 33) (8 : Int32) dX2_keep_33 cb_8 ?_
    refine v_irem (pc := 35) dX2_keep_35 (by decide) ?_
    refine pf_RX2_18 (pc := 36) [_, _, _, _, _, _, _, _, _, _] 0 rfl rfl rfl dX2_keep_36 ?_
    refine v_aload_n (pc := 39) 0 dX2_keep_39 rfl ?_
    refine v_aload_n (pc := 40) 0 dX2_keep_40 rfl ?_
    refine gf_RX2_26 (pc := 41) 0 rfl rfl dX2_keep_41 ?_
    refine v_iconst (pc := 44) (1 : Int32) dX2_keep_44 ci_1 ?_
    refine v_iadd (pc := 45) dX2_keep_45 ?_
    refine v_bipush (pc := 46) (8 : Int32) dX2_keep_46 cb_8 ?_
    refine v_mmin (pc := 48) wm_RX2_29 (Nat.le_of_ble_eq_true rfl) (Nat.le_of_ble_eq_true rfl) (Nat.le_of_ble_eq_true rfl) dX2_keep_48 ?_
    refine pf_RX2_26 (pc := 51) [_, _, _, _, _, _, _, _, _, _] 0 rfl rfl rfl dX2_keep_51 ?_
    have hf2 := Option.some.inj hf; subst hf2
    exact V_vret (pc := 54) hF dX2_keep_54
  · rw [e4e] at hf ⊢
    replace hf := bd_some hf; obtain ⟨r11, h12, hf⟩ := hf
    refine V_call (us1 := [_, _, _, _, _, _, _, _, _, _]) [5, 1] 5 (kX6_copyFrom (o := 17) (oa := oa) rfl hk1 h12) rfl rfl rfl rfl rfl rfl (Nat.le_of_ble_eq_true rfl) rfl rfl rfl wm_RX2_22 md_X6_copyFrom (Nat.le_of_ble_eq_true rfl) (Nat.le_of_ble_eq_true rfl) rfl rfl (Nat.le_of_ble_eq_true rfl) dX2_keep_23 ?_
    refine v_aload_n (pc := 26) 0 dX2_keep_26 rfl ?_
    refine v_aload_n (pc := 27) 0 dX2_keep_27 rfl ?_
    refine gf_RX2_18 (pc := 28) 0 rfl rfl dX2_keep_28 ?_
    refine v_iconst (pc := 31) (1 : Int32) dX2_keep_31 ci_1 ?_
    refine v_iadd (pc := 32) dX2_keep_32 ?_
    refine v_bipush (pc := 33) (8 : Int32) dX2_keep_33 cb_8 ?_
    refine v_irem (pc := 35) dX2_keep_35 (by decide) ?_
    refine pf_RX2_18 (pc := 36) [_, _, _, _, _, _, _, _, _, _] 0 rfl rfl rfl dX2_keep_36 ?_
    refine v_aload_n (pc := 39) 0 dX2_keep_39 rfl ?_
    refine v_aload_n (pc := 40) 0 dX2_keep_40 rfl ?_
    refine gf_RX2_26 (pc := 41) 0 rfl rfl dX2_keep_41 ?_
    refine v_iconst (pc := 44) (1 : Int32) dX2_keep_44 ci_1 ?_
    refine v_iadd (pc := 45) dX2_keep_45 ?_
    refine v_bipush (pc := 46) (8 : Int32) dX2_keep_46 cb_8 ?_
    refine v_mmin (pc := 48) wm_RX2_29 (Nat.le_of_ble_eq_true rfl) (Nat.le_of_ble_eq_true rfl) (Nat.le_of_ble_eq_true rfl) dX2_keep_48 ?_
    refine pf_RX2_26 (pc := 51) [_, _, _, _, _, _, _, _, _, _] 0 rfl rfl rfl dX2_keep_51 ?_
    have hf2 := Option.some.inj hf; subst hf2
    exact V_vret (pc := 54) hF dX2_keep_54
  · rw [e4e] at hf ⊢
    replace hf := bd_some hf; obtain ⟨r13, h14, hf⟩ := hf
    refine V_call (us1 := [_, _, _, _, _, _, _, _, _, _]) [6, 1] 6 (kX6_copyFrom (o := 18) (oa := oa) rfl hk1 h14) rfl rfl rfl rfl rfl rfl (Nat.le_of_ble_eq_true rfl) rfl rfl rfl wm_RX2_22 md_X6_copyFrom (Nat.le_of_ble_eq_true rfl) (Nat.le_of_ble_eq_true rfl) rfl rfl (Nat.le_of_ble_eq_true rfl) dX2_keep_23 ?_
    refine v_aload_n (pc := 26) 0 dX2_keep_26 rfl ?_
    refine v_aload_n (pc := 27) 0 dX2_keep_27 rfl ?_
    refine gf_RX2_18 (pc := 28) 0 rfl rfl dX2_keep_28 ?_
    refine v_iconst (pc := 31) (1 : Int32) dX2_keep_31 ci_1 ?_
    refine v_iadd (pc := 32) dX2_keep_32 ?_
    refine v_bipush (pc := 33) (8 : Int32) dX2_keep_33 cb_8 ?_
    refine v_irem (pc := 35) dX2_keep_35 (by decide) ?_
    refine pf_RX2_18 (pc := 36) [_, _, _, _, _, _, _, _, _, _] 0 rfl rfl rfl dX2_keep_36 ?_
    refine v_aload_n (pc := 39) 0 dX2_keep_39 rfl ?_
    refine v_aload_n (pc := 40) 0 dX2_keep_40 rfl ?_
    refine gf_RX2_26 (pc := 41) 0 rfl rfl dX2_keep_41 ?_
    refine v_iconst (pc := 44) (1 : Int32) dX2_keep_44 ci_1 ?_
    refine v_iadd (pc := 45) dX2_keep_45 ?_
    refine v_bipush (pc := 46) (8 : Int32) dX2_keep_46 cb_8 ?_
    refine v_mmin (pc := 48) wm_RX2_29 (Nat.le_of_ble_eq_true rfl) (Nat.le_of_ble_eq_true rfl) (Nat.le_of_ble_eq_true rfl) dX2_keep_48 ?_
    refine pf_RX2_26 (pc := 51) [_, _, _, _, _, _, _, _, _, _] 0 rfl rfl rfl dX2_keep_51 ?_
    have hf2 := Option.some.inj hf; subst hf2
    exact V_vret (pc := 54) hF dX2_keep_54
  · rw [e4e] at hf ⊢
    replace hf := bd_some hf; obtain ⟨r15, h16, hf⟩ := hf
    refine V_call (us1 := [_, _, _, _, _, _, _, _, _, _]) [7, 1] 7 (kX6_copyFrom (o := 19) (oa := oa) rfl hk1 h16) rfl rfl rfl rfl rfl rfl (Nat.le_of_ble_eq_true rfl) rfl rfl rfl wm_RX2_22 md_X6_copyFrom (Nat.le_of_ble_eq_true rfl) (Nat.le_of_ble_eq_true rfl) rfl rfl (Nat.le_of_ble_eq_true rfl) dX2_keep_23 ?_
    refine v_aload_n (pc := 26) 0 dX2_keep_26 rfl ?_
    refine v_aload_n (pc := 27) 0 dX2_keep_27 rfl ?_
    refine gf_RX2_18 (pc := 28) 0 rfl rfl dX2_keep_28 ?_
    refine v_iconst (pc := 31) (1 : Int32) dX2_keep_31 ci_1 ?_
    refine v_iadd (pc := 32) dX2_keep_32 ?_
    refine v_bipush (pc := 33) (8 : Int32) dX2_keep_33 cb_8 ?_
    refine v_irem (pc := 35) dX2_keep_35 (by decide) ?_
    refine pf_RX2_18 (pc := 36) [_, _, _, _, _, _, _, _, _, _] 0 rfl rfl rfl dX2_keep_36 ?_
    refine v_aload_n (pc := 39) 0 dX2_keep_39 rfl ?_
    refine v_aload_n (pc := 40) 0 dX2_keep_40 rfl ?_
    refine gf_RX2_26 (pc := 41) 0 rfl rfl dX2_keep_41 ?_
    refine v_iconst (pc := 44) (1 : Int32) dX2_keep_44 ci_1 ?_
    refine v_iadd (pc := 45) dX2_keep_45 ?_
    refine v_bipush (pc := 46) (8 : Int32) dX2_keep_46 cb_8 ?_
    refine v_mmin (pc := 48) wm_RX2_29 (Nat.le_of_ble_eq_true rfl) (Nat.le_of_ble_eq_true rfl) (Nat.le_of_ble_eq_true rfl) dX2_keep_48 ?_
    refine pf_RX2_26 (pc := 51) [_, _, _, _, _, _, _, _, _, _] 0 rfl rfl rfl dX2_keep_51 ?_
    have hf2 := Option.some.inj hf; subst hf2
    exact V_vret (pc := 54) hF dX2_keep_54
  · rw [e4e] at hf ⊢
    replace hf := bd_some hf; obtain ⟨r17, h18, hf⟩ := hf
    refine V_call (us1 := [_, _, _, _, _, _, _, _, _, _]) [8, 1] 8 (kX6_copyFrom (o := 20) (oa := oa) rfl hk1 h18) rfl rfl rfl rfl rfl rfl (Nat.le_of_ble_eq_true rfl) rfl rfl rfl wm_RX2_22 md_X6_copyFrom (Nat.le_of_ble_eq_true rfl) (Nat.le_of_ble_eq_true rfl) rfl rfl (Nat.le_of_ble_eq_true rfl) dX2_keep_23 ?_
    refine v_aload_n (pc := 26) 0 dX2_keep_26 rfl ?_
    refine v_aload_n (pc := 27) 0 dX2_keep_27 rfl ?_
    refine gf_RX2_18 (pc := 28) 0 rfl rfl dX2_keep_28 ?_
    refine v_iconst (pc := 31) (1 : Int32) dX2_keep_31 ci_1 ?_
    refine v_iadd (pc := 32) dX2_keep_32 ?_
    refine v_bipush (pc := 33) (8 : Int32) dX2_keep_33 cb_8 ?_
    refine v_irem (pc := 35) dX2_keep_35 (by decide) ?_
    refine pf_RX2_18 (pc := 36) [_, _, _, _, _, _, _, _, _, _] 0 rfl rfl rfl dX2_keep_36 ?_
    refine v_aload_n (pc := 39) 0 dX2_keep_39 rfl ?_
    refine v_aload_n (pc := 40) 0 dX2_keep_40 rfl ?_
    refine gf_RX2_26 (pc := 41) 0 rfl rfl dX2_keep_41 ?_
    refine v_iconst (pc := 44) (1 : Int32) dX2_keep_44 ci_1 ?_
    refine v_iadd (pc := 45) dX2_keep_45 ?_
    refine v_bipush (pc := 46) (8 : Int32) dX2_keep_46 cb_8 ?_
    refine v_mmin (pc := 48) wm_RX2_29 (Nat.le_of_ble_eq_true rfl) (Nat.le_of_ble_eq_true rfl) (Nat.le_of_ble_eq_true rfl) dX2_keep_48 ?_
    refine pf_RX2_26 (pc := 51) [_, _, _, _, _, _, _, _, _, _] 0 rfl rfl rfl dX2_keep_51 ?_
    have hf2 := Option.some.inj hf; subst hf2
    exact V_vret (pc := 54) hF dX2_keep_54
  · rw [e4e] at hf ⊢
    replace hf := bd_some hf; obtain ⟨r19, h20, hf⟩ := hf
    refine V_call (us1 := [_, _, _, _, _, _, _, _, _, _]) [9, 1] 9 (kX6_copyFrom (o := 21) (oa := oa) rfl hk1 h20) rfl rfl rfl rfl rfl rfl (Nat.le_of_ble_eq_true rfl) rfl rfl rfl wm_RX2_22 md_X6_copyFrom (Nat.le_of_ble_eq_true rfl) (Nat.le_of_ble_eq_true rfl) rfl rfl (Nat.le_of_ble_eq_true rfl) dX2_keep_23 ?_
    refine v_aload_n (pc := 26) 0 dX2_keep_26 rfl ?_
    refine v_aload_n (pc := 27) 0 dX2_keep_27 rfl ?_
    refine gf_RX2_18 (pc := 28) 0 rfl rfl dX2_keep_28 ?_
    refine v_iconst (pc := 31) (1 : Int32) dX2_keep_31 ci_1 ?_
    refine v_iadd (pc := 32) dX2_keep_32 ?_
    refine v_bipush (pc := 33) (8 : Int32) dX2_keep_33 cb_8 ?_
    refine v_irem (pc := 35) dX2_keep_35 (by decide) ?_
    refine pf_RX2_18 (pc := 36) [_, _, _, _, _, _, _, _, _, _] 0 rfl rfl rfl dX2_keep_36 ?_
    refine v_aload_n (pc := 39) 0 dX2_keep_39 rfl ?_
    refine v_aload_n (pc := 40) 0 dX2_keep_40 rfl ?_
    refine gf_RX2_26 (pc := 41) 0 rfl rfl dX2_keep_41 ?_
    refine v_iconst (pc := 44) (1 : Int32) dX2_keep_44 ci_1 ?_
    refine v_iadd (pc := 45) dX2_keep_45 ?_
    refine v_bipush (pc := 46) (8 : Int32) dX2_keep_46 cb_8 ?_
    refine v_mmin (pc := 48) wm_RX2_29 (Nat.le_of_ble_eq_true rfl) (Nat.le_of_ble_eq_true rfl) (Nat.le_of_ble_eq_true rfl) dX2_keep_48 ?_
    refine pf_RX2_26 (pc := 51) [_, _, _, _, _, _, _, _, _, _] 0 rfl rfl rfl dX2_keep_51 ?_
    have hf2 := Option.some.inj hf; subst hf2
    exact V_vret (pc := 54) hF dX2_keep_54
set_option maxRecDepth 20000 in
theorem kX2_takeBack {G : Wc} {oa : Nat} {S : Ob} {Sa : Ob} {K : (Nat → Ob)}  {r : Int32 × Ob × Ob} (hk1 : kd oa = 6) (hf : pX2_takeBack S Sa K   = some r) : Cn yX2_takeBack cX2_takeBack 3 (some .int) 2 101 G [.ref (wA G 5 0), .ref (wA G oa 0)] [(5, S), (oa, Sa), (14, K 0), (15, K 1), (16, K 2), (17, K 3), (18, K 4), (19, K 5), (20, K 6), (21, K 7)] [(5, r.2.1), (oa, r.2.2), (14, K 0), (15, K 1), (16, K 2), (17, K 3), (18, K 4), (19, K 5), (20, K 6), (21, K 7)] (some (.int r.1)) := by
  refine V_method [(0, .ref (wA G 5 0)), (1, .ref (wA G oa 0))] (by decide) rfl (Nat.le_of_ble_eq_true rfl) rfl (fun Γ hF => ?_)
  unfold pX2_takeBack at hf
  refine v_aload_n (pc := 0) 0 dX2_takeBack_0 rfl ?_
  refine gf_RX2_18 (pc := 1) 0 rfl rfl dX2_takeBack_1 ?_
  refine v_bipush (pc := 4) (8 : Int32) dX2_takeBack_4 cb_8 ?_
  refine v_iadd (pc := 6) dX2_takeBack_6 ?_
  refine v_iconst (pc := 7) (1 : Int32) dX2_takeBack_7 ci_1 ?_
  refine v_isub (pc := 8) dX2_takeBack_8 ?_
  refine v_bipush (pc := 9) (8 : Int32) dX2_takeBack_9 cb_8 ?_
  refine v_irem (pc := 11) dX2_takeBack_11 (by decide) ?_
  refine v_istore_n (pc := 12) [(2, _), (0, _), (1, _)] dX2_takeBack_12 (Nat.le_of_ble_eq_true rfl) rfl ?_
  refine v_aload_n (pc := 13) 1 dX2_takeBack_13 rfl ?_
  refine gf_RX2_26 (pc := 14) 0 rfl rfl dX2_takeBack_14 ?_
  refine v_if_eq (pc := 17) 29 dX2_takeBack_17 (by decide) (fun c1 => ?_) (fun c1 => ?_)
  · replace hf := it_t c1 hf
    refine v_iconst (pc := 29) (-1 : Int32) dX2_takeBack_29 ci_m1 ?_
    have hf2 := Option.some.inj hf; subst hf2
    exact V_iret (pc := 30) hF dX2_takeBack_30
  · replace hf := it_f c1 hf
    refine v_aload_n (pc := 20) 1 dX2_takeBack_20 rfl ?_
    refine gf_RX2_13 (pc := 21) 0 rfl rfl dX2_takeBack_21 ?_
    refine v_iload_n (pc := 24) 0 dX2_takeBack_24 rfl ?_
    replace hf := gd_some hf; obtain ⟨g2, hf⟩ := hf
    refine V_sald (pc := 25) 0 1 rfl rfl (Nat.le_of_ble_eq_true rfl) rfl g2 dX2_takeBack_25 ?_
    refine v_ifnonnullU (pc := 26) 31 dX2_takeBack_26 (by decide) ?_
    refine v_aload_n (pc := 31) 2 dX2_takeBack_31 rfl ?_
    refine v_aload_n (pc := 32) 1 dX2_takeBack_32 rfl ?_
    refine gf_RX2_13 (pc := 33) 0 rfl rfl dX2_takeBack_33 ?_
    refine v_iload_n (pc := 36) 0 dX2_takeBack_36 rfl ?_
    replace hf := gd_some hf; obtain ⟨g3, hf⟩ := hf
    refine V_sald (pc := 37) 0 1 rfl rfl (Nat.le_of_ble_eq_true rfl) rfl g3 dX2_takeBack_37 ?_
    obtain ⟨j4, e5, e5e⟩ : ∃ j : Nat, j < 8 ∧ ((((oI S 1) + (8 : Int32)) - (1 : Int32)) - (((oI S 1) + (8 : Int32)) - (1 : Int32)) / (8 : Int32) * (8 : Int32)).toNatClampNeg = j := ⟨_, inB_lt g3, rfl⟩
    rcases (show j4 = 0 ∨ j4 = 1 ∨ j4 = 2 ∨ j4 = 3 ∨ j4 = 4 ∨ j4 = 5 ∨ j4 = 6 ∨ j4 = 7 by omega) with rfl | rfl | rfl | rfl | rfl | rfl | rfl | rfl
    · rw [e5e] at hf ⊢
      replace hf := bd_some hf; obtain ⟨r6, h7, hf⟩ := hf
      refine V_call (pc := 38) (us1 := [_, _, _, _, _, _, _, _, _, _]) [1, 2] 1 (kX6_copyFrom (o := oa) (oa := 14) hk1 rfl h7) rfl rfl rfl rfl rfl hk1 (Nat.le_of_ble_eq_true rfl) rfl rfl rfl wm_RX2_22 md_X6_copyFrom (Nat.le_of_ble_eq_true rfl) (Nat.le_of_ble_eq_true rfl) rfl rfl (Nat.le_of_ble_eq_true rfl) dX2_takeBack_38 ?_
      refine v_aload_n (pc := 41) 1 dX2_takeBack_41 rfl ?_
      refine v_iload_n (pc := 42) 0 dX2_takeBack_42 rfl ?_
      refine pf_RX2_18 (pc := 43) [_, _, _, _, _, _, _, _, _, _] 0 rfl rfl rfl dX2_takeBack_43 ?_
      refine v_aload_n (pc := 46) 1 dX2_takeBack_46 rfl ?_
      refine v_dup (pc := 47) dX2_takeBack_47 rfl ?_
      refine gf_RX2_26 (pc := 48) 0 rfl rfl dX2_takeBack_48 ?_
      refine v_iconst (pc := 51) (1 : Int32) dX2_takeBack_51 ci_1 ?_
      refine v_isub (pc := 52) dX2_takeBack_52 ?_
      refine pf_RX2_26 (pc := 53) [_, _, _, _, _, _, _, _, _, _] 0 rfl rfl rfl dX2_takeBack_53 ?_
      refine v_aload_n (pc := 56) 1 dX2_takeBack_56 rfl ?_
      refine gf_RX2_26 (pc := 57) 0 rfl rfl dX2_takeBack_57 ?_
      have hf2 := Option.some.inj hf; subst hf2
      exact V_iret (pc := 60) hF dX2_takeBack_60
    · rw [e5e] at hf ⊢
      replace hf := bd_some hf; obtain ⟨r8, h9, hf⟩ := hf
      refine V_call (us1 := [_, _, _, _, _, _, _, _, _, _]) [1, 3] 1 (kX6_copyFrom (o := oa) (oa := 15) hk1 rfl h9) rfl rfl rfl rfl rfl hk1 (Nat.le_of_ble_eq_true rfl) rfl rfl rfl wm_RX2_22 md_X6_copyFrom (Nat.le_of_ble_eq_true rfl) (Nat.le_of_ble_eq_true rfl) rfl rfl (Nat.le_of_ble_eq_true rfl) dX2_takeBack_38 ?_
      refine v_aload_n (pc := 41) 1 dX2_takeBack_41 rfl ?_
      refine v_iload_n (pc := 42) 0 dX2_takeBack_42 rfl ?_
      refine pf_RX2_18 (pc := 43) [_, _, _, _, _, _, _, _, _, _] 0 rfl rfl rfl dX2_takeBack_43 ?_
      refine v_aload_n (pc := 46) 1 dX2_takeBack_46 rfl ?_
      refine v_dup (pc := 47) dX2_takeBack_47 rfl ?_
      refine gf_RX2_26 (pc := 48) 0 rfl rfl dX2_takeBack_48 ?_
      refine v_iconst (pc := 51) (1 : Int32) dX2_takeBack_51 ci_1 ?_
      refine v_isub (pc := 52) dX2_takeBack_52 ?_
      refine pf_RX2_26 (pc := 53) [_, _, _, _, _, _, _, _, _, _] 0 rfl rfl rfl dX2_takeBack_53 ?_
      refine v_aload_n (pc := 56) 1 dX2_takeBack_56 rfl ?_
      refine gf_RX2_26 (pc := 57) 0 rfl rfl dX2_takeBack_57 ?_
      have hf2 := Option.some.inj hf; subst hf2
      exact V_iret (pc := 60) hF dX2_takeBack_60
    · rw [e5e] at hf ⊢
      replace hf := bd_some hf; obtain ⟨r10, h11, hf⟩ := hf
      refine V_call (us1 := [_, _, _, _, _, _, _, _, _, _]) [1, 4] 1 (kX6_copyFrom (o := oa) (oa := 16) hk1 rfl h11) rfl rfl rfl rfl rfl hk1 (Nat.le_of_ble_eq_true rfl) rfl rfl rfl wm_RX2_22 md_X6_copyFrom (Nat.le_of_ble_eq_true rfl) (Nat.le_of_ble_eq_true rfl) rfl rfl (Nat.le_of_ble_eq_true rfl) dX2_takeBack_38 ?_
      refine v_aload_n (pc := 41) 1 dX2_takeBack_41 rfl ?_
      refine v_iload_n (pc := 42) 0 dX2_takeBack_42 rfl ?_
      refine pf_RX2_18 (pc := 43) [_, _, _, _, _, _, _, _, _, _] 0 rfl rfl rfl dX2_takeBack_43 ?_
      refine v_aload_n (pc := 46) 1 dX2_takeBack_46 rfl ?_
      refine v_dup (pc := 47) dX2_takeBack_47 rfl ?_
      refine gf_RX2_26 (pc := 48) 0 rfl rfl dX2_takeBack_48 ?_
      refine v_iconst (pc := 51) (1 : Int32) dX2_takeBack_51 ci_1 ?_
      refine v_isub (pc := 52) dX2_takeBack_52 ?_
      refine pf_RX2_26 (pc := 53) [_, _, _, _, _, _, _, _, _, _] 0 rfl rfl rfl dX2_takeBack_53 ?_
      refine v_aload_n (pc := 56) 1 dX2_takeBack_56 rfl ?_
      refine gf_RX2_26 (pc := 57) 0 rfl rfl dX2_takeBack_57 ?_
      have hf2 := Option.some.inj hf; subst hf2
      exact V_iret (pc := 60) hF dX2_takeBack_60
    · rw [e5e] at hf ⊢
      replace hf := bd_some hf; obtain ⟨r12, h13, hf⟩ := hf
      refine V_call (us1 := [_, _, _, _, _, _, _, _, _, _]) [1, 5] 1 (kX6_copyFrom (o := oa) (oa := 17) hk1 rfl h13) rfl rfl rfl rfl rfl hk1 (Nat.le_of_ble_eq_true rfl) rfl rfl rfl wm_RX2_22 md_X6_copyFrom (Nat.le_of_ble_eq_true rfl) (Nat.le_of_ble_eq_true rfl) rfl rfl (Nat.le_of_ble_eq_true rfl) dX2_takeBack_38 ?_
      refine v_aload_n (pc := 41) 1 dX2_takeBack_41 rfl ?_
      refine v_iload_n (pc := 42) 0 dX2_takeBack_42 rfl ?_
      refine pf_RX2_18 (pc := 43) [_, _, _, _, _, _, _, _, _, _] 0 rfl rfl rfl dX2_takeBack_43 ?_
      refine v_aload_n (pc := 46) 1 dX2_takeBack_46 rfl ?_
      refine v_dup (pc := 47) dX2_takeBack_47 rfl ?_
      refine gf_RX2_26 (pc := 48) 0 rfl rfl dX2_takeBack_48 ?_
      refine v_iconst (pc := 51) (1 : Int32) dX2_takeBack_51 ci_1 ?_
      refine v_isub (pc := 52) dX2_takeBack_52 ?_
      refine pf_RX2_26 (pc := 53) [_, _, _, _, _, _, _, _, _, _] 0 rfl rfl rfl dX2_takeBack_53 ?_
      refine v_aload_n (pc := 56) 1 dX2_takeBack_56 rfl ?_
      refine gf_RX2_26 (pc := 57) 0 rfl rfl dX2_takeBack_57 ?_
      have hf2 := Option.some.inj hf; subst hf2
      exact V_iret (pc := 60) hF dX2_takeBack_60
    · rw [e5e] at hf ⊢
      replace hf := bd_some hf; obtain ⟨r14, h15, hf⟩ := hf
      refine V_call (us1 := [_, _, _, _, _, _, _, _, _, _]) [1, 6] 1 (kX6_copyFrom (o := oa) (oa := 18) hk1 rfl h15) rfl rfl rfl rfl rfl hk1 (Nat.le_of_ble_eq_true rfl) rfl rfl rfl wm_RX2_22 md_X6_copyFrom (Nat.le_of_ble_eq_true rfl) (Nat.le_of_ble_eq_true rfl) rfl rfl (Nat.le_of_ble_eq_true rfl) dX2_takeBack_38 ?_
      refine v_aload_n (pc := 41) 1 dX2_takeBack_41 rfl ?_
      refine v_iload_n (pc := 42) 0 dX2_takeBack_42 rfl ?_
      refine pf_RX2_18 (pc := 43) [_, _, _, _, _, _, _, _, _, _] 0 rfl rfl rfl dX2_takeBack_43 ?_
      refine v_aload_n (pc := 46) 1 dX2_takeBack_46 rfl ?_
      refine v_dup (pc := 47) dX2_takeBack_47 rfl ?_
      refine gf_RX2_26 (pc := 48) 0 rfl rfl dX2_takeBack_48 ?_
      refine v_iconst (pc := 51) (1 : Int32) dX2_takeBack_51 ci_1 ?_
      refine v_isub (pc := 52) dX2_takeBack_52 ?_
      refine pf_RX2_26 (pc := 53) [_, _, _, _, _, _, _, _, _, _] 0 rfl rfl rfl dX2_takeBack_53 ?_
      refine v_aload_n (pc := 56) 1 dX2_takeBack_56 rfl ?_
      refine gf_RX2_26 (pc := 57) 0 rfl rfl dX2_takeBack_57 ?_
      have hf2 := Option.some.inj hf; subst hf2
      exact V_iret (pc := 60) hF dX2_takeBack_60
    · rw [e5e] at hf ⊢
      replace hf := bd_some hf; obtain ⟨r16, h17, hf⟩ := hf
      refine V_call (us1 := [_, _, _, _, _, _, _, _, _, _]) [1, 7] 1 (kX6_copyFrom (o := oa) (oa := 19) hk1 rfl h17) rfl rfl rfl rfl rfl hk1 (Nat.le_of_ble_eq_true rfl) rfl rfl rfl wm_RX2_22 md_X6_copyFrom (Nat.le_of_ble_eq_true rfl) (Nat.le_of_ble_eq_true rfl) rfl rfl (Nat.le_of_ble_eq_true rfl) dX2_takeBack_38 ?_
      refine v_aload_n (pc := 41) 1 dX2_takeBack_41 rfl ?_
      refine v_iload_n (pc := 42) 0 dX2_takeBack_42 rfl ?_
      refine pf_RX2_18 (pc := 43) [_, _, _, _, _, _, _, _, _, _] 0 rfl rfl rfl dX2_takeBack_43 ?_
      refine v_aload_n (pc := 46) 1 dX2_takeBack_46 rfl ?_
      refine v_dup (pc := 47) dX2_takeBack_47 rfl ?_
      refine gf_RX2_26 (pc := 48) 0 rfl rfl dX2_takeBack_48 ?_
      refine v_iconst (pc := 51) (1 : Int32) dX2_takeBack_51 ci_1 ?_
      refine v_isub (pc := 52) dX2_takeBack_52 ?_
      refine pf_RX2_26 (pc := 53) [_, _, _, _, _, _, _, _, _, _] 0 rfl rfl rfl dX2_takeBack_53 ?_
      refine v_aload_n (pc := 56) 1 dX2_takeBack_56 rfl ?_
      refine gf_RX2_26 (pc := 57) 0 rfl rfl dX2_takeBack_57 ?_
      have hf2 := Option.some.inj hf; subst hf2
      exact V_iret (pc := 60) hF dX2_takeBack_60
    · rw [e5e] at hf ⊢
      replace hf := bd_some hf; obtain ⟨r18, h19, hf⟩ := hf
      refine V_call (us1 := [_, _, _, _, _, _, _, _, _, _]) [1, 8] 1 (kX6_copyFrom (o := oa) (oa := 20) hk1 rfl h19) rfl rfl rfl rfl rfl hk1 (Nat.le_of_ble_eq_true rfl) rfl rfl rfl wm_RX2_22 md_X6_copyFrom (Nat.le_of_ble_eq_true rfl) (Nat.le_of_ble_eq_true rfl) rfl rfl (Nat.le_of_ble_eq_true rfl) dX2_takeBack_38 ?_
      refine v_aload_n (pc := 41) 1 dX2_takeBack_41 rfl ?_
      refine v_iload_n (pc := 42) 0 dX2_takeBack_42 rfl ?_
      refine pf_RX2_18 (pc := 43) [_, _, _, _, _, _, _, _, _, _] 0 rfl rfl rfl dX2_takeBack_43 ?_
      refine v_aload_n (pc := 46) 1 dX2_takeBack_46 rfl ?_
      refine v_dup (pc := 47) dX2_takeBack_47 rfl ?_
      refine gf_RX2_26 (pc := 48) 0 rfl rfl dX2_takeBack_48 ?_
      refine v_iconst (pc := 51) (1 : Int32) dX2_takeBack_51 ci_1 ?_
      refine v_isub (pc := 52) dX2_takeBack_52 ?_
      refine pf_RX2_26 (pc := 53) [_, _, _, _, _, _, _, _, _, _] 0 rfl rfl rfl dX2_takeBack_53 ?_
      refine v_aload_n (pc := 56) 1 dX2_takeBack_56 rfl ?_
      refine gf_RX2_26 (pc := 57) 0 rfl rfl dX2_takeBack_57 ?_
      have hf2 := Option.some.inj hf; subst hf2
      exact V_iret (pc := 60) hF dX2_takeBack_60
    · rw [e5e] at hf ⊢
      replace hf := bd_some hf; obtain ⟨r20, h21, hf⟩ := hf
      refine V_call (us1 := [_, _, _, _, _, _, _, _, _, _]) [1, 9] 1 (kX6_copyFrom (o := oa) (oa := 21) hk1 rfl h21) rfl rfl rfl rfl rfl hk1 (Nat.le_of_ble_eq_true rfl) rfl rfl rfl wm_RX2_22 md_X6_copyFrom (Nat.le_of_ble_eq_true rfl) (Nat.le_of_ble_eq_true rfl) rfl rfl (Nat.le_of_ble_eq_true rfl) dX2_takeBack_38 ?_
      refine v_aload_n (pc := 41) 1 dX2_takeBack_41 rfl ?_
      refine v_iload_n (pc := 42) 0 dX2_takeBack_42 rfl ?_
      refine pf_RX2_18 (pc := 43) [_, _, _, _, _, _, _, _, _, _] 0 rfl rfl rfl dX2_takeBack_43 ?_
      refine v_aload_n (pc := 46) 1 dX2_takeBack_46 rfl ?_
      refine v_dup (pc := 47) dX2_takeBack_47 rfl ?_
      refine gf_RX2_26 (pc := 48) 0 rfl rfl dX2_takeBack_48 ?_
      refine v_iconst (pc := 51) (1 : Int32) dX2_takeBack_51 ci_1 ?_
      refine v_isub (pc := 52) dX2_takeBack_52 ?_
      refine pf_RX2_26 (pc := 53) [_, _, _, _, _, _, _, _, _, _] 0 rfl rfl rfl dX2_takeBack_53 ?_
      refine v_aload_n (pc := 56) 1 dX2_takeBack_56 rfl ?_
      refine gf_RX2_26 (pc := 57) 0 rfl rfl dX2_takeBack_57 ?_
      have hf2 := Option.some.inj hf; subst hf2
      exact V_iret (pc := 60) hF dX2_takeBack_60
set_option maxRecDepth 20000 in
theorem kX2_forget {G : Wc} {S : Ob}  {r : Ob}  (hf : pX2_forget S   = some r) : Cn yX2_forget cX2_forget 1 (none) 1 60 G [.ref (wA G 5 0)] [(5, S)] [(5, r)] none := by
  refine V_method [(0, .ref (wA G 5 0))] (by decide) rfl (Nat.le_of_ble_eq_true rfl) rfl (fun Γ hF => ?_)
  unfold pX2_forget at hf
  refine v_aload_n (pc := 0) 0 dX2_forget_0 rfl ?_
  refine v_iconst (pc := 1) (0 : Int32) dX2_forget_1 ci_0 ?_
  refine pf_RX2_26 (pc := 2) [_] 0 rfl rfl rfl dX2_forget_2 ?_
  have hf2 := Option.some.inj hf; subst hf2
  exact V_vret (pc := 5) hF dX2_forget_5
set_option maxRecDepth 20000 in
theorem wX6_allHolds_l5 {G : Wc} {Γ : Cx} {o oa : Nat} {S : Ob} {Sa : Ob} {l2 : Int32} (hk0 : kd o = 6) (hk1 : kd oa = 4) : ∀ (n : Nat) {l3 : Int32} {l4 : Int32} {r : Int32}, pX6_allHolds_l5  S Sa l2 n l3 l4 = some r → V cX6_allHolds RX6 3 106 5 G Γ [(o, S), (oa, Sa)] 33 [(3, .int r)] [] → V cX6_allHolds RX6 3 106 5 G Γ [(o, S), (oa, Sa)] 5 [(0, .ref (wA G o 0)), (1, .ref (wA G oa 0)), (2, .int l2), (3, .int l3), (4, .int l4)] [] := by
  intro n
  induction n with
  | zero => intro l3 l4 r hf hx; unfold pX6_allHolds_l5 at hf; cases hf
  | succ n ih =>
    intro l3 l4 r hf hx
    have hrec : ∀ {l3 : Int32} {l4 : Int32}, pX6_allHolds_l5  S Sa l2 n l3 l4 = some r → V cX6_allHolds RX6 3 106 5 G Γ [(o, S), (oa, Sa)] 5 [(0, .ref (wA G o 0)), (1, .ref (wA G oa 0)), (2, .int l2), (3, .int l3), (4, .int l4)] [] := fun h => ih h hx
    clear ih
    unfold pX6_allHolds_l5 at hf
    refine v_iload (pc := 5) 4 dX6_allHolds_5 rfl ?_
    refine v_aload_n (pc := 7) 0 dX6_allHolds_7 rfl ?_
    refine gf_RX6_15 (pc := 8) 0 rfl hk0 dX6_allHolds_8 ?_
    refine v_iload_n (pc := 11) 2 dX6_allHolds_11 rfl ?_
    replace hf := gd_some hf; obtain ⟨g1, hf⟩ := hf
    refine al_X6_1 (pc := 12) _ 0 rfl hk0 rfl g1 dX6_allHolds_12 ?_
    refine v_icmp_ge (pc := 13) 33 dX6_allHolds_13 (by decide) (fun c2 => ?_) (fun c2 => ?_)
    · replace hf := it_t c2 hf
      have hf2 := Option.some.inj hf; subst hf2
      exact V_sub [3] rfl hx
    · replace hf := it_f c2 hf
      refine v_iload_n (pc := 16) 3 dX6_allHolds_16 rfl ?_
      refine v_aload_n (pc := 17) 0 dX6_allHolds_17 rfl ?_
      refine v_aload_n (pc := 18) 1 dX6_allHolds_18 rfl ?_
      refine v_iload_n (pc := 19) 2 dX6_allHolds_19 rfl ?_
      refine v_iload (pc := 20) 4 dX6_allHolds_20 rfl ?_
      replace hf := bd_some hf; obtain ⟨r3, h4, hf⟩ := hf
      refine V_call (pc := 22) (us1 := [_, _]) [0, 1] 0 (kX6_holdAt (o := o) (oa := oa) hk0 hk1 h4) rfl rfl rfl rfl rfl hk0 (Nat.le_of_ble_eq_true rfl) rfl rfl rfl wm_RX6_67 md_X6_holdAt (Nat.le_of_ble_eq_true rfl) (Nat.le_of_ble_eq_true rfl) rfl rfl (Nat.le_of_ble_eq_true rfl) dX6_allHolds_22 ?_
      refine v_iadd (pc := 25) dX6_allHolds_25 ?_
      refine v_istore_n (pc := 26) [(3, _), (0, _), (1, _), (2, _), (4, _)] dX6_allHolds_26 (Nat.le_of_ble_eq_true rfl) rfl ?_
      refine v_iinc (pc := 27) 4 (l4 + (1 : Int32)) [(4, _), (3, _), (0, _), (1, _), (2, _)] dX6_allHolds_27 rfl (congrArg (fun z => _ + z) ci_1) (Nat.le_of_ble_eq_true rfl) rfl ?_
      refine v_goto (pc := 30) 5 dX6_allHolds_30 (by decide) ?_
      exact V_sub [2, 3, 4, 1, 0] rfl (hrec hf)
set_option maxRecDepth 20000 in
theorem kX6_allHolds {G : Wc} {o oa : Nat} {S : Ob} {Sa : Ob} {b : Int32} {r : Int32} (hk0 : kd o = 6) (hk1 : kd oa = 4) (hf : pX6_allHolds S Sa  b = some r) : Cn yX6_allHolds cX6_allHolds 5 (some .int) 3 106 G [.ref (wA G o 0), .ref (wA G oa 0), .int b] [(o, S), (oa, Sa)] [(o, S), (oa, Sa)] (some (.int r)) := by
  refine V_method [(0, .ref (wA G o 0)), (1, .ref (wA G oa 0)), (2, .int b)] (by decide) rfl (Nat.le_of_ble_eq_true rfl) rfl (fun Γ hF => ?_)
  unfold pX6_allHolds at hf
  refine v_iconst (pc := 0) (0 : Int32) dX6_allHolds_0 ci_0 ?_
  refine v_istore_n (pc := 1) [(3, _), (0, _), (1, _), (2, _)] dX6_allHolds_1 (Nat.le_of_ble_eq_true rfl) rfl ?_
  refine v_iconst (pc := 2) (0 : Int32) dX6_allHolds_2 ci_0 ?_
  refine v_istore (pc := 3) [(4, _), (3, _), (0, _), (1, _), (2, _)] dX6_allHolds_3 (Nat.le_of_ble_eq_true rfl) rfl ?_
  replace hf := bd_some hf; obtain ⟨r5, h6, hf⟩ := hf
  refine V_sub [2, 3, 4, 1, 0] rfl (wX6_allHolds_l5 hk0 hk1 fu h6 ?_)
  refine v_iload_n (pc := 33) 0 dX6_allHolds_33 rfl ?_
  have hf2 := Option.some.inj hf; subst hf2
  exact V_iret (pc := 34) hF dX6_allHolds_34
set_option maxRecDepth 20000 in
theorem wX3_fewestStrokes_j104 {G : Wc} {Γ : Cx} {o oa ob : Nat} {S : Ob} {Sa : Ob} {Sb : Ob} {l3 : Int32} {l4 : Int32} {l5 : Int32} {l6 : Int32} {l7 : Int32} {l8 : Int32} {l9 : Int32} {r : Int32} (hk0 : kd o = 3) (hk1 : kd oa = 4) (hk2 : kd ob = 6) {rec : Int32 → Int32 → Int32 → Int32 → Option (Int32)} (hrec : ∀ {l4 : Int32} {l5 : Int32} {l6 : Int32} {l7 : Int32}, rec l4 l5 l6 l7 = some r → V cX3_fewestStrokes RX3 4 130 10 G Γ [(o, S), (oa, Sa), (ob, Sb)] 41 [(1, .ref (wA G oa 0)), (2, .ref (wA G ob 0)), (3, .int l3), (4, .int l4), (5, .int l5), (6, .int l6), (7, .int l7)] []) (hF : Fnl G Γ (some .int) (some (.int r)) (ov Γ.2.2.2 [(o, S), (oa, Sa), (ob, Sb)])) (hf : pX3_fewestStrokes_j104 rec S Sa Sb l3 l4 l5 l6 l7 l8 l9 = some r) : V cX3_fewestStrokes RX3 4 130 10 G Γ [(o, S), (oa, Sa), (ob, Sb)] 104 [(1, .ref (wA G oa 0)), (2, .ref (wA G ob 0)), (3, .int l3), (4, .int l4), (5, .int l5), (6, .int l6), (7, .int l7), (8, .int l8), (9, .int l9)] [] := by
  unfold pX3_fewestStrokes_j104 at hf
  refine v_iload (pc := 104) 4 dX3_fewestStrokes_104 rfl ?_
  refine v_iload (pc := 106) 8 dX3_fewestStrokes_106 rfl ?_
  refine v_isub (pc := 108) dX3_fewestStrokes_108 ?_
  refine v_istore (pc := 109) [(5, _), (1, _), (2, _), (3, _), (4, _), (6, _), (7, _), (8, _), (9, _)] dX3_fewestStrokes_109 (Nat.le_of_ble_eq_true rfl) rfl ?_
  refine v_iload (pc := 111) 5 dX3_fewestStrokes_111 rfl ?_
  refine v_iload (pc := 113) 7 dX3_fewestStrokes_113 rfl ?_
  refine v_isub (pc := 115) dX3_fewestStrokes_115 ?_
  refine v_istore (pc := 116) [(6, _), (5, _), (1, _), (2, _), (3, _), (4, _), (7, _), (8, _), (9, _)] dX3_fewestStrokes_116 (Nat.le_of_ble_eq_true rfl) rfl ?_
  refine v_iinc (pc := 118) 6 (l7 + (1 : Int32)) [(7, _), (6, _), (5, _), (1, _), (2, _), (3, _), (4, _), (8, _), (9, _)] dX3_fewestStrokes_118 rfl (congrArg (fun z => _ + z) ci_1) (Nat.le_of_ble_eq_true rfl) rfl ?_
  refine v_goto (pc := 121) 41 dX3_fewestStrokes_121 (by decide) ?_
  exact V_sub [3, 4, 5, 6, 2, 1, 0] rfl (hrec hf)
set_option maxRecDepth 20000 in
theorem wX3_fewestStrokes_l41 {G : Wc} {Γ : Cx} {o oa ob : Nat} {S : Ob} {Sa : Ob} {Sb : Ob} {l3 : Int32} {r : Int32} (hk0 : kd o = 3) (hk1 : kd oa = 4) (hk2 : kd ob = 6) (hF : Fnl G Γ (some .int) (some (.int r)) (ov Γ.2.2.2 [(o, S), (oa, Sa), (ob, Sb)])) : ∀ (n : Nat) {l4 : Int32} {l5 : Int32} {l6 : Int32} {l7 : Int32}, pX3_fewestStrokes_l41  S Sa Sb l3 n l4 l5 l6 l7 = some r → V cX3_fewestStrokes RX3 4 130 10 G Γ [(o, S), (oa, Sa), (ob, Sb)] 41 [(1, .ref (wA G oa 0)), (2, .ref (wA G ob 0)), (3, .int l3), (4, .int l4), (5, .int l5), (6, .int l6), (7, .int l7)] [] := by
  intro n
  induction n with
  | zero => intro l4 l5 l6 l7 hf; unfold pX3_fewestStrokes_l41 at hf; cases hf
  | succ n ih =>
    intro l4 l5 l6 l7 hf
    have hrec : ∀ {l4 : Int32} {l5 : Int32} {l6 : Int32} {l7 : Int32}, pX3_fewestStrokes_l41  S Sa Sb l3 n l4 l5 l6 l7 = some r → V cX3_fewestStrokes RX3 4 130 10 G Γ [(o, S), (oa, Sa), (ob, Sb)] 41 [(1, .ref (wA G oa 0)), (2, .ref (wA G ob 0)), (3, .int l3), (4, .int l4), (5, .int l5), (6, .int l6), (7, .int l7)] [] := fun h => ih h
    clear ih
    unfold pX3_fewestStrokes_l41 at hf
    refine v_iload (pc := 41) 6 dX3_fewestStrokes_41 rfl ?_
    refine v_bipush (pc := 43) (8 : Int32) dX3_fewestStrokes_43 cb_8 ?_
    refine v_icmp_ge (pc := 45) 124 dX3_fewestStrokes_45 (by decide) (fun c7 => ?_) (fun c7 => ?_)
    · replace hf := it_t c7 hf
      refine v_iload (pc := 124) 3 dX3_fewestStrokes_124 rfl ?_
      have hf2 := Option.some.inj hf; subst hf2
      exact V_iret (pc := 126) hF dX3_fewestStrokes_126
    · replace hf := it_f c7 hf
      refine v_iload (pc := 48) 5 dX3_fewestStrokes_48 rfl ?_
      refine v_if_le (pc := 50) 124 dX3_fewestStrokes_50 (by decide) (fun c8 => ?_) (fun c8 => ?_)
      · replace hf := it_t c8 hf
        refine v_iload (pc := 124) 3 dX3_fewestStrokes_124 rfl ?_
        have hf2 := Option.some.inj hf; subst hf2
        exact V_iret (pc := 126) hF dX3_fewestStrokes_126
      · replace hf := it_f c8 hf
        refine v_aload_n (pc := 53) 1 dX3_fewestStrokes_53 rfl ?_
        refine v_iload_n (pc := 54) 2 dX3_fewestStrokes_54 rfl ?_
        refine v_iload (pc := 55) 5 dX3_fewestStrokes_55 rfl ?_
        replace hf := bd_some hf; obtain ⟨r9, h10, hf⟩ := hf
        refine V_call (pc := 57) (us1 := [_, _, _]) [2] 2 (kX6_knotBelow (o := ob) hk2 h10) rfl rfl rfl rfl rfl hk2 (Nat.le_of_ble_eq_true rfl) rfl rfl rfl wm_RX3_41 md_X6_knotBelow (Nat.le_of_ble_eq_true rfl) (Nat.le_of_ble_eq_true rfl) rfl rfl (Nat.le_of_ble_eq_true rfl) dX3_fewestStrokes_57 ?_
        refine v_istore (pc := 60) [(8, _), (1, _), (2, _), (3, _), (4, _), (5, _), (6, _), (7, _)] dX3_fewestStrokes_60 (Nat.le_of_ble_eq_true rfl) rfl ?_
        refine v_iload (pc := 62) 0 dX3_fewestStrokes_62 rfl ?_
        refine v_aload_n (pc := 64) 2 dX3_fewestStrokes_64 rfl ?_
        refine v_aload_n (pc := 65) 1 dX3_fewestStrokes_65 rfl ?_
        refine v_iload_n (pc := 66) 3 dX3_fewestStrokes_66 rfl ?_
        refine v_iload (pc := 67) 6 dX3_fewestStrokes_67 rfl ?_
        refine v_iconst (pc := 69) (1 : Int32) dX3_fewestStrokes_69 ci_1 ?_
        refine v_isub (pc := 70) dX3_fewestStrokes_70 ?_
        replace hf := bd_some hf; obtain ⟨r11, h12, hf⟩ := hf
        refine V_call (pc := 71) (us1 := [_, _, _]) [2, 1] 2 (kX6_holdAt (o := ob) (oa := oa) hk2 hk1 h12) rfl rfl rfl rfl rfl hk2 (Nat.le_of_ble_eq_true rfl) rfl rfl rfl wm_RX3_45 md_X6_holdAt (Nat.le_of_ble_eq_true rfl) (Nat.le_of_ble_eq_true rfl) rfl rfl (Nat.le_of_ble_eq_true rfl) dX3_fewestStrokes_71 ?_
        refine v_imul (pc := 74) dX3_fewestStrokes_74 ?_
        refine v_istore (pc := 75) [(9, _), (8, _), (1, _), (2, _), (3, _), (4, _), (5, _), (6, _), (7, _)] dX3_fewestStrokes_75 (Nat.le_of_ble_eq_true rfl) rfl ?_
        refine v_iload (pc := 77) 0 dX3_fewestStrokes_77 rfl ?_
        refine v_aload_n (pc := 79) 2 dX3_fewestStrokes_79 rfl ?_
        refine gf_RX3_49 (pc := 80) 1 rfl hk1 dX3_fewestStrokes_80 ?_
        refine v_icmp_le (pc := 83) 88 dX3_fewestStrokes_83 (by decide) (fun c13 => ?_) (fun c13 => ?_)
        · replace hf := it_t c13 hf
          refine v_iload (pc := 88) 0 dX3_fewestStrokes_88 rfl ?_
          refine v_iload (pc := 90) 6 dX3_fewestStrokes_90 rfl ?_
          refine v_icmp_le (pc := 92) 104 dX3_fewestStrokes_92 (by decide) (fun c14 => ?_) (fun c14 => ?_)
          · replace hf := it_t c14 hf
            exact V_sub [2, 3, 4, 5, 6, 7, 8, 1, 0] rfl (wX3_fewestStrokes_j104 hk0 hk1 hk2 hrec hF hf)
          · replace hf := it_f c14 hf
            refine v_iinc (pc := 95) 5 (l4 + (1 : Int32)) [(4, _), (9, _), (8, _), (1, _), (2, _), (3, _), (5, _), (6, _), (7, _)] dX3_fewestStrokes_95 rfl (congrArg (fun z => _ + z) ci_1) (Nat.le_of_ble_eq_true rfl) rfl ?_
            refine v_aload_n (pc := 98) 3 dX3_fewestStrokes_98 rfl ?_
            refine gf_RX3_49 (pc := 99) 1 rfl hk1 dX3_fewestStrokes_99 ?_
            refine v_istore (pc := 102) [(5, _), (4, _), (9, _), (8, _), (1, _), (2, _), (3, _), (6, _), (7, _)] dX3_fewestStrokes_102 (Nat.le_of_ble_eq_true rfl) rfl ?_
            exact V_sub [4, 5, 6, 1, 0, 7, 8, 3, 2] rfl (wX3_fewestStrokes_j104 hk0 hk1 hk2 hrec hF hf)
        · replace hf := it_f c13 hf
          refine v_iconst (pc := 86) (-1 : Int32) dX3_fewestStrokes_86 ci_m1 ?_
          have hf2 := Option.some.inj hf; subst hf2
          exact V_iret (pc := 87) hF dX3_fewestStrokes_87
set_option maxRecDepth 20000 in
theorem kX3_fewestStrokes {G : Wc} {o oa ob : Nat} {S : Ob} {Sa : Ob} {Sb : Ob} {c : Int32} {r : Int32} (hk0 : kd o = 3) (hk1 : kd oa = 4) (hk2 : kd ob = 6) (hf : pX3_fewestStrokes S Sa Sb  c = some r) : Cn yX3_fewestStrokes cX3_fewestStrokes 10 (some .int) 4 130 G [.ref (wA G o 0), .ref (wA G oa 0), .ref (wA G ob 0), .int c] [(o, S), (oa, Sa), (ob, Sb)] [(o, S), (oa, Sa), (ob, Sb)] (some (.int r)) := by
  refine V_method [(0, .ref (wA G o 0)), (1, .ref (wA G oa 0)), (2, .ref (wA G ob 0)), (3, .int c)] (by decide) rfl (Nat.le_of_ble_eq_true rfl) rfl (fun Γ hF => ?_)
  unfold pX3_fewestStrokes at hf
  refine v_aload_n (pc := 0) 2 dX3_fewestStrokes_0 rfl ?_
  refine v_aload_n (pc := 1) 1 dX3_fewestStrokes_1 rfl ?_
  refine v_iload_n (pc := 2) 3 dX3_fewestStrokes_2 rfl ?_
  replace hf := bd_some hf; obtain ⟨r1, h2, hf⟩ := hf
  refine V_call (pc := 3) (us1 := [_, _, _]) [2, 1] 2 (kX6_allHolds (o := ob) (oa := oa) hk2 hk1 h2) rfl rfl rfl rfl rfl hk2 (Nat.le_of_ble_eq_true rfl) rfl rfl rfl wm_RX3_24 md_X6_allHolds (Nat.le_of_ble_eq_true rfl) (Nat.le_of_ble_eq_true rfl) rfl rfl (Nat.le_of_ble_eq_true rfl) dX3_fewestStrokes_3 ?_
  refine v_aload_n (pc := 6) 1 dX3_fewestStrokes_6 rfl ?_
  refine gf_RX3_30 (pc := 7) 1 rfl hk1 dX3_fewestStrokes_7 ?_
  refine v_iload_n (pc := 10) 3 dX3_fewestStrokes_10 rfl ?_
  replace hf := gd_some hf; obtain ⟨g3, hf⟩ := hf
  refine al_X4_6 (pc := 11) _ 1 rfl hk1 rfl g3 dX3_fewestStrokes_11 ?_
  refine v_aload_n (pc := 12) 2 dX3_fewestStrokes_12 rfl ?_
  refine gf_RX3_35 (pc := 13) 2 rfl hk2 dX3_fewestStrokes_13 ?_
  refine v_iload_n (pc := 16) 3 dX3_fewestStrokes_16 rfl ?_
  replace hf := gd_some hf; obtain ⟨g4, hf⟩ := hf
  refine al_X6_2 (pc := 17) _ 2 rfl hk2 rfl g4 dX3_fewestStrokes_17 ?_
  refine v_isub (pc := 18) dX3_fewestStrokes_18 ?_
  refine v_icmp_le (pc := 19) 24 dX3_fewestStrokes_19 (by decide) (fun c5 => ?_) (fun c5 => ?_)
  · replace hf := it_t c5 hf
    refine v_iconst (pc := 24) (0 : Int32) dX3_fewestStrokes_24 ci_0 ?_
    refine v_istore (pc := 25) [(4, _), (0, _), (1, _), (2, _), (3, _)] dX3_fewestStrokes_25 (Nat.le_of_ble_eq_true rfl) rfl ?_
    refine v_iconst (pc := 27) (0 : Int32) dX3_fewestStrokes_27 ci_0 ?_
    refine v_istore (pc := 28) [(5, _), (4, _), (0, _), (1, _), (2, _), (3, _)] dX3_fewestStrokes_28 (Nat.le_of_ble_eq_true rfl) rfl ?_
    refine v_aload_n (pc := 30) 4 dX3_fewestStrokes_30 rfl ?_
    refine gf_RX3_38 (pc := 31) 2 rfl hk2 dX3_fewestStrokes_31 ?_
    refine v_iload_n (pc := 34) 5 dX3_fewestStrokes_34 rfl ?_
    replace hf := gd_some hf; obtain ⟨g6, hf⟩ := hf
    refine al_X6_1 (pc := 35) _ 2 rfl hk2 rfl g6 dX3_fewestStrokes_35 ?_
    refine v_istore (pc := 36) [(6, _), (5, _), (4, _), (0, _), (1, _), (2, _), (3, _)] dX3_fewestStrokes_36 (Nat.le_of_ble_eq_true rfl) rfl ?_
    refine v_iconst (pc := 38) (0 : Int32) dX3_fewestStrokes_38 ci_0 ?_
    refine v_istore (pc := 39) [(7, _), (6, _), (5, _), (4, _), (0, _), (1, _), (2, _), (3, _)] dX3_fewestStrokes_39 (Nat.le_of_ble_eq_true rfl) rfl ?_
    exact V_sub [5, 6, 7, 3, 2, 1, 0] rfl (wX3_fewestStrokes_l41 hk0 hk1 hk2 hF fu hf)
  · replace hf := it_f c5 hf
    refine v_iconst (pc := 22) (-1 : Int32) dX3_fewestStrokes_22 ci_m1 ?_
    have hf2 := Option.some.inj hf; subst hf2
    exact V_iret (pc := 23) hF dX3_fewestStrokes_23
set_option maxRecDepth 20000 in
theorem wX3_caughtOn_l6 {G : Wc} {Γ : Cx} {o oa : Nat} {S : Ob} {Sa : Ob} {l2 : Int32} {l3 : Int32} (hk0 : kd o = 3) (hk1 : kd oa = 4) : ∀ (n : Nat) {l4 : Int32} {l5 : Int32} {r : Int32}, pX3_caughtOn_l6  S Sa l2 l3 n l4 l5 = some r → V cX3_caughtOn RX3 2 83 6 G Γ [(o, S), (oa, Sa)] 45 [(4, .int r)] [] → V cX3_caughtOn RX3 2 83 6 G Γ [(o, S), (oa, Sa)] 6 [(1, .ref (wA G oa 0)), (2, .int l2), (3, .int l3), (4, .int l4), (5, .int l5)] [] := by
  intro n
  induction n with
  | zero => intro l4 l5 r hf hx; unfold pX3_caughtOn_l6 at hf; cases hf
  | succ n ih =>
    intro l4 l5 r hf hx
    have hrec : ∀ {l4 : Int32} {l5 : Int32}, pX3_caughtOn_l6  S Sa l2 l3 n l4 l5 = some r → V cX3_caughtOn RX3 2 83 6 G Γ [(o, S), (oa, Sa)] 6 [(1, .ref (wA G oa 0)), (2, .int l2), (3, .int l3), (4, .int l4), (5, .int l5)] [] := fun h => ih h hx
    clear ih
    unfold pX3_caughtOn_l6 at hf
    refine v_iload (pc := 6) 4 dX3_caughtOn_6 rfl ?_
    refine v_aload_n (pc := 8) 0 dX3_caughtOn_8 rfl ?_
    refine gf_RX3_59 (pc := 9) 1 rfl hk1 dX3_caughtOn_9 ?_
    refine v_icmp_ge (pc := 12) 45 dX3_caughtOn_12 (by decide) (fun c1 => ?_) (fun c1 => ?_)
    · replace hf := it_t c1 hf
      have hf2 := Option.some.inj hf; subst hf2
      exact V_sub [3] rfl hx
    · replace hf := it_f c1 hf
      refine v_aload_n (pc := 15) 0 dX3_caughtOn_15 rfl ?_
      refine gf_RX3_62 (pc := 16) 1 rfl hk1 dX3_caughtOn_16 ?_
      refine v_iload (pc := 19) 4 dX3_caughtOn_19 rfl ?_
      replace hf := gd_some hf; obtain ⟨g2, hf⟩ := hf
      refine al_X4_8 (pc := 21) _ 1 rfl hk1 rfl g2 dX3_caughtOn_21 ?_
      refine v_iload_n (pc := 22) 1 dX3_caughtOn_22 rfl ?_
      refine v_icmp_ne (pc := 23) 39 dX3_caughtOn_23 (by decide) (fun c3 => ?_) (fun c3 => ?_)
      · replace hf := it_f c3 hf
        refine v_iinc (pc := 39) 4 (l5 + (1 : Int32)) [(5, _), (1, _), (2, _), (3, _), (4, _)] dX3_caughtOn_39 rfl (congrArg (fun z => _ + z) ci_1) (Nat.le_of_ble_eq_true rfl) rfl ?_
        refine v_goto (pc := 42) 6 dX3_caughtOn_42 (by decide) ?_
        exact V_sub [1, 2, 3, 4, 0] rfl (hrec hf)
      · replace hf := it_t c3 hf
        refine v_aload_n (pc := 26) 0 dX3_caughtOn_26 rfl ?_
        refine v_iload (pc := 27) 4 dX3_caughtOn_27 rfl ?_
        refine v_iload_n (pc := 29) 2 dX3_caughtOn_29 rfl ?_
        replace hf := bd_some hf; obtain ⟨r4, h5, hf⟩ := hf
        refine V_call (pc := 30) (us1 := [_, _]) [1] 1 (kX4_catchesOn (o := oa) hk1 h5) rfl rfl rfl rfl rfl hk1 (Nat.le_of_ble_eq_true rfl) rfl rfl rfl wm_RX3_65 md_X4_catchesOn (Nat.le_of_ble_eq_true rfl) (Nat.le_of_ble_eq_true rfl) rfl rfl (Nat.le_of_ble_eq_true rfl) dX3_caughtOn_30 ?_
        refine v_if_eq (pc := 33) 39 dX3_caughtOn_33 (by decide) (fun c6 => ?_) (fun c6 => ?_)
        · replace hf := it_t c6 hf
          refine v_iinc (pc := 39) 4 (l5 + (1 : Int32)) [(5, _), (1, _), (2, _), (3, _), (4, _)] dX3_caughtOn_39 rfl (congrArg (fun z => _ + z) ci_1) (Nat.le_of_ble_eq_true rfl) rfl ?_
          refine v_goto (pc := 42) 6 dX3_caughtOn_42 (by decide) ?_
          exact V_sub [1, 2, 3, 4, 0] rfl (hrec hf)
        · replace hf := it_f c6 hf
          refine v_iinc (pc := 36) 3 (l4 + (1 : Int32)) [(4, _), (1, _), (2, _), (3, _), (5, _)] dX3_caughtOn_36 rfl (congrArg (fun z => _ + z) ci_1) (Nat.le_of_ble_eq_true rfl) rfl ?_
          refine v_iinc (pc := 39) 4 (l5 + (1 : Int32)) [(5, _), (4, _), (1, _), (2, _), (3, _)] dX3_caughtOn_39 rfl (congrArg (fun z => _ + z) ci_1) (Nat.le_of_ble_eq_true rfl) rfl ?_
          refine v_goto (pc := 42) 6 dX3_caughtOn_42 (by decide) ?_
          exact V_sub [2, 3, 4, 1, 0] rfl (hrec hf)
set_option maxRecDepth 20000 in
theorem kX3_caughtOn {G : Wc} {o oa : Nat} {S : Ob} {Sa : Ob} {b : Int32} {c : Int32} {r : Int32} (hk0 : kd o = 3) (hk1 : kd oa = 4) (hf : pX3_caughtOn S Sa  b c = some r) : Cn yX3_caughtOn cX3_caughtOn 6 (some .int) 2 83 G [.ref (wA G o 0), .ref (wA G oa 0), .int b, .int c] [(o, S), (oa, Sa)] [(o, S), (oa, Sa)] (some (.int r)) := by
  refine V_method [(0, .ref (wA G o 0)), (1, .ref (wA G oa 0)), (2, .int b), (3, .int c)] (by decide) rfl (Nat.le_of_ble_eq_true rfl) rfl (fun Γ hF => ?_)
  unfold pX3_caughtOn at hf
  refine v_iconst (pc := 0) (0 : Int32) dX3_caughtOn_0 ci_0 ?_
  refine v_istore (pc := 1) [(4, _), (0, _), (1, _), (2, _), (3, _)] dX3_caughtOn_1 (Nat.le_of_ble_eq_true rfl) rfl ?_
  refine v_iconst (pc := 3) (0 : Int32) dX3_caughtOn_3 ci_0 ?_
  refine v_istore (pc := 4) [(5, _), (4, _), (0, _), (1, _), (2, _), (3, _)] dX3_caughtOn_4 (Nat.le_of_ble_eq_true rfl) rfl ?_
  replace hf := bd_some hf; obtain ⟨r7, h8, hf⟩ := hf
  refine V_sub [3, 4, 5, 1, 0] rfl (wX3_caughtOn_l6 hk0 hk1 fu h8 ?_)
  refine v_iload (pc := 45) 0 dX3_caughtOn_45 rfl ?_
  have hf2 := Option.some.inj hf; subst hf2
  exact V_iret (pc := 47) hF dX3_caughtOn_47
set_option maxRecDepth 20000 in
theorem wX3_daysToNest_j41 {G : Wc} {Γ : Cx} {o oa ob : Nat} {S : Ob} {Sa : Ob} {Sb : Ob} {l3 : Int32} {l4 : Int32} {l5 : Int32} {r : Int32} (hk0 : kd o = 3) (hk1 : kd oa = 4) (hk2 : kd ob = 6) {rec : Int32 → Int32 → Option (Int32)} (hrec : ∀ {l4 : Int32} {l5 : Int32}, rec l4 l5 = some r → V cX3_daysToNest RX3 3 108 6 G Γ [(o, S), (oa, Sa), (ob, Sb)] 11 [(0, .ref (wA G o 0)), (1, .ref (wA G oa 0)), (2, .ref (wA G ob 0)), (3, .int l3), (4, .int l4), (5, .int l5)] []) (hF : Fnl G Γ (some .int) (some (.int r)) (ov Γ.2.2.2 [(o, S), (oa, Sa), (ob, Sb)])) (hf : pX3_daysToNest_j41 rec S Sa Sb l3 l4 l5 = some r) : V cX3_daysToNest RX3 3 108 6 G Γ [(o, S), (oa, Sa), (ob, Sb)] 41 [(0, .ref (wA G o 0)), (1, .ref (wA G oa 0)), (2, .ref (wA G ob 0)), (3, .int l3), (4, .int l4), (5, .int l5)] [] := by
  unfold pX3_daysToNest_j41 at hf
  refine v_iload (pc := 41) 4 dX3_daysToNest_41 rfl ?_
  refine v_bipush (pc := 43) (8 : Int32) dX3_daysToNest_43 cb_8 ?_
  refine v_icmp_lt (pc := 45) 51 dX3_daysToNest_45 (by decide) (fun c4 => ?_) (fun c4 => ?_)
  · replace hf := it_t c4 hf
    refine v_iinc (pc := 51) 5 (l5 + (1 : Int32)) [(5, _), (0, _), (1, _), (2, _), (3, _), (4, _)] dX3_daysToNest_51 rfl (congrArg (fun z => _ + z) ci_1) (Nat.le_of_ble_eq_true rfl) rfl ?_
    refine v_goto (pc := 54) 11 dX3_daysToNest_54 (by decide) ?_
    exact V_sub [1, 2, 3, 4, 5, 0] rfl (hrec hf)
  · replace hf := it_f c4 hf
    refine v_iload (pc := 48) 5 dX3_daysToNest_48 rfl ?_
    have hf2 := Option.some.inj hf; subst hf2
    exact V_iret (pc := 50) hF dX3_daysToNest_50
set_option maxRecDepth 20000 in
theorem wX3_daysToNest_l11 {G : Wc} {Γ : Cx} {o oa ob : Nat} {S : Ob} {Sa : Ob} {Sb : Ob} {l3 : Int32} {r : Int32} (hk0 : kd o = 3) (hk1 : kd oa = 4) (hk2 : kd ob = 6) (hF : Fnl G Γ (some .int) (some (.int r)) (ov Γ.2.2.2 [(o, S), (oa, Sa), (ob, Sb)])) : ∀ (n : Nat) {l4 : Int32} {l5 : Int32}, pX3_daysToNest_l11  S Sa Sb l3 n l4 l5 = some r → V cX3_daysToNest RX3 3 108 6 G Γ [(o, S), (oa, Sa), (ob, Sb)] 11 [(0, .ref (wA G o 0)), (1, .ref (wA G oa 0)), (2, .ref (wA G ob 0)), (3, .int l3), (4, .int l4), (5, .int l5)] [] := by
  intro n
  induction n with
  | zero => intro l4 l5 hf; unfold pX3_daysToNest_l11 at hf; cases hf
  | succ n ih =>
    intro l4 l5 hf
    have hrec : ∀ {l4 : Int32} {l5 : Int32}, pX3_daysToNest_l11  S Sa Sb l3 n l4 l5 = some r → V cX3_daysToNest RX3 3 108 6 G Γ [(o, S), (oa, Sa), (ob, Sb)] 11 [(0, .ref (wA G o 0)), (1, .ref (wA G oa 0)), (2, .ref (wA G ob 0)), (3, .int l3), (4, .int l4), (5, .int l5)] [] := fun h => ih h
    clear ih
    unfold pX3_daysToNest_l11 at hf
    refine v_iload (pc := 11) 5 dX3_daysToNest_11 rfl ?_
    refine v_bipush (pc := 13) (99 : Int32) dX3_daysToNest_13 cb_99 ?_
    refine v_icmp_gt (pc := 15) 57 dX3_daysToNest_15 (by decide) (fun c2 => ?_) (fun c2 => ?_)
    · replace hf := it_t c2 hf
      refine v_iconst (pc := 57) (-1 : Int32) dX3_daysToNest_57 ci_m1 ?_
      have hf2 := Option.some.inj hf; subst hf2
      exact V_iret (pc := 58) hF dX3_daysToNest_58
    · replace hf := it_f c2 hf
      refine v_iload (pc := 18) 5 dX3_daysToNest_18 rfl ?_
      refine v_if_le (pc := 20) 41 dX3_daysToNest_20 (by decide) (fun c3 => ?_) (fun c3 => ?_)
      · replace hf := it_t c3 hf
        exact V_sub [0, 1, 2, 3, 4, 5] rfl (wX3_daysToNest_j41 hk0 hk1 hk2 hrec hF hf)
      · replace hf := it_f c3 hf
        refine v_iload (pc := 23) 4 dX3_daysToNest_23 rfl ?_
        refine v_aload_n (pc := 25) 0 dX3_daysToNest_25 rfl ?_
        refine v_aload_n (pc := 26) 1 dX3_daysToNest_26 rfl ?_
        refine v_iload_n (pc := 27) 3 dX3_daysToNest_27 rfl ?_
        refine v_aload_n (pc := 28) 2 dX3_daysToNest_28 rfl ?_
        refine gf_RX3_53 (pc := 29) 2 rfl hk2 dX3_daysToNest_29 ?_
        refine v_iload (pc := 32) 5 dX3_daysToNest_32 rfl ?_
        refine v_iadd (pc := 34) dX3_daysToNest_34 ?_
        replace hf := bd_some hf; obtain ⟨r5, h6, hf⟩ := hf
        refine V_call (pc := 35) (us1 := [_, _, _]) [0, 1] 0 (kX3_caughtOn (o := o) (oa := oa) hk0 hk1 h6) rfl rfl rfl rfl rfl hk0 (Nat.le_of_ble_eq_true rfl) rfl rfl rfl wm_RX3_56 md_X3_caughtOn (Nat.le_of_ble_eq_true rfl) (Nat.le_of_ble_eq_true rfl) rfl rfl (Nat.le_of_ble_eq_true rfl) dX3_daysToNest_35 ?_
        refine v_iadd (pc := 38) dX3_daysToNest_38 ?_
        refine v_istore (pc := 39) [(4, _), (0, _), (1, _), (2, _), (3, _), (5, _)] dX3_daysToNest_39 (Nat.le_of_ble_eq_true rfl) rfl ?_
        exact V_sub [1, 2, 3, 4, 0, 5] rfl (wX3_daysToNest_j41 hk0 hk1 hk2 hrec hF hf)
set_option maxRecDepth 20000 in
theorem kX3_daysToNest {G : Wc} {o oa ob : Nat} {S : Ob} {Sa : Ob} {Sb : Ob} {c : Int32} {r : Int32} (hk0 : kd o = 3) (hk1 : kd oa = 4) (hk2 : kd ob = 6) (hf : pX3_daysToNest S Sa Sb  c = some r) : Cn yX3_daysToNest cX3_daysToNest 6 (some .int) 3 108 G [.ref (wA G o 0), .ref (wA G oa 0), .ref (wA G ob 0), .int c] [(o, S), (oa, Sa), (ob, Sb)] [(o, S), (oa, Sa), (ob, Sb)] (some (.int r)) := by
  refine V_method [(0, .ref (wA G o 0)), (1, .ref (wA G oa 0)), (2, .ref (wA G ob 0)), (3, .int c)] (by decide) rfl (Nat.le_of_ble_eq_true rfl) rfl (fun Γ hF => ?_)
  unfold pX3_daysToNest at hf
  refine v_aload_n (pc := 0) 2 dX3_daysToNest_0 rfl ?_
  refine gf_RX3_38 (pc := 1) 2 rfl hk2 dX3_daysToNest_1 ?_
  refine v_iload_n (pc := 4) 3 dX3_daysToNest_4 rfl ?_
  replace hf := gd_some hf; obtain ⟨g1, hf⟩ := hf
  refine al_X6_1 (pc := 5) _ 2 rfl hk2 rfl g1 dX3_daysToNest_5 ?_
  refine v_istore (pc := 6) [(4, _), (0, _), (1, _), (2, _), (3, _)] dX3_daysToNest_6 (Nat.le_of_ble_eq_true rfl) rfl ?_
  refine v_iconst (pc := 8) (0 : Int32) dX3_daysToNest_8 ci_0 ?_
  refine v_istore (pc := 9) [(5, _), (4, _), (0, _), (1, _), (2, _), (3, _)] dX3_daysToNest_9 (Nat.le_of_ble_eq_true rfl) rfl ?_
  exact V_sub [2, 3, 4, 5, 1, 0] rfl (wX3_daysToNest_l11 hk0 hk1 hk2 hF fu hf)
set_option maxRecDepth 20000 in
theorem wX3_roundCost_l5 {G : Wc} {Γ : Cx} {o oa : Nat} {S : Ob} {Sa : Ob} {l2 : Int32} {r : Int32} (hk0 : kd o = 3) (hk1 : kd oa = 4) (hF : Fnl G Γ (some .int) (some (.int r)) (ov Γ.2.2.2 [(o, S), (oa, Sa)])) : ∀ (n : Nat) {l3 : Int32} {l4 : Int32}, pX3_roundCost_l5  S Sa l2 n l3 l4 = some r → V cX3_roundCost RX3 1 60 5 G Γ [(o, S), (oa, Sa)] 5 [(0, .ref (wA G o 0)), (1, .ref (wA G oa 0)), (2, .int l2), (3, .int l3), (4, .int l4)] [] := by
  intro n
  induction n with
  | zero => intro l3 l4 hf; unfold pX3_roundCost_l5 at hf; cases hf
  | succ n ih =>
    intro l3 l4 hf
    have hrec : ∀ {l3 : Int32} {l4 : Int32}, pX3_roundCost_l5  S Sa l2 n l3 l4 = some r → V cX3_roundCost RX3 1 60 5 G Γ [(o, S), (oa, Sa)] 5 [(0, .ref (wA G o 0)), (1, .ref (wA G oa 0)), (2, .int l2), (3, .int l3), (4, .int l4)] [] := fun h => ih h
    clear ih
    unfold pX3_roundCost_l5 at hf
    refine v_iload (pc := 5) 4 dX3_roundCost_5 rfl ?_
    refine v_aload_n (pc := 7) 1 dX3_roundCost_7 rfl ?_
    refine gf_RX3_69 (pc := 8) 1 rfl hk1 dX3_roundCost_8 ?_
    refine v_icmp_ge (pc := 11) 53 dX3_roundCost_11 (by decide) (fun c1 => ?_) (fun c1 => ?_)
    · replace hf := it_t c1 hf
      refine v_iload_n (pc := 53) 3 dX3_roundCost_53 rfl ?_
      have hf2 := Option.some.inj hf; subst hf2
      exact V_iret (pc := 54) hF dX3_roundCost_54
    · replace hf := it_f c1 hf
      refine v_iload_n (pc := 14) 2 dX3_roundCost_14 rfl ?_
      refine v_iload (pc := 15) 4 dX3_roundCost_15 rfl ?_
      refine v_ishr (pc := 17) dX3_roundCost_17 ?_
      refine v_iconst (pc := 18) (1 : Int32) dX3_roundCost_18 ci_1 ?_
      refine v_iand (pc := 19) dX3_roundCost_19 ?_
      refine v_iconst (pc := 20) (1 : Int32) dX3_roundCost_20 ci_1 ?_
      refine v_icmp_ne (pc := 21) 47 dX3_roundCost_21 (by decide) (fun c2 => ?_) (fun c2 => ?_)
      · replace hf := it_f c2 hf
        refine v_iinc (pc := 47) 4 (l4 + (1 : Int32)) [(4, _), (0, _), (1, _), (2, _), (3, _)] dX3_roundCost_47 rfl (congrArg (fun z => _ + z) ci_1) (Nat.le_of_ble_eq_true rfl) rfl ?_
        refine v_goto (pc := 50) 5 dX3_roundCost_50 (by decide) ?_
        exact V_sub [1, 2, 3, 4, 0] rfl (hrec hf)
      · replace hf := it_t c2 hf
        refine v_aload_n (pc := 24) 0 dX3_roundCost_24 rfl ?_
        refine gf_RX3_21 (pc := 25) 0 rfl hk0 dX3_roundCost_25 ?_
        refine v_iload (pc := 28) 4 dX3_roundCost_28 rfl ?_
        replace hf := gd_some hf; obtain ⟨g3, hf⟩ := hf
        refine al_X3_6 (pc := 30) _ 0 rfl hk0 rfl g3 dX3_roundCost_30 ?_
        refine v_iconst (pc := 31) (-1 : Int32) dX3_roundCost_31 ci_m1 ?_
        refine v_icmp_ne (pc := 32) 37 dX3_roundCost_32 (by decide) (fun c4 => ?_) (fun c4 => ?_)
        · replace hf := it_f c4 hf
          refine v_iload_n (pc := 37) 3 dX3_roundCost_37 rfl ?_
          refine v_aload_n (pc := 38) 0 dX3_roundCost_38 rfl ?_
          refine gf_RX3_21 (pc := 39) 0 rfl hk0 dX3_roundCost_39 ?_
          refine v_iload (pc := 42) 4 dX3_roundCost_42 rfl ?_
          replace hf := gd_some hf; obtain ⟨g5, hf⟩ := hf
          refine al_X3_6 (pc := 44) _ 0 rfl hk0 rfl g5 dX3_roundCost_44 ?_
          refine v_iadd (pc := 45) dX3_roundCost_45 ?_
          refine v_istore_n (pc := 46) [(3, _), (0, _), (1, _), (2, _), (4, _)] dX3_roundCost_46 (Nat.le_of_ble_eq_true rfl) rfl ?_
          refine v_iinc (pc := 47) 4 (l4 + (1 : Int32)) [(4, _), (3, _), (0, _), (1, _), (2, _)] dX3_roundCost_47 rfl (congrArg (fun z => _ + z) ci_1) (Nat.le_of_ble_eq_true rfl) rfl ?_
          refine v_goto (pc := 50) 5 dX3_roundCost_50 (by decide) ?_
          exact V_sub [2, 3, 4, 1, 0] rfl (hrec hf)
        · replace hf := it_t c4 hf
          refine v_iconst (pc := 35) (-1 : Int32) dX3_roundCost_35 ci_m1 ?_
          have hf2 := Option.some.inj hf; subst hf2
          exact V_iret (pc := 36) hF dX3_roundCost_36
set_option maxRecDepth 20000 in
theorem kX3_roundCost {G : Wc} {o oa : Nat} {S : Ob} {Sa : Ob} {b : Int32} {r : Int32} (hk0 : kd o = 3) (hk1 : kd oa = 4) (hf : pX3_roundCost S Sa  b = some r) : Cn yX3_roundCost cX3_roundCost 5 (some .int) 1 60 G [.ref (wA G o 0), .ref (wA G oa 0), .int b] [(o, S), (oa, Sa)] [(o, S), (oa, Sa)] (some (.int r)) := by
  refine V_method [(0, .ref (wA G o 0)), (1, .ref (wA G oa 0)), (2, .int b)] (by decide) rfl (Nat.le_of_ble_eq_true rfl) rfl (fun Γ hF => ?_)
  unfold pX3_roundCost at hf
  refine v_iconst (pc := 0) (0 : Int32) dX3_roundCost_0 ci_0 ?_
  refine v_istore_n (pc := 1) [(3, _), (0, _), (1, _), (2, _)] dX3_roundCost_1 (Nat.le_of_ble_eq_true rfl) rfl ?_
  refine v_iconst (pc := 2) (0 : Int32) dX3_roundCost_2 ci_0 ?_
  refine v_istore (pc := 3) [(4, _), (3, _), (0, _), (1, _), (2, _)] dX3_roundCost_3 (Nat.le_of_ble_eq_true rfl) rfl ?_
  exact V_sub [2, 3, 4, 1, 0] rfl (wX3_roundCost_l5 hk0 hk1 hF fu hf)
set_option maxRecDepth 20000 in
theorem kJ6_bitCount_0f7a4 {G : Wc}  {a : Int32} {r : Int32}  (hf : pJ6_bitCount_0f7a4   a = some r) : Cn yJ6_bitCount_0f7a4 cJ6_bitCount_0f7a4 1 (some .int) 1 60 G [.int a] [] [] (some (.int r)) := by
  refine V_method [(0, .int a)] (by decide) rfl (Nat.le_of_ble_eq_true rfl) rfl (fun Γ hF => ?_)
  unfold pJ6_bitCount_0f7a4 at hf
  refine v_iload_n (pc := 0) 0 dJ6_bitCount_0f7a4_0 rfl ?_
  refine v_iload_n (pc := 1) 0 dJ6_bitCount_0f7a4_1 rfl ?_
  refine v_iconst (pc := 2) (1 : Int32) dJ6_bitCount_0f7a4_2 ci_1 ?_
  refine v_iushr (pc := 3) dJ6_bitCount_0f7a4_3 ?_
  refine v_ldc_w (pc := 4) dJ6_bitCount_0f7a4_4 wc_RJ6_265 ?_
  refine v_iand (pc := 7) dJ6_bitCount_0f7a4_7 ?_
  refine v_isub (pc := 8) dJ6_bitCount_0f7a4_8 ?_
  refine v_istore_n (pc := 9) [(0, _)] dJ6_bitCount_0f7a4_9 (Nat.le_of_ble_eq_true rfl) rfl ?_
  refine v_iload_n (pc := 10) 0 dJ6_bitCount_0f7a4_10 rfl ?_
  refine v_ldc_w (pc := 11) dJ6_bitCount_0f7a4_11 wc_RJ6_266 ?_
  refine v_iand (pc := 14) dJ6_bitCount_0f7a4_14 ?_
  refine v_iload_n (pc := 15) 0 dJ6_bitCount_0f7a4_15 rfl ?_
  refine v_iconst (pc := 16) (2 : Int32) dJ6_bitCount_0f7a4_16 ci_2 ?_
  refine v_iushr (pc := 17) dJ6_bitCount_0f7a4_17 ?_
  refine v_ldc_w (pc := 18) dJ6_bitCount_0f7a4_18 wc_RJ6_266 ?_
  refine v_iand (pc := 21) dJ6_bitCount_0f7a4_21 ?_
  refine v_iadd (pc := 22) dJ6_bitCount_0f7a4_22 ?_
  refine v_istore_n (pc := 23) [(0, _)] dJ6_bitCount_0f7a4_23 (Nat.le_of_ble_eq_true rfl) rfl ?_
  refine v_iload_n (pc := 24) 0 dJ6_bitCount_0f7a4_24 rfl ?_
  refine v_iload_n (pc := 25) 0 dJ6_bitCount_0f7a4_25 rfl ?_
  refine v_iconst (pc := 26) (4 : Int32) dJ6_bitCount_0f7a4_26 ci_4 ?_
  refine v_iushr (pc := 27) dJ6_bitCount_0f7a4_27 ?_
  refine v_iadd (pc := 28) dJ6_bitCount_0f7a4_28 ?_
  refine v_ldc_w (pc := 29) dJ6_bitCount_0f7a4_29 wc_RJ6_267 ?_
  refine v_iand (pc := 32) dJ6_bitCount_0f7a4_32 ?_
  refine v_istore_n (pc := 33) [(0, _)] dJ6_bitCount_0f7a4_33 (Nat.le_of_ble_eq_true rfl) rfl ?_
  refine v_iload_n (pc := 34) 0 dJ6_bitCount_0f7a4_34 rfl ?_
  refine v_iload_n (pc := 35) 0 dJ6_bitCount_0f7a4_35 rfl ?_
  refine v_bipush (pc := 36) (8 : Int32) dJ6_bitCount_0f7a4_36 cb_8 ?_
  refine v_iushr (pc := 38) dJ6_bitCount_0f7a4_38 ?_
  refine v_iadd (pc := 39) dJ6_bitCount_0f7a4_39 ?_
  refine v_istore_n (pc := 40) [(0, _)] dJ6_bitCount_0f7a4_40 (Nat.le_of_ble_eq_true rfl) rfl ?_
  refine v_iload_n (pc := 41) 0 dJ6_bitCount_0f7a4_41 rfl ?_
  refine v_iload_n (pc := 42) 0 dJ6_bitCount_0f7a4_42 rfl ?_
  refine v_bipush (pc := 43) (16 : Int32) dJ6_bitCount_0f7a4_43 cb_16 ?_
  refine v_iushr (pc := 45) dJ6_bitCount_0f7a4_45 ?_
  refine v_iadd (pc := 46) dJ6_bitCount_0f7a4_46 ?_
  refine v_istore_n (pc := 47) [(0, _)] dJ6_bitCount_0f7a4_47 (Nat.le_of_ble_eq_true rfl) rfl ?_
  refine v_iload_n (pc := 48) 0 dJ6_bitCount_0f7a4_48 rfl ?_
  refine v_bipush (pc := 49) (63 : Int32) dJ6_bitCount_0f7a4_49 cb_63 ?_
  refine v_iand (pc := 51) dJ6_bitCount_0f7a4_51 ?_
  have hf2 := Option.some.inj hf; subst hf2
  exact V_iret (pc := 52) hF dJ6_bitCount_0f7a4_52
