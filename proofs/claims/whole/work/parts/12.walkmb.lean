set_option maxRecDepth 20000 in
theorem kX11_readDaily {G : Wc} {o : Nat} {S : Ob}  {r : Int32 × Ob} (hk0 : kd o = 10) (hf : pX11_readDaily S   = some r) : Cn yX11_readDaily cX11_readDaily 2 (some .boolean) 5 148 G [.ref (wA G o 0)] [(o, S)] [(o, r.2)] (some (.int r.1)) := by
  refine V_method [(0, .ref (wA G o 0))] (by decide) rfl (Nat.le_of_ble_eq_true rfl) rfl (fun Γ hF => ?_)
  unfold pX11_readDaily at hf
  refine v_aload_n (pc := 0) 0 dX11_readDaily_0 rfl ?_
  refine gf_RX11_37 (pc := 1) 0 rfl hk0 dX11_readDaily_1 ?_
  refine v_iconst (pc := 4) (2 : Int32) dX11_readDaily_4 ci_2 ?_
  refine al_X11_7 (pc := 5) 2 0 rfl hk0 rfl ib_2_121 dX11_readDaily_5 ?_
  refine v_istore_n (pc := 6) [(1, _), (0, _)] dX11_readDaily_6 (Nat.le_of_ble_eq_true rfl) rfl ?_
  refine v_iload_n (pc := 7) 0 dX11_readDaily_7 rfl ?_
  refine v_bipush (pc := 8) (12 : Int32) dX11_readDaily_8 cb_12 ?_
  refine v_icmp_ne (pc := 10) 19 dX11_readDaily_10 (by decide) (fun c1 => ?_) (fun c1 => ?_)
  · replace hf := it_f c1 hf
    refine v_aload_n (pc := 19) 1 dX11_readDaily_19 rfl ?_
    replace hf := bd_some hf; obtain ⟨r2, h3, hf⟩ := hf
    refine V_call (pc := 20) (us1 := [_]) [0] 0 (kX11_next (o := o) hk0 h3) rfl rfl rfl rfl rfl hk0 (Nat.le_of_ble_eq_true rfl) rfl rfl rfl wm_RX11_173 md_X11_next (Nat.le_of_ble_eq_true rfl) (Nat.le_of_ble_eq_true rfl) rfl rfl (Nat.le_of_ble_eq_true rfl) dX11_readDaily_20 ?_
    refine v_aload_n (pc := 23) 1 dX11_readDaily_23 rfl ?_
    refine v_bipush (pc := 24) (26 : Int32) dX11_readDaily_24 cb_26 ?_
    refine v_aload_n (pc := 26) 1 dX11_readDaily_26 rfl ?_
    refine gf_RX11_37 (pc := 27) 0 rfl hk0 dX11_readDaily_27 ?_
    refine v_iconst (pc := 30) (1 : Int32) dX11_readDaily_30 ci_1 ?_
    refine al_X11_7 (pc := 31) 1 0 rfl hk0 rfl ib_1_121 dX11_readDaily_31 ?_
    replace hf := bd_some hf; obtain ⟨r4, h5, hf⟩ := hf
    refine V_call (pc := 32) (us1 := [_]) [0] 0 (kX11_takesName (o := o) hk0 h5) rfl rfl rfl rfl rfl hk0 (Nat.le_of_ble_eq_true rfl) rfl rfl rfl wm_RX11_227 md_X11_takesName (Nat.le_of_ble_eq_true rfl) (Nat.le_of_ble_eq_true rfl) rfl rfl (Nat.le_of_ble_eq_true rfl) dX11_readDaily_32 ?_
    refine v_if_ne (pc := 35) 40 dX11_readDaily_35 (by decide) (fun c6 => ?_) (fun c6 => ?_)
    · replace hf := it_f c6 hf
      refine v_aload_n (pc := 40) 1 dX11_readDaily_40 rfl ?_
      refine gf_RX11_37 (pc := 41) 0 rfl hk0 dX11_readDaily_41 ?_
      refine v_bipush (pc := 44) (81 : Int32) dX11_readDaily_44 cb_81 ?_
      refine v_iload_n (pc := 46) 0 dX11_readDaily_46 rfl ?_
      refine v_iadd (pc := 47) dX11_readDaily_47 ?_
      refine v_aload_n (pc := 48) 1 dX11_readDaily_48 rfl ?_
      refine gf_RX11_180 (pc := 49) 0 rfl hk0 dX11_readDaily_49 ?_
      replace hf := gd_some hf; obtain ⟨g7, hf⟩ := hf
      refine as_X11_7 (pc := 52) [_] _ 0 rfl hk0 rfl g7 rfl dX11_readDaily_52 ?_
      refine v_aload_n (pc := 53) 1 dX11_readDaily_53 rfl ?_
      refine v_bipush (pc := 54) (18 : Int32) dX11_readDaily_54 cb_18 ?_
      refine v_aload_n (pc := 56) 1 dX11_readDaily_56 rfl ?_
      refine gf_RX11_37 (pc := 57) 0 rfl hk0 dX11_readDaily_57 ?_
      refine v_iconst (pc := 60) (0 : Int32) dX11_readDaily_60 ci_0 ?_
      refine al_X11_7 (pc := 61) 0 0 rfl hk0 rfl ib_0_121 dX11_readDaily_61 ?_
      replace hf := bd_some hf; obtain ⟨r8, h9, hf⟩ := hf
      refine V_call (pc := 62) (us1 := [_]) [0] 0 (kX11_takesName (o := o) hk0 h9) rfl rfl rfl rfl rfl hk0 (Nat.le_of_ble_eq_true rfl) rfl rfl rfl wm_RX11_227 md_X11_takesName (Nat.le_of_ble_eq_true rfl) (Nat.le_of_ble_eq_true rfl) rfl rfl (Nat.le_of_ble_eq_true rfl) dX11_readDaily_62 ?_
      refine v_if_ne (pc := 65) 70 dX11_readDaily_65 (by decide) (fun c10 => ?_) (fun c10 => ?_)
      · replace hf := it_f c10 hf
        refine v_aload_n (pc := 70) 1 dX11_readDaily_70 rfl ?_
        refine gf_RX11_37 (pc := 71) 0 rfl hk0 dX11_readDaily_71 ?_
        refine v_bipush (pc := 74) (93 : Int32) dX11_readDaily_74 cb_93 ?_
        refine v_iload_n (pc := 76) 0 dX11_readDaily_76 rfl ?_
        refine v_iadd (pc := 77) dX11_readDaily_77 ?_
        refine v_aload_n (pc := 78) 1 dX11_readDaily_78 rfl ?_
        refine gf_RX11_180 (pc := 79) 0 rfl hk0 dX11_readDaily_79 ?_
        replace hf := gd_some hf; obtain ⟨g11, hf⟩ := hf
        refine as_X11_7 (pc := 82) [_] _ 0 rfl hk0 rfl g11 rfl dX11_readDaily_82 ?_
        refine v_aload_n (pc := 83) 1 dX11_readDaily_83 rfl ?_
        refine v_bipush (pc := 84) (105 : Int32) dX11_readDaily_84 cb_105 ?_
        refine v_iload_n (pc := 86) 0 dX11_readDaily_86 rfl ?_
        refine v_iadd (pc := 87) dX11_readDaily_87 ?_
        refine v_iconst (pc := 88) (1 : Int32) dX11_readDaily_88 ci_1 ?_
        refine v_bipush (pc := 89) (9 : Int32) dX11_readDaily_89 cb_9 ?_
        replace hf := bd_some hf; obtain ⟨r12, h13, hf⟩ := hf
        refine V_call (pc := 91) (us1 := [_]) [0] 0 (kX11_puts (o := o) hk0 h13) rfl rfl rfl rfl rfl hk0 (Nat.le_of_ble_eq_true rfl) rfl rfl rfl wm_RX11_221 md_X11_puts (Nat.le_of_ble_eq_true rfl) (Nat.le_of_ble_eq_true rfl) rfl rfl (Nat.le_of_ble_eq_true rfl) dX11_readDaily_91 ?_
        refine v_if_ne (pc := 94) 99 dX11_readDaily_94 (by decide) (fun c14 => ?_) (fun c14 => ?_)
        · replace hf := it_f c14 hf
          refine v_aload_n (pc := 99) 1 dX11_readDaily_99 rfl ?_
          refine gf_RX11_37 (pc := 100) 0 rfl hk0 dX11_readDaily_100 ?_
          refine v_iconst (pc := 103) (2 : Int32) dX11_readDaily_103 ci_2 ?_
          refine v_dup2 (pc := 104) dX11_readDaily_104 rfl rfl ?_
          refine al_X11_7 (pc := 105) 2 0 rfl hk0 rfl ib_2_121 dX11_readDaily_105 ?_
          refine v_iconst (pc := 106) (1 : Int32) dX11_readDaily_106 ci_1 ?_
          refine v_iadd (pc := 107) dX11_readDaily_107 ?_
          refine as_X11_7 (pc := 108) [_] 2 0 rfl hk0 rfl ib_2_121 rfl dX11_readDaily_108 ?_
          refine v_iconst (pc := 109) (1 : Int32) dX11_readDaily_109 ci_1 ?_
          have hf2 := Option.some.inj hf; subst hf2
          exact V_zret (pc := 110) hF rfl dX11_readDaily_110
        · replace hf := it_t c14 hf
          refine v_iconst (pc := 97) (0 : Int32) dX11_readDaily_97 ci_0 ?_
          have hf2 := Option.some.inj hf; subst hf2
          exact V_zret (pc := 98) hF rfl dX11_readDaily_98
      · replace hf := it_t c10 hf
        refine v_iconst (pc := 68) (0 : Int32) dX11_readDaily_68 ci_0 ?_
        have hf2 := Option.some.inj hf; subst hf2
        exact V_zret (pc := 69) hF rfl dX11_readDaily_69
    · replace hf := it_t c6 hf
      refine v_iconst (pc := 38) (0 : Int32) dX11_readDaily_38 ci_0 ?_
      have hf2 := Option.some.inj hf; subst hf2
      exact V_zret (pc := 39) hF rfl dX11_readDaily_39
  · replace hf := it_t c1 hf
    refine v_aload_n (pc := 13) 1 dX11_readDaily_13 rfl ?_
    refine v_iconst (pc := 14) (4 : Int32) dX11_readDaily_14 ci_4 ?_
    replace hf := bd_some hf; obtain ⟨r15, h16, hf⟩ := hf
    refine V_call (pc := 15) (us1 := [_]) [0] 0 (kX11_bad (o := o) hk0 h16) rfl rfl rfl rfl rfl hk0 (Nat.le_of_ble_eq_true rfl) rfl rfl rfl wm_RX11_170 md_X11_bad (Nat.le_of_ble_eq_true rfl) (Nat.le_of_ble_eq_true rfl) rfl rfl (Nat.le_of_ble_eq_true rfl) dX11_readDaily_15 ?_
    replace hf := gd_some hf; obtain ⟨g17, hf⟩ := hf
    have hf2 := Option.some.inj hf; subst hf2
    exact V_zret (pc := 18) hF g17 dX11_readDaily_18
set_option maxRecDepth 20000 in
theorem kX11_readCaught {G : Wc} {o : Nat} {S : Ob}  {r : Int32 × Ob} (hk0 : kd o = 10) (hf : pX11_readCaught S   = some r) : Cn yX11_readCaught cX11_readCaught 2 (some .boolean) 4 127 G [.ref (wA G o 0)] [(o, S)] [(o, r.2)] (some (.int r.1)) := by
  refine V_method [(0, .ref (wA G o 0))] (by decide) rfl (Nat.le_of_ble_eq_true rfl) rfl (fun Γ hF => ?_)
  unfold pX11_readCaught at hf
  refine v_aload_n (pc := 0) 0 dX11_readCaught_0 rfl ?_
  replace hf := bd_some hf; obtain ⟨r1, h2, hf⟩ := hf
  refine V_call (pc := 1) (us1 := [_]) [0] 0 (kX11_next (o := o) hk0 h2) rfl rfl rfl rfl rfl hk0 (Nat.le_of_ble_eq_true rfl) rfl rfl rfl wm_RX11_173 md_X11_next (Nat.le_of_ble_eq_true rfl) (Nat.le_of_ble_eq_true rfl) rfl rfl (Nat.le_of_ble_eq_true rfl) dX11_readCaught_1 ?_
  refine v_aload_n (pc := 4) 0 dX11_readCaught_4 rfl ?_
  refine v_bipush (pc := 5) (26 : Int32) dX11_readCaught_5 cb_26 ?_
  refine v_aload_n (pc := 7) 0 dX11_readCaught_7 rfl ?_
  refine gf_RX11_37 (pc := 8) 0 rfl hk0 dX11_readCaught_8 ?_
  refine v_iconst (pc := 11) (1 : Int32) dX11_readCaught_11 ci_1 ?_
  refine al_X11_7 (pc := 12) 1 0 rfl hk0 rfl ib_1_121 dX11_readCaught_12 ?_
  replace hf := bd_some hf; obtain ⟨r3, h4, hf⟩ := hf
  refine V_call (pc := 13) (us1 := [_]) [0] 0 (kX11_looksAt (o := o) hk0 h4) rfl rfl rfl rfl rfl hk0 (Nat.le_of_ble_eq_true rfl) rfl rfl rfl wm_RX11_195 md_X11_looksAt (Nat.le_of_ble_eq_true rfl) (Nat.le_of_ble_eq_true rfl) rfl rfl (Nat.le_of_ble_eq_true rfl) dX11_readCaught_13 ?_
  refine v_if_ne (pc := 16) 21 dX11_readCaught_16 (by decide) (fun c5 => ?_) (fun c5 => ?_)
  · replace hf := it_f c5 hf
    refine v_aload_n (pc := 21) 0 dX11_readCaught_21 rfl ?_
    refine gf_RX11_180 (pc := 22) 0 rfl hk0 dX11_readCaught_22 ?_
    refine v_istore_n (pc := 25) [(1, _), (0, _)] dX11_readCaught_25 (Nat.le_of_ble_eq_true rfl) rfl ?_
    refine v_aload_n (pc := 26) 1 dX11_readCaught_26 rfl ?_
    refine gf_RX11_37 (pc := 27) 0 rfl hk0 dX11_readCaught_27 ?_
    refine v_bipush (pc := 30) (27 : Int32) dX11_readCaught_30 cb_27 ?_
    refine v_iload_n (pc := 32) 0 dX11_readCaught_32 rfl ?_
    refine v_iadd (pc := 33) dX11_readCaught_33 ?_
    replace hf := gd_some hf; obtain ⟨g6, hf⟩ := hf
    refine al_X11_7 (pc := 34) _ 0 rfl hk0 rfl g6 dX11_readCaught_34 ?_
    refine v_bipush (pc := 35) (8 : Int32) dX11_readCaught_35 cb_8 ?_
    refine v_icmp_ne (pc := 37) 46 dX11_readCaught_37 (by decide) (fun c7 => ?_) (fun c7 => ?_)
    · replace hf := it_f c7 hf
      refine v_aload_n (pc := 46) 1 dX11_readCaught_46 rfl ?_
      replace hf := bd_some hf; obtain ⟨r8, h9, hf⟩ := hf
      refine V_call (pc := 47) (us1 := [_]) [0] 0 (kX11_next (o := o) hk0 h9) rfl rfl rfl rfl rfl hk0 (Nat.le_of_ble_eq_true rfl) rfl rfl rfl wm_RX11_173 md_X11_next (Nat.le_of_ble_eq_true rfl) (Nat.le_of_ble_eq_true rfl) rfl rfl (Nat.le_of_ble_eq_true rfl) dX11_readCaught_47 ?_
      refine v_aload_n (pc := 50) 1 dX11_readCaught_50 rfl ?_
      refine v_bipush (pc := 51) (18 : Int32) dX11_readCaught_51 cb_18 ?_
      refine v_aload_n (pc := 53) 1 dX11_readCaught_53 rfl ?_
      refine gf_RX11_37 (pc := 54) 0 rfl hk0 dX11_readCaught_54 ?_
      refine v_iconst (pc := 57) (0 : Int32) dX11_readCaught_57 ci_0 ?_
      refine al_X11_7 (pc := 58) 0 0 rfl hk0 rfl ib_0_121 dX11_readCaught_58 ?_
      replace hf := bd_some hf; obtain ⟨r10, h11, hf⟩ := hf
      refine V_call (pc := 59) (us1 := [_]) [0] 0 (kX11_takesName (o := o) hk0 h11) rfl rfl rfl rfl rfl hk0 (Nat.le_of_ble_eq_true rfl) rfl rfl rfl wm_RX11_227 md_X11_takesName (Nat.le_of_ble_eq_true rfl) (Nat.le_of_ble_eq_true rfl) rfl rfl (Nat.le_of_ble_eq_true rfl) dX11_readCaught_59 ?_
      refine v_if_ne (pc := 62) 67 dX11_readCaught_62 (by decide) (fun c12 => ?_) (fun c12 => ?_)
      · replace hf := it_f c12 hf
        refine v_aload_n (pc := 67) 1 dX11_readCaught_67 rfl ?_
        refine gf_RX11_37 (pc := 68) 0 rfl hk0 dX11_readCaught_68 ?_
        refine v_bipush (pc := 71) (33 : Int32) dX11_readCaught_71 cb_33 ?_
        refine v_bipush (pc := 73) (8 : Int32) dX11_readCaught_73 cb_8 ?_
        refine v_iload_n (pc := 75) 0 dX11_readCaught_75 rfl ?_
        refine v_imul (pc := 76) dX11_readCaught_76 ?_
        refine v_iadd (pc := 77) dX11_readCaught_77 ?_
        refine v_aload_n (pc := 78) 1 dX11_readCaught_78 rfl ?_
        refine gf_RX11_37 (pc := 79) 0 rfl hk0 dX11_readCaught_79 ?_
        refine v_bipush (pc := 82) (27 : Int32) dX11_readCaught_82 cb_27 ?_
        refine v_iload_n (pc := 84) 0 dX11_readCaught_84 rfl ?_
        refine v_iadd (pc := 85) dX11_readCaught_85 ?_
        replace hf := gd_some hf; obtain ⟨g13, hf⟩ := hf
        refine al_X11_7 (pc := 86) _ 0 rfl hk0 rfl g13 dX11_readCaught_86 ?_
        refine v_iadd (pc := 87) dX11_readCaught_87 ?_
        refine v_aload_n (pc := 88) 1 dX11_readCaught_88 rfl ?_
        refine gf_RX11_180 (pc := 89) 0 rfl hk0 dX11_readCaught_89 ?_
        replace hf := gd_some hf; obtain ⟨g14, hf⟩ := hf
        refine as_X11_7 (pc := 92) [_] _ 0 rfl hk0 rfl g14 rfl dX11_readCaught_92 ?_
        refine v_aload_n (pc := 93) 1 dX11_readCaught_93 rfl ?_
        refine gf_RX11_37 (pc := 94) 0 rfl hk0 dX11_readCaught_94 ?_
        refine v_bipush (pc := 97) (27 : Int32) dX11_readCaught_97 cb_27 ?_
        refine v_iload_n (pc := 99) 0 dX11_readCaught_99 rfl ?_
        refine v_iadd (pc := 100) dX11_readCaught_100 ?_
        refine v_dup2 (pc := 101) dX11_readCaught_101 rfl rfl ?_
        replace hf := gd_some hf; obtain ⟨g15, hf⟩ := hf
        refine al_X11_7 (pc := 102) _ 0 rfl hk0 rfl g15 dX11_readCaught_102 ?_
        refine v_iconst (pc := 103) (1 : Int32) dX11_readCaught_103 ci_1 ?_
        refine v_iadd (pc := 104) dX11_readCaught_104 ?_
        replace hf := gd_some hf; obtain ⟨g16, hf⟩ := hf
        refine as_X11_7 (pc := 105) [_] _ 0 rfl hk0 rfl g16 rfl dX11_readCaught_105 ?_
        refine v_iconst (pc := 106) (1 : Int32) dX11_readCaught_106 ci_1 ?_
        have hf2 := Option.some.inj hf; subst hf2
        exact V_zret (pc := 107) hF rfl dX11_readCaught_107
      · replace hf := it_t c12 hf
        refine v_iconst (pc := 65) (0 : Int32) dX11_readCaught_65 ci_0 ?_
        have hf2 := Option.some.inj hf; subst hf2
        exact V_zret (pc := 66) hF rfl dX11_readCaught_66
    · replace hf := it_t c7 hf
      refine v_aload_n (pc := 40) 1 dX11_readCaught_40 rfl ?_
      refine v_iconst (pc := 41) (4 : Int32) dX11_readCaught_41 ci_4 ?_
      replace hf := bd_some hf; obtain ⟨r17, h18, hf⟩ := hf
      refine V_call (pc := 42) (us1 := [_]) [0] 0 (kX11_bad (o := o) hk0 h18) rfl rfl rfl rfl rfl hk0 (Nat.le_of_ble_eq_true rfl) rfl rfl rfl wm_RX11_170 md_X11_bad (Nat.le_of_ble_eq_true rfl) (Nat.le_of_ble_eq_true rfl) rfl rfl (Nat.le_of_ble_eq_true rfl) dX11_readCaught_42 ?_
      replace hf := gd_some hf; obtain ⟨g19, hf⟩ := hf
      have hf2 := Option.some.inj hf; subst hf2
      exact V_zret (pc := 45) hF g19 dX11_readCaught_45
  · replace hf := it_t c5 hf
    refine v_iconst (pc := 19) (0 : Int32) dX11_readCaught_19 ci_0 ?_
    have hf2 := Option.some.inj hf; subst hf2
    exact V_zret (pc := 20) hF rfl dX11_readCaught_20
set_option maxRecDepth 20000 in
theorem kX11_readPerson {G : Wc} {o : Nat} {S : Ob}  {r : Int32 × Ob} (hk0 : kd o = 10) (hf : pX11_readPerson S   = some r) : Cn yX11_readPerson cX11_readPerson 2 (some .boolean) 5 148 G [.ref (wA G o 0)] [(o, S)] [(o, r.2)] (some (.int r.1)) := by
  refine V_method [(0, .ref (wA G o 0))] (by decide) rfl (Nat.le_of_ble_eq_true rfl) rfl (fun Γ hF => ?_)
  unfold pX11_readPerson at hf
  refine v_aload_n (pc := 0) 0 dX11_readPerson_0 rfl ?_
  refine gf_RX11_37 (pc := 1) 0 rfl hk0 dX11_readPerson_1 ?_
  refine v_iconst (pc := 4) (1 : Int32) dX11_readPerson_4 ci_1 ?_
  refine al_X11_7 (pc := 5) 1 0 rfl hk0 rfl ib_1_121 dX11_readPerson_5 ?_
  refine v_istore_n (pc := 6) [(1, _), (0, _)] dX11_readPerson_6 (Nat.le_of_ble_eq_true rfl) rfl ?_
  refine v_iload_n (pc := 7) 0 dX11_readPerson_7 rfl ?_
  refine v_bipush (pc := 8) (6 : Int32) dX11_readPerson_8 cb_6 ?_
  refine v_icmp_ne (pc := 10) 19 dX11_readPerson_10 (by decide) (fun c1 => ?_) (fun c1 => ?_)
  · replace hf := it_f c1 hf
    refine v_aload_n (pc := 19) 1 dX11_readPerson_19 rfl ?_
    replace hf := bd_some hf; obtain ⟨r2, h3, hf⟩ := hf
    refine V_call (pc := 20) (us1 := [_]) [0] 0 (kX11_next (o := o) hk0 h3) rfl rfl rfl rfl rfl hk0 (Nat.le_of_ble_eq_true rfl) rfl rfl rfl wm_RX11_173 md_X11_next (Nat.le_of_ble_eq_true rfl) (Nat.le_of_ble_eq_true rfl) rfl rfl (Nat.le_of_ble_eq_true rfl) dX11_readPerson_20 ?_
    refine v_aload_n (pc := 23) 1 dX11_readPerson_23 rfl ?_
    refine v_bipush (pc := 24) (26 : Int32) dX11_readPerson_24 cb_26 ?_
    refine v_iload_n (pc := 26) 0 dX11_readPerson_26 rfl ?_
    refine v_iadd (pc := 27) dX11_readPerson_27 ?_
    replace hf := bd_some hf; obtain ⟨r4, h5, hf⟩ := hf
    refine V_call (pc := 28) (us1 := [_]) [0] 0 (kX11_fresh (o := o) hk0 h5) rfl rfl rfl rfl rfl hk0 (Nat.le_of_ble_eq_true rfl) rfl rfl rfl wm_RX11_224 md_X11_fresh (Nat.le_of_ble_eq_true rfl) (Nat.le_of_ble_eq_true rfl) rfl rfl (Nat.le_of_ble_eq_true rfl) dX11_readPerson_28 ?_
    refine v_if_eq (pc := 31) 48 dX11_readPerson_31 (by decide) (fun c6 => ?_) (fun c6 => ?_)
    · replace hf := it_t c6 hf
      refine v_iconst (pc := 48) (0 : Int32) dX11_readPerson_48 ci_0 ?_
      have hf2 := Option.some.inj hf; subst hf2
      exact V_zret (pc := 49) hF rfl dX11_readPerson_49
    · replace hf := it_f c6 hf
      refine v_aload_n (pc := 34) 1 dX11_readPerson_34 rfl ?_
      refine v_bipush (pc := 35) (21 : Int32) dX11_readPerson_35 cb_21 ?_
      refine v_iload_n (pc := 37) 0 dX11_readPerson_37 rfl ?_
      refine v_iadd (pc := 38) dX11_readPerson_38 ?_
      refine v_iconst (pc := 39) (1 : Int32) dX11_readPerson_39 ci_1 ?_
      refine v_bipush (pc := 40) (99 : Int32) dX11_readPerson_40 cb_99 ?_
      replace hf := bd_some hf; obtain ⟨r7, h8, hf⟩ := hf
      refine V_call (pc := 42) (us1 := [_]) [0] 0 (kX11_puts (o := o) hk0 h8) rfl rfl rfl rfl rfl hk0 (Nat.le_of_ble_eq_true rfl) rfl rfl rfl wm_RX11_221 md_X11_puts (Nat.le_of_ble_eq_true rfl) (Nat.le_of_ble_eq_true rfl) rfl rfl (Nat.le_of_ble_eq_true rfl) dX11_readPerson_42 ?_
      refine v_if_ne (pc := 45) 50 dX11_readPerson_45 (by decide) (fun c9 => ?_) (fun c9 => ?_)
      · replace hf := it_f c9 hf
        refine v_aload_n (pc := 50) 1 dX11_readPerson_50 rfl ?_
        refine gf_RX11_37 (pc := 51) 0 rfl hk0 dX11_readPerson_51 ?_
        refine v_iconst (pc := 54) (1 : Int32) dX11_readPerson_54 ci_1 ?_
        refine v_dup2 (pc := 55) dX11_readPerson_55 rfl rfl ?_
        refine al_X11_7 (pc := 56) 1 0 rfl hk0 rfl ib_1_121 dX11_readPerson_56 ?_
        refine v_iconst (pc := 57) (1 : Int32) dX11_readPerson_57 ci_1 ?_
        refine v_iadd (pc := 58) dX11_readPerson_58 ?_
        refine as_X11_7 (pc := 59) [_] 1 0 rfl hk0 rfl ib_1_121 rfl dX11_readPerson_59 ?_
        refine v_iconst (pc := 60) (1 : Int32) dX11_readPerson_60 ci_1 ?_
        have hf2 := Option.some.inj hf; subst hf2
        exact V_zret (pc := 61) hF rfl dX11_readPerson_61
      · replace hf := it_t c9 hf
        refine v_iconst (pc := 48) (0 : Int32) dX11_readPerson_48 ci_0 ?_
        have hf2 := Option.some.inj hf; subst hf2
        exact V_zret (pc := 49) hF rfl dX11_readPerson_49
  · replace hf := it_t c1 hf
    refine v_aload_n (pc := 13) 1 dX11_readPerson_13 rfl ?_
    refine v_iconst (pc := 14) (4 : Int32) dX11_readPerson_14 ci_4 ?_
    replace hf := bd_some hf; obtain ⟨r10, h11, hf⟩ := hf
    refine V_call (pc := 15) (us1 := [_]) [0] 0 (kX11_bad (o := o) hk0 h11) rfl rfl rfl rfl rfl hk0 (Nat.le_of_ble_eq_true rfl) rfl rfl rfl wm_RX11_170 md_X11_bad (Nat.le_of_ble_eq_true rfl) (Nat.le_of_ble_eq_true rfl) rfl rfl (Nat.le_of_ble_eq_true rfl) dX11_readPerson_15 ?_
    replace hf := gd_some hf; obtain ⟨g12, hf⟩ := hf
    have hf2 := Option.some.inj hf; subst hf2
    exact V_zret (pc := 18) hF g12 dX11_readPerson_18
set_option maxRecDepth 20000 in
theorem kX11_readThing {G : Wc} {o : Nat} {S : Ob}  {r : Int32 × Ob} (hk0 : kd o = 10) (hf : pX11_readThing S   = some r) : Cn yX11_readThing cX11_readThing 2 (some .boolean) 5 148 G [.ref (wA G o 0)] [(o, S)] [(o, r.2)] (some (.int r.1)) := by
  refine V_method [(0, .ref (wA G o 0))] (by decide) rfl (Nat.le_of_ble_eq_true rfl) rfl (fun Γ hF => ?_)
  unfold pX11_readThing at hf
  refine v_aload_n (pc := 0) 0 dX11_readThing_0 rfl ?_
  refine gf_RX11_37 (pc := 1) 0 rfl hk0 dX11_readThing_1 ?_
  refine v_iconst (pc := 4) (0 : Int32) dX11_readThing_4 ci_0 ?_
  refine al_X11_7 (pc := 5) 0 0 rfl hk0 rfl ib_0_121 dX11_readThing_5 ?_
  refine v_istore_n (pc := 6) [(1, _), (0, _)] dX11_readThing_6 (Nat.le_of_ble_eq_true rfl) rfl ?_
  refine v_iload_n (pc := 7) 0 dX11_readThing_7 rfl ?_
  refine v_bipush (pc := 8) (8 : Int32) dX11_readThing_8 cb_8 ?_
  refine v_icmp_ne (pc := 10) 19 dX11_readThing_10 (by decide) (fun c1 => ?_) (fun c1 => ?_)
  · replace hf := it_f c1 hf
    refine v_aload_n (pc := 19) 1 dX11_readThing_19 rfl ?_
    replace hf := bd_some hf; obtain ⟨r2, h3, hf⟩ := hf
    refine V_call (pc := 20) (us1 := [_]) [0] 0 (kX11_next (o := o) hk0 h3) rfl rfl rfl rfl rfl hk0 (Nat.le_of_ble_eq_true rfl) rfl rfl rfl wm_RX11_173 md_X11_next (Nat.le_of_ble_eq_true rfl) (Nat.le_of_ble_eq_true rfl) rfl rfl (Nat.le_of_ble_eq_true rfl) dX11_readThing_20 ?_
    refine v_aload_n (pc := 23) 1 dX11_readThing_23 rfl ?_
    refine v_bipush (pc := 24) (18 : Int32) dX11_readThing_24 cb_18 ?_
    refine v_iload_n (pc := 26) 0 dX11_readThing_26 rfl ?_
    refine v_iadd (pc := 27) dX11_readThing_27 ?_
    replace hf := bd_some hf; obtain ⟨r4, h5, hf⟩ := hf
    refine V_call (pc := 28) (us1 := [_]) [0] 0 (kX11_fresh (o := o) hk0 h5) rfl rfl rfl rfl rfl hk0 (Nat.le_of_ble_eq_true rfl) rfl rfl rfl wm_RX11_224 md_X11_fresh (Nat.le_of_ble_eq_true rfl) (Nat.le_of_ble_eq_true rfl) rfl rfl (Nat.le_of_ble_eq_true rfl) dX11_readThing_28 ?_
    refine v_if_eq (pc := 31) 61 dX11_readThing_31 (by decide) (fun c6 => ?_) (fun c6 => ?_)
    · replace hf := it_t c6 hf
      refine v_iconst (pc := 61) (0 : Int32) dX11_readThing_61 ci_0 ?_
      have hf2 := Option.some.inj hf; subst hf2
      exact V_zret (pc := 62) hF rfl dX11_readThing_62
    · replace hf := it_f c6 hf
      refine v_aload_n (pc := 34) 1 dX11_readThing_34 rfl ?_
      refine v_iconst (pc := 35) (5 : Int32) dX11_readThing_35 ci_5 ?_
      refine v_iload_n (pc := 36) 0 dX11_readThing_36 rfl ?_
      refine v_iadd (pc := 37) dX11_readThing_37 ?_
      refine v_iconst (pc := 38) (1 : Int32) dX11_readThing_38 ci_1 ?_
      refine v_bipush (pc := 39) (9 : Int32) dX11_readThing_39 cb_9 ?_
      replace hf := bd_some hf; obtain ⟨r7, h8, hf⟩ := hf
      refine V_call (pc := 41) (us1 := [_]) [0] 0 (kX11_puts (o := o) hk0 h8) rfl rfl rfl rfl rfl hk0 (Nat.le_of_ble_eq_true rfl) rfl rfl rfl wm_RX11_221 md_X11_puts (Nat.le_of_ble_eq_true rfl) (Nat.le_of_ble_eq_true rfl) rfl rfl (Nat.le_of_ble_eq_true rfl) dX11_readThing_41 ?_
      refine v_if_eq (pc := 44) 61 dX11_readThing_44 (by decide) (fun c9 => ?_) (fun c9 => ?_)
      · replace hf := it_t c9 hf
        refine v_iconst (pc := 61) (0 : Int32) dX11_readThing_61 ci_0 ?_
        have hf2 := Option.some.inj hf; subst hf2
        exact V_zret (pc := 62) hF rfl dX11_readThing_62
      · replace hf := it_f c9 hf
        refine v_aload_n (pc := 47) 1 dX11_readThing_47 rfl ?_
        refine v_bipush (pc := 48) (13 : Int32) dX11_readThing_48 cb_13 ?_
        refine v_iload_n (pc := 50) 0 dX11_readThing_50 rfl ?_
        refine v_iadd (pc := 51) dX11_readThing_51 ?_
        refine v_iconst (pc := 52) (0 : Int32) dX11_readThing_52 ci_0 ?_
        refine v_bipush (pc := 53) (9 : Int32) dX11_readThing_53 cb_9 ?_
        replace hf := bd_some hf; obtain ⟨r10, h11, hf⟩ := hf
        refine V_call (pc := 55) (us1 := [_]) [0] 0 (kX11_puts (o := o) hk0 h11) rfl rfl rfl rfl rfl hk0 (Nat.le_of_ble_eq_true rfl) rfl rfl rfl wm_RX11_221 md_X11_puts (Nat.le_of_ble_eq_true rfl) (Nat.le_of_ble_eq_true rfl) rfl rfl (Nat.le_of_ble_eq_true rfl) dX11_readThing_55 ?_
        refine v_if_ne (pc := 58) 63 dX11_readThing_58 (by decide) (fun c12 => ?_) (fun c12 => ?_)
        · replace hf := it_f c12 hf
          refine v_aload_n (pc := 63) 1 dX11_readThing_63 rfl ?_
          refine gf_RX11_37 (pc := 64) 0 rfl hk0 dX11_readThing_64 ?_
          refine v_iconst (pc := 67) (0 : Int32) dX11_readThing_67 ci_0 ?_
          refine v_dup2 (pc := 68) dX11_readThing_68 rfl rfl ?_
          refine al_X11_7 (pc := 69) 0 0 rfl hk0 rfl ib_0_121 dX11_readThing_69 ?_
          refine v_iconst (pc := 70) (1 : Int32) dX11_readThing_70 ci_1 ?_
          refine v_iadd (pc := 71) dX11_readThing_71 ?_
          refine as_X11_7 (pc := 72) [_] 0 0 rfl hk0 rfl ib_0_121 rfl dX11_readThing_72 ?_
          refine v_iconst (pc := 73) (1 : Int32) dX11_readThing_73 ci_1 ?_
          have hf2 := Option.some.inj hf; subst hf2
          exact V_zret (pc := 74) hF rfl dX11_readThing_74
        · replace hf := it_t c12 hf
          refine v_iconst (pc := 61) (0 : Int32) dX11_readThing_61 ci_0 ?_
          have hf2 := Option.some.inj hf; subst hf2
          exact V_zret (pc := 62) hF rfl dX11_readThing_62
  · replace hf := it_t c1 hf
    refine v_aload_n (pc := 13) 1 dX11_readThing_13 rfl ?_
    refine v_iconst (pc := 14) (4 : Int32) dX11_readThing_14 ci_4 ?_
    replace hf := bd_some hf; obtain ⟨r13, h14, hf⟩ := hf
    refine V_call (pc := 15) (us1 := [_]) [0] 0 (kX11_bad (o := o) hk0 h14) rfl rfl rfl rfl rfl hk0 (Nat.le_of_ble_eq_true rfl) rfl rfl rfl wm_RX11_170 md_X11_bad (Nat.le_of_ble_eq_true rfl) (Nat.le_of_ble_eq_true rfl) rfl rfl (Nat.le_of_ble_eq_true rfl) dX11_readThing_15 ?_
    replace hf := gd_some hf; obtain ⟨g15, hf⟩ := hf
    have hf2 := Option.some.inj hf; subst hf2
    exact V_zret (pc := 18) hF g15 dX11_readThing_18
set_option maxRecDepth 20000 in
theorem kX11_readLine {G : Wc} {o : Nat} {S : Ob}  {r : Int32 × Ob} (hk0 : kd o = 10) (hf : pX11_readLine S   = some r) : Cn yX11_readLine cX11_readLine 1 (some .boolean) 6 169 G [.ref (wA G o 0)] [(o, S)] [(o, r.2)] (some (.int r.1)) := by
  refine V_method [(0, .ref (wA G o 0))] (by decide) rfl (Nat.le_of_ble_eq_true rfl) rfl (fun Γ hF => ?_)
  unfold pX11_readLine at hf
  refine v_aload_n (pc := 0) 0 dX11_readLine_0 rfl ?_
  refine v_ldc2_w (pc := 1) dX11_readLine_1 wc_RX11_87 ?_
  replace hf := bd_some hf; obtain ⟨r1, h2, hf⟩ := hf
  refine V_call (pc := 4) (us1 := [_]) [0] 0 (kX11_isWord (o := o) hk0 h2) rfl rfl rfl rfl rfl hk0 (Nat.le_of_ble_eq_true rfl) rfl rfl rfl wm_RX11_198 md_X11_isWord (Nat.le_of_ble_eq_true rfl) (Nat.le_of_ble_eq_true rfl) rfl rfl (Nat.le_of_ble_eq_true rfl) dX11_readLine_4 ?_
  refine v_if_eq (pc := 7) 15 dX11_readLine_7 (by decide) (fun c3 => ?_) (fun c3 => ?_)
  · replace hf := it_t c3 hf
    refine v_aload_n (pc := 15) 0 dX11_readLine_15 rfl ?_
    refine v_ldc2_w (pc := 16) dX11_readLine_16 wc_RX11_89 ?_
    replace hf := bd_some hf; obtain ⟨r4, h5, hf⟩ := hf
    refine V_call (pc := 19) (us1 := [_]) [0] 0 (kX11_isWord (o := o) hk0 h5) rfl rfl rfl rfl rfl hk0 (Nat.le_of_ble_eq_true rfl) rfl rfl rfl wm_RX11_198 md_X11_isWord (Nat.le_of_ble_eq_true rfl) (Nat.le_of_ble_eq_true rfl) rfl rfl (Nat.le_of_ble_eq_true rfl) dX11_readLine_19 ?_
    refine v_if_eq (pc := 22) 30 dX11_readLine_22 (by decide) (fun c6 => ?_) (fun c6 => ?_)
    · replace hf := it_t c6 hf
      refine v_aload_n (pc := 30) 0 dX11_readLine_30 rfl ?_
      refine v_ldc2_w (pc := 31) dX11_readLine_31 wc_RX11_91 ?_
      replace hf := bd_some hf; obtain ⟨r7, h8, hf⟩ := hf
      refine V_call (pc := 34) (us1 := [_]) [0] 0 (kX11_isWord (o := o) hk0 h8) rfl rfl rfl rfl rfl hk0 (Nat.le_of_ble_eq_true rfl) rfl rfl rfl wm_RX11_198 md_X11_isWord (Nat.le_of_ble_eq_true rfl) (Nat.le_of_ble_eq_true rfl) rfl rfl (Nat.le_of_ble_eq_true rfl) dX11_readLine_34 ?_
      refine v_if_eq (pc := 37) 45 dX11_readLine_37 (by decide) (fun c9 => ?_) (fun c9 => ?_)
      · replace hf := it_t c9 hf
        refine v_aload_n (pc := 45) 0 dX11_readLine_45 rfl ?_
        refine v_ldc2_w (pc := 46) dX11_readLine_46 wc_RX11_93 ?_
        replace hf := bd_some hf; obtain ⟨r10, h11, hf⟩ := hf
        refine V_call (pc := 49) (us1 := [_]) [0] 0 (kX11_isWord (o := o) hk0 h11) rfl rfl rfl rfl rfl hk0 (Nat.le_of_ble_eq_true rfl) rfl rfl rfl wm_RX11_198 md_X11_isWord (Nat.le_of_ble_eq_true rfl) (Nat.le_of_ble_eq_true rfl) rfl rfl (Nat.le_of_ble_eq_true rfl) dX11_readLine_49 ?_
        refine v_if_eq (pc := 52) 60 dX11_readLine_52 (by decide) (fun c12 => ?_) (fun c12 => ?_)
        · replace hf := it_t c12 hf
          refine v_aload_n (pc := 60) 0 dX11_readLine_60 rfl ?_
          refine v_ldc2_w (pc := 61) dX11_readLine_61 wc_RX11_95 ?_
          replace hf := bd_some hf; obtain ⟨r13, h14, hf⟩ := hf
          refine V_call (pc := 64) (us1 := [_]) [0] 0 (kX11_isWord (o := o) hk0 h14) rfl rfl rfl rfl rfl hk0 (Nat.le_of_ble_eq_true rfl) rfl rfl rfl wm_RX11_198 md_X11_isWord (Nat.le_of_ble_eq_true rfl) (Nat.le_of_ble_eq_true rfl) rfl rfl (Nat.le_of_ble_eq_true rfl) dX11_readLine_64 ?_
          refine v_if_eq (pc := 67) 75 dX11_readLine_67 (by decide) (fun c15 => ?_) (fun c15 => ?_)
          · replace hf := it_t c15 hf
            refine v_aload_n (pc := 75) 0 dX11_readLine_75 rfl ?_
            refine v_ldc2_w (pc := 76) dX11_readLine_76 wc_RX11_97 ?_
            replace hf := bd_some hf; obtain ⟨r16, h17, hf⟩ := hf
            refine V_call (pc := 79) (us1 := [_]) [0] 0 (kX11_isWord (o := o) hk0 h17) rfl rfl rfl rfl rfl hk0 (Nat.le_of_ble_eq_true rfl) rfl rfl rfl wm_RX11_198 md_X11_isWord (Nat.le_of_ble_eq_true rfl) (Nat.le_of_ble_eq_true rfl) rfl rfl (Nat.le_of_ble_eq_true rfl) dX11_readLine_79 ?_
            refine v_if_ne (pc := 82) 91 dX11_readLine_82 (by decide) (fun c18 => ?_) (fun c18 => ?_)
            · replace hf := it_f c18 hf
              refine v_aload_n (pc := 91) 0 dX11_readLine_91 rfl ?_
              refine gf_RX11_217 (pc := 92) 0 rfl hk0 dX11_readLine_92 ?_
              refine v_if_eq (pc := 95) 104 dX11_readLine_95 (by decide) (fun c19 => ?_) (fun c19 => ?_)
              · replace hf := it_t c19 hf
                refine v_aload_n (pc := 104) 0 dX11_readLine_104 rfl ?_
                refine v_iconst (pc := 105) (1 : Int32) dX11_readLine_105 ci_1 ?_
                refine pf_RX11_217 (pc := 106) [_] 0 rfl hk0 rfl rfl dX11_readLine_106 ?_
                refine v_aload_n (pc := 109) 0 dX11_readLine_109 rfl ?_
                replace hf := bd_some hf; obtain ⟨r20, h21, hf⟩ := hf
                refine V_call (pc := 110) (us1 := [_]) [0] 0 (kX11_next (o := o) hk0 h21) rfl rfl rfl rfl rfl hk0 (Nat.le_of_ble_eq_true rfl) rfl rfl rfl wm_RX11_173 md_X11_next (Nat.le_of_ble_eq_true rfl) (Nat.le_of_ble_eq_true rfl) rfl rfl (Nat.le_of_ble_eq_true rfl) dX11_readLine_110 ?_
                refine v_aload_n (pc := 113) 0 dX11_readLine_113 rfl ?_
                refine v_iconst (pc := 114) (4 : Int32) dX11_readLine_114 ci_4 ?_
                refine v_iconst (pc := 115) (1 : Int32) dX11_readLine_115 ci_1 ?_
                refine v_bipush (pc := 116) (20 : Int32) dX11_readLine_116 cb_20 ?_
                replace hf := bd_some hf; obtain ⟨r22, h23, hf⟩ := hf
                refine V_call (pc := 118) (us1 := [_]) [0] 0 (kX11_puts (o := o) hk0 h23) rfl rfl rfl rfl rfl hk0 (Nat.le_of_ble_eq_true rfl) rfl rfl rfl wm_RX11_221 md_X11_puts (Nat.le_of_ble_eq_true rfl) (Nat.le_of_ble_eq_true rfl) rfl rfl (Nat.le_of_ble_eq_true rfl) dX11_readLine_118 ?_
                replace hf := gd_some hf; obtain ⟨g24, hf⟩ := hf
                have hf2 := Option.some.inj hf; subst hf2
                exact V_zret (pc := 121) hF g24 dX11_readLine_121
              · replace hf := it_f c19 hf
                refine v_aload_n (pc := 98) 0 dX11_readLine_98 rfl ?_
                refine v_iconst (pc := 99) (3 : Int32) dX11_readLine_99 ci_3 ?_
                replace hf := bd_some hf; obtain ⟨r25, h26, hf⟩ := hf
                refine V_call (pc := 100) (us1 := [_]) [0] 0 (kX11_bad (o := o) hk0 h26) rfl rfl rfl rfl rfl hk0 (Nat.le_of_ble_eq_true rfl) rfl rfl rfl wm_RX11_170 md_X11_bad (Nat.le_of_ble_eq_true rfl) (Nat.le_of_ble_eq_true rfl) rfl rfl (Nat.le_of_ble_eq_true rfl) dX11_readLine_100 ?_
                replace hf := gd_some hf; obtain ⟨g27, hf⟩ := hf
                have hf2 := Option.some.inj hf; subst hf2
                exact V_zret (pc := 103) hF g27 dX11_readLine_103
            · replace hf := it_t c18 hf
              refine v_aload_n (pc := 85) 0 dX11_readLine_85 rfl ?_
              refine v_iconst (pc := 86) (1 : Int32) dX11_readLine_86 ci_1 ?_
              replace hf := bd_some hf; obtain ⟨r28, h29, hf⟩ := hf
              refine V_call (pc := 87) (us1 := [_]) [0] 0 (kX11_bad (o := o) hk0 h29) rfl rfl rfl rfl rfl hk0 (Nat.le_of_ble_eq_true rfl) rfl rfl rfl wm_RX11_170 md_X11_bad (Nat.le_of_ble_eq_true rfl) (Nat.le_of_ble_eq_true rfl) rfl rfl (Nat.le_of_ble_eq_true rfl) dX11_readLine_87 ?_
              replace hf := gd_some hf; obtain ⟨g30, hf⟩ := hf
              have hf2 := Option.some.inj hf; subst hf2
              exact V_zret (pc := 90) hF g30 dX11_readLine_90
          · replace hf := it_f c15 hf
            refine v_aload_n (pc := 70) 0 dX11_readLine_70 rfl ?_
            replace hf := bd_some hf; obtain ⟨r31, h32, hf⟩ := hf
            refine V_call (pc := 71) (us1 := [_]) [0] 0 (kX11_readBed (o := o) hk0 h32) rfl rfl rfl rfl rfl hk0 (Nat.le_of_ble_eq_true rfl) rfl rfl rfl wm_RX11_214 md_X11_readBed (Nat.le_of_ble_eq_true rfl) (Nat.le_of_ble_eq_true rfl) rfl rfl (Nat.le_of_ble_eq_true rfl) dX11_readLine_71 ?_
            replace hf := gd_some hf; obtain ⟨g33, hf⟩ := hf
            have hf2 := Option.some.inj hf; subst hf2
            exact V_zret (pc := 74) hF g33 dX11_readLine_74
        · replace hf := it_f c12 hf
          refine v_aload_n (pc := 55) 0 dX11_readLine_55 rfl ?_
          replace hf := bd_some hf; obtain ⟨r34, h35, hf⟩ := hf
          refine V_call (pc := 56) (us1 := [_]) [0] 0 (kX11_readDaily (o := o) hk0 h35) rfl rfl rfl rfl rfl hk0 (Nat.le_of_ble_eq_true rfl) rfl rfl rfl wm_RX11_211 md_X11_readDaily (Nat.le_of_ble_eq_true rfl) (Nat.le_of_ble_eq_true rfl) rfl rfl (Nat.le_of_ble_eq_true rfl) dX11_readLine_56 ?_
          replace hf := gd_some hf; obtain ⟨g36, hf⟩ := hf
          have hf2 := Option.some.inj hf; subst hf2
          exact V_zret (pc := 59) hF g36 dX11_readLine_59
      · replace hf := it_f c9 hf
        refine v_aload_n (pc := 40) 0 dX11_readLine_40 rfl ?_
        replace hf := bd_some hf; obtain ⟨r37, h38, hf⟩ := hf
        refine V_call (pc := 41) (us1 := [_]) [0] 0 (kX11_readCaught (o := o) hk0 h38) rfl rfl rfl rfl rfl hk0 (Nat.le_of_ble_eq_true rfl) rfl rfl rfl wm_RX11_208 md_X11_readCaught (Nat.le_of_ble_eq_true rfl) (Nat.le_of_ble_eq_true rfl) rfl rfl (Nat.le_of_ble_eq_true rfl) dX11_readLine_41 ?_
        replace hf := gd_some hf; obtain ⟨g39, hf⟩ := hf
        have hf2 := Option.some.inj hf; subst hf2
        exact V_zret (pc := 44) hF g39 dX11_readLine_44
    · replace hf := it_f c6 hf
      refine v_aload_n (pc := 25) 0 dX11_readLine_25 rfl ?_
      replace hf := bd_some hf; obtain ⟨r40, h41, hf⟩ := hf
      refine V_call (pc := 26) (us1 := [_]) [0] 0 (kX11_readPerson (o := o) hk0 h41) rfl rfl rfl rfl rfl hk0 (Nat.le_of_ble_eq_true rfl) rfl rfl rfl wm_RX11_205 md_X11_readPerson (Nat.le_of_ble_eq_true rfl) (Nat.le_of_ble_eq_true rfl) rfl rfl (Nat.le_of_ble_eq_true rfl) dX11_readLine_26 ?_
      replace hf := gd_some hf; obtain ⟨g42, hf⟩ := hf
      have hf2 := Option.some.inj hf; subst hf2
      exact V_zret (pc := 29) hF g42 dX11_readLine_29
  · replace hf := it_f c3 hf
    refine v_aload_n (pc := 10) 0 dX11_readLine_10 rfl ?_
    replace hf := bd_some hf; obtain ⟨r43, h44, hf⟩ := hf
    refine V_call (pc := 11) (us1 := [_]) [0] 0 (kX11_readThing (o := o) hk0 h44) rfl rfl rfl rfl rfl hk0 (Nat.le_of_ble_eq_true rfl) rfl rfl rfl wm_RX11_202 md_X11_readThing (Nat.le_of_ble_eq_true rfl) (Nat.le_of_ble_eq_true rfl) rfl rfl (Nat.le_of_ble_eq_true rfl) dX11_readLine_11 ?_
    replace hf := gd_some hf; obtain ⟨g45, hf⟩ := hf
    have hf2 := Option.some.inj hf; subst hf2
    exact V_zret (pc := 14) hF g45 dX11_readLine_14
set_option maxRecDepth 20000 in
theorem wX11_quarter_l80 {G : Wc} {Γ : Cx} {o : Nat}  (hk0 : kd o = 10) : ∀ (n : Nat) {l1 : Int32} {S : Ob} {r : Ob}, pX11_quarter_l80   n l1 S = some r → V cX11_quarter RX11 7 189 2 G Γ [(o, r)] 115 [(0, .ref (wA G o 0))] [] → V cX11_quarter RX11 7 189 2 G Γ [(o, S)] 80 [(0, .ref (wA G o 0)), (1, .int l1)] [] := by
  intro n
  induction n with
  | zero => intro l1 S r hf hx; unfold pX11_quarter_l80 at hf; cases hf
  | succ n ih =>
    intro l1 S r hf hx
    have hrec : ∀ {l1 : Int32} {S : Ob}, pX11_quarter_l80   n l1 S = some r → V cX11_quarter RX11 7 189 2 G Γ [(o, S)] 80 [(0, .ref (wA G o 0)), (1, .int l1)] [] := fun h => ih h hx
    clear ih
    unfold pX11_quarter_l80 at hf
    refine v_iload_n (pc := 80) 1 dX11_quarter_80 rfl ?_
    refine v_sipush (pc := 81) (390 : Int32) dX11_quarter_81 cs_390 ?_
    refine v_icmp_ge (pc := 84) 115 dX11_quarter_84 (by decide) (fun c8 => ?_) (fun c8 => ?_)
    · replace hf := it_t c8 hf
      have hf2 := Option.some.inj hf; subst hf2
      exact V_sub [0] rfl hx
    · replace hf := it_f c8 hf
      refine v_aload_n (pc := 87) 0 dX11_quarter_87 rfl ?_
      refine gf_RX11_33 (pc := 88) 0 rfl hk0 dX11_quarter_88 ?_
      refine v_iload_n (pc := 91) 1 dX11_quarter_91 rfl ?_
      refine v_iload_n (pc := 92) 1 dX11_quarter_92 rfl ?_
      refine v_bipush (pc := 93) (121 : Int32) dX11_quarter_93 cb_121 ?_
      refine v_icmp_ge (pc := 95) 107 dX11_quarter_95 (by decide) (fun c9 => ?_) (fun c9 => ?_)
      · replace hf := it_t c9 hf
        refine v_iconst (pc := 107) (0 : Int32) dX11_quarter_107 ci_0 ?_
        replace hf := gd_some hf; obtain ⟨g10, hf⟩ := hf
        refine as_X11_6 (pc := 108) [_] _ 0 rfl hk0 rfl g10 rfl dX11_quarter_108 ?_
        refine v_iinc (pc := 109) 1 (l1 + (1 : Int32)) [(1, _), (0, _)] dX11_quarter_109 rfl (congrArg (fun z => _ + z) ci_1) (Nat.le_of_ble_eq_true rfl) rfl ?_
        refine v_goto (pc := 112) 80 dX11_quarter_112 (by decide) ?_
        exact V_sub [1, 0] rfl (hrec hf)
      · replace hf := it_f c9 hf
        refine v_aload_n (pc := 98) 0 dX11_quarter_98 rfl ?_
        refine gf_RX11_37 (pc := 99) 0 rfl hk0 dX11_quarter_99 ?_
        refine v_iload_n (pc := 102) 1 dX11_quarter_102 rfl ?_
        replace hf := gd_some hf; obtain ⟨g11, hf⟩ := hf
        refine al_X11_7 (pc := 103) _ 0 rfl hk0 rfl g11 dX11_quarter_103 ?_
        refine v_goto (pc := 104) 108 dX11_quarter_104 (by decide) ?_
        replace hf := gd_some hf; obtain ⟨g12, hf⟩ := hf
        refine as_X11_6 (pc := 108) [_] _ 0 rfl hk0 rfl g12 rfl dX11_quarter_108 ?_
        refine v_iinc (pc := 109) 1 (l1 + (1 : Int32)) [(1, _), (0, _)] dX11_quarter_109 rfl (congrArg (fun z => _ + z) ci_1) (Nat.le_of_ble_eq_true rfl) rfl ?_
        refine v_goto (pc := 112) 80 dX11_quarter_112 (by decide) ?_
        exact V_sub [1, 0] rfl (hrec hf)
set_option maxRecDepth 20000 in
theorem wX11_quarter_l117 {G : Wc} {Γ : Cx} {o : Nat}  (hk0 : kd o = 10) : ∀ (n : Nat) {l1 : Int32} {S : Ob} {r : Ob}, pX11_quarter_l117   n l1 S = some r → V cX11_quarter RX11 7 189 2 G Γ [(o, r)] 144 [(0, .ref (wA G o 0))] [] → V cX11_quarter RX11 7 189 2 G Γ [(o, S)] 117 [(0, .ref (wA G o 0)), (1, .int l1)] [] := by
  intro n
  induction n with
  | zero => intro l1 S r hf hx; unfold pX11_quarter_l117 at hf; cases hf
  | succ n ih =>
    intro l1 S r hf hx
    have hrec : ∀ {l1 : Int32} {S : Ob}, pX11_quarter_l117   n l1 S = some r → V cX11_quarter RX11 7 189 2 G Γ [(o, S)] 117 [(0, .ref (wA G o 0)), (1, .int l1)] [] := fun h => ih h hx
    clear ih
    unfold pX11_quarter_l117 at hf
    refine v_iload_n (pc := 117) 1 dX11_quarter_117 rfl ?_
    refine v_bipush (pc := 118) (18 : Int32) dX11_quarter_118 cb_18 ?_
    refine v_icmp_ge (pc := 120) 144 dX11_quarter_120 (by decide) (fun c15 => ?_) (fun c15 => ?_)
    · replace hf := it_t c15 hf
      have hf2 := Option.some.inj hf; subst hf2
      exact V_sub [0] rfl hx
    · replace hf := it_f c15 hf
      refine v_aload_n (pc := 123) 0 dX11_quarter_123 rfl ?_
      refine gf_RX11_43 (pc := 124) 0 rfl hk0 dX11_quarter_124 ?_
      refine v_iload_n (pc := 127) 1 dX11_quarter_127 rfl ?_
      refine v_aload_n (pc := 128) 0 dX11_quarter_128 rfl ?_
      refine gf_RX11_43 (pc := 129) 0 rfl hk0 dX11_quarter_129 ?_
      refine v_bipush (pc := 132) (18 : Int32) dX11_quarter_132 cb_18 ?_
      refine v_iload_n (pc := 134) 1 dX11_quarter_134 rfl ?_
      refine v_iadd (pc := 135) dX11_quarter_135 ?_
      replace hf := gd_some hf; obtain ⟨g16, hf⟩ := hf
      refine al_X11_9 (pc := 136) _ 0 rfl hk0 rfl g16 dX11_quarter_136 ?_
      replace hf := gd_some hf; obtain ⟨g17, hf⟩ := hf
      refine as_X11_9 (pc := 137) [_] _ 0 rfl hk0 rfl g17 rfl dX11_quarter_137 ?_
      refine v_iinc (pc := 138) 1 (l1 + (1 : Int32)) [(1, _), (0, _)] dX11_quarter_138 rfl (congrArg (fun z => _ + z) ci_1) (Nat.le_of_ble_eq_true rfl) rfl ?_
      refine v_goto (pc := 141) 117 dX11_quarter_141 (by decide) ?_
      exact V_sub [1, 0] rfl (hrec hf)
set_option maxRecDepth 20000 in
theorem wX11_quarter_l146 {G : Wc} {Γ : Cx} {o : Nat}  (hk0 : kd o = 10) : ∀ (n : Nat) {l1 : Int32} {S : Ob} {r : Ob}, pX11_quarter_l146   n l1 S = some r → V cX11_quarter RX11 7 189 2 G Γ [(o, r)] 176 [(0, .ref (wA G o 0))] [] → V cX11_quarter RX11 7 189 2 G Γ [(o, S)] 146 [(0, .ref (wA G o 0)), (1, .int l1)] [] := by
  intro n
  induction n with
  | zero => intro l1 S r hf hx; unfold pX11_quarter_l146 at hf; cases hf
  | succ n ih =>
    intro l1 S r hf hx
    have hrec : ∀ {l1 : Int32} {S : Ob}, pX11_quarter_l146   n l1 S = some r → V cX11_quarter RX11 7 189 2 G Γ [(o, S)] 146 [(0, .ref (wA G o 0)), (1, .int l1)] [] := fun h => ih h hx
    clear ih
    unfold pX11_quarter_l146 at hf
    refine v_iload_n (pc := 146) 1 dX11_quarter_146 rfl ?_
    refine v_bipush (pc := 147) (6 : Int32) dX11_quarter_147 cb_6 ?_
    refine v_icmp_ge (pc := 149) 176 dX11_quarter_149 (by decide) (fun c20 => ?_) (fun c20 => ?_)
    · replace hf := it_t c20 hf
      have hf2 := Option.some.inj hf; subst hf2
      exact V_sub [0] rfl hx
    · replace hf := it_f c20 hf
      refine v_aload_n (pc := 152) 0 dX11_quarter_152 rfl ?_
      refine gf_RX11_33 (pc := 153) 0 rfl hk0 dX11_quarter_153 ?_
      refine v_bipush (pc := 156) (125 : Int32) dX11_quarter_156 cb_125 ?_
      refine v_iload_n (pc := 158) 1 dX11_quarter_158 rfl ?_
      refine v_iadd (pc := 159) dX11_quarter_159 ?_
      refine v_aload_n (pc := 160) 0 dX11_quarter_160 rfl ?_
      refine gf_RX11_33 (pc := 161) 0 rfl hk0 dX11_quarter_161 ?_
      refine v_bipush (pc := 164) (27 : Int32) dX11_quarter_164 cb_27 ?_
      refine v_iload_n (pc := 166) 1 dX11_quarter_166 rfl ?_
      refine v_iadd (pc := 167) dX11_quarter_167 ?_
      replace hf := gd_some hf; obtain ⟨g21, hf⟩ := hf
      refine al_X11_6 (pc := 168) _ 0 rfl hk0 rfl g21 dX11_quarter_168 ?_
      replace hf := gd_some hf; obtain ⟨g22, hf⟩ := hf
      refine as_X11_6 (pc := 169) [_] _ 0 rfl hk0 rfl g22 rfl dX11_quarter_169 ?_
      refine v_iinc (pc := 170) 1 (l1 + (1 : Int32)) [(1, _), (0, _)] dX11_quarter_170 rfl (congrArg (fun z => _ + z) ci_1) (Nat.le_of_ble_eq_true rfl) rfl ?_
      refine v_goto (pc := 173) 146 dX11_quarter_173 (by decide) ?_
      exact V_sub [1, 0] rfl (hrec hf)
set_option maxRecDepth 20000 in
theorem wX11_quarter_l178 {G : Wc} {Γ : Cx} {o : Nat}  (hk0 : kd o = 10) : ∀ (n : Nat) {l1 : Int32} {S : Ob} {r : Ob}, pX11_quarter_l178   n l1 S = some r → V cX11_quarter RX11 7 189 2 G Γ [(o, r)] 209 [(0, .ref (wA G o 0))] [] → V cX11_quarter RX11 7 189 2 G Γ [(o, S)] 178 [(0, .ref (wA G o 0)), (1, .int l1)] [] := by
  intro n
  induction n with
  | zero => intro l1 S r hf hx; unfold pX11_quarter_l178 at hf; cases hf
  | succ n ih =>
    intro l1 S r hf hx
    have hrec : ∀ {l1 : Int32} {S : Ob}, pX11_quarter_l178   n l1 S = some r → V cX11_quarter RX11 7 189 2 G Γ [(o, S)] 178 [(0, .ref (wA G o 0)), (1, .int l1)] [] := fun h => ih h hx
    clear ih
    unfold pX11_quarter_l178 at hf
    refine v_iload_n (pc := 178) 1 dX11_quarter_178 rfl ?_
    refine v_bipush (pc := 179) (48 : Int32) dX11_quarter_179 cb_48 ?_
    refine v_icmp_ge (pc := 181) 209 dX11_quarter_181 (by decide) (fun c25 => ?_) (fun c25 => ?_)
    · replace hf := it_t c25 hf
      have hf2 := Option.some.inj hf; subst hf2
      exact V_sub [0] rfl hx
    · replace hf := it_f c25 hf
      refine v_aload_n (pc := 184) 0 dX11_quarter_184 rfl ?_
      refine gf_RX11_33 (pc := 185) 0 rfl hk0 dX11_quarter_185 ?_
      refine v_sipush (pc := 188) (131 : Int32) dX11_quarter_188 cs_131 ?_
      refine v_iload_n (pc := 191) 1 dX11_quarter_191 rfl ?_
      refine v_iadd (pc := 192) dX11_quarter_192 ?_
      refine v_aload_n (pc := 193) 0 dX11_quarter_193 rfl ?_
      refine gf_RX11_33 (pc := 194) 0 rfl hk0 dX11_quarter_194 ?_
      refine v_bipush (pc := 197) (33 : Int32) dX11_quarter_197 cb_33 ?_
      refine v_iload_n (pc := 199) 1 dX11_quarter_199 rfl ?_
      refine v_iadd (pc := 200) dX11_quarter_200 ?_
      replace hf := gd_some hf; obtain ⟨g26, hf⟩ := hf
      refine al_X11_6 (pc := 201) _ 0 rfl hk0 rfl g26 dX11_quarter_201 ?_
      replace hf := gd_some hf; obtain ⟨g27, hf⟩ := hf
      refine as_X11_6 (pc := 202) [_] _ 0 rfl hk0 rfl g27 rfl dX11_quarter_202 ?_
      refine v_iinc (pc := 203) 1 (l1 + (1 : Int32)) [(1, _), (0, _)] dX11_quarter_203 rfl (congrArg (fun z => _ + z) ci_1) (Nat.le_of_ble_eq_true rfl) rfl ?_
      refine v_goto (pc := 206) 178 dX11_quarter_206 (by decide) ?_
      exact V_sub [1, 0] rfl (hrec hf)
set_option maxRecDepth 20000 in
theorem wX11_quarter_l35 {G : Wc} {Γ : Cx} {o : Nat}  {r : Int32 × Ob} (hk0 : kd o = 10) (hF : Fnl G Γ (some .int) (some (.int r.1)) (ov Γ.2.2.2 [(o, r.2)])) : ∀ (n : Nat) {S : Ob}, pX11_quarter_l35   n S = some r → V cX11_quarter RX11 7 189 2 G Γ [(o, S)] 35 [(0, .ref (wA G o 0))] [] := by
  intro n
  induction n with
  | zero => intro S hf; unfold pX11_quarter_l35 at hf; cases hf
  | succ n ih =>
    intro S hf
    have hrec : ∀ {S : Ob}, pX11_quarter_l35   n S = some r → V cX11_quarter RX11 7 189 2 G Γ [(o, S)] 35 [(0, .ref (wA G o 0))] [] := fun h => ih h
    clear ih
    unfold pX11_quarter_l35 at hf
    refine v_aload_n (pc := 35) 0 dX11_quarter_35 rfl ?_
    refine gf_RX11_144 (pc := 36) 0 rfl hk0 dX11_quarter_36 ?_
    refine v_if_eq (pc := 39) 78 dX11_quarter_39 (by decide) (fun c7 => ?_) (fun c7 => ?_)
    · replace hf := it_t c7 hf
      refine v_iconst (pc := 78) (0 : Int32) dX11_quarter_78 ci_0 ?_
      refine v_istore_n (pc := 79) [(1, _), (0, _)] dX11_quarter_79 (Nat.le_of_ble_eq_true rfl) rfl ?_
      replace hf := bd_some hf; obtain ⟨r13, h14, hf⟩ := hf
      refine V_sub [1, 0] rfl (wX11_quarter_l80 hk0 fu h14 ?_)
      refine v_iconst (pc := 115) (0 : Int32) dX11_quarter_115 ci_0 ?_
      refine v_istore_n (pc := 116) [(1, _), (0, _)] dX11_quarter_116 (Nat.le_of_ble_eq_true rfl) rfl ?_
      replace hf := bd_some hf; obtain ⟨r18, h19, hf⟩ := hf
      refine V_sub [1, 0] rfl (wX11_quarter_l117 hk0 fu h19 ?_)
      refine v_iconst (pc := 144) (0 : Int32) dX11_quarter_144 ci_0 ?_
      refine v_istore_n (pc := 145) [(1, _), (0, _)] dX11_quarter_145 (Nat.le_of_ble_eq_true rfl) rfl ?_
      replace hf := bd_some hf; obtain ⟨r23, h24, hf⟩ := hf
      refine V_sub [1, 0] rfl (wX11_quarter_l146 hk0 fu h24 ?_)
      refine v_iconst (pc := 176) (0 : Int32) dX11_quarter_176 ci_0 ?_
      refine v_istore_n (pc := 177) [(1, _), (0, _)] dX11_quarter_177 (Nat.le_of_ble_eq_true rfl) rfl ?_
      replace hf := bd_some hf; obtain ⟨r28, h29, hf⟩ := hf
      refine V_sub [1, 0] rfl (wX11_quarter_l178 hk0 fu h29 ?_)
      refine v_aload_n (pc := 209) 0 dX11_quarter_209 rfl ?_
      refine v_iconst (pc := 210) (0 : Int32) dX11_quarter_210 ci_0 ?_
      refine pf_RX11_242 (pc := 211) [_] 0 rfl hk0 rfl dX11_quarter_211 ?_
      refine v_aload_n (pc := 214) 0 dX11_quarter_214 rfl ?_
      refine gf_RX11_233 (pc := 215) 0 rfl hk0 dX11_quarter_215 ?_
      have hf2 := Option.some.inj hf; subst hf2
      exact V_iret (pc := 218) hF dX11_quarter_218
    · replace hf := it_f c7 hf
      refine v_aload_n (pc := 42) 0 dX11_quarter_42 rfl ?_
      replace hf := bd_some hf; obtain ⟨r30, h31, hf⟩ := hf
      refine V_call (pc := 43) (us1 := [_]) [0] 0 (kX11_readLine (o := o) hk0 h31) rfl rfl rfl rfl rfl hk0 (Nat.le_of_ble_eq_true rfl) rfl rfl rfl wm_RX11_236 md_X11_readLine (Nat.le_of_ble_eq_true rfl) (Nat.le_of_ble_eq_true rfl) rfl rfl (Nat.le_of_ble_eq_true rfl) dX11_quarter_43 ?_
      refine v_if_eq (pc := 46) 58 dX11_quarter_46 (by decide) (fun c32 => ?_) (fun c32 => ?_)
      · replace hf := it_t c32 hf
        refine v_iconst (pc := 58) (-1 : Int32) dX11_quarter_58 ci_m1 ?_
        refine v_aload_n (pc := 59) 0 dX11_quarter_59 rfl ?_
        refine gf_RX11_164 (pc := 60) 0 rfl hk0 dX11_quarter_60 ?_
        refine v_isub (pc := 63) dX11_quarter_63 ?_
        have hf2 := Option.some.inj hf; subst hf2
        exact V_iret (pc := 64) hF dX11_quarter_64
      · replace hf := it_f c32 hf
        refine v_aload_n (pc := 49) 0 dX11_quarter_49 rfl ?_
        refine v_bipush (pc := 50) (59 : Int32) dX11_quarter_50 cb_59 ?_
        replace hf := bd_some hf; obtain ⟨r33, h34, hf⟩ := hf
        refine V_call (pc := 52) (us1 := [_]) [0] 0 (kX11_sign (o := o) hk0 h34) rfl rfl rfl rfl rfl hk0 (Nat.le_of_ble_eq_true rfl) rfl rfl rfl wm_RX11_239 md_X11_sign (Nat.le_of_ble_eq_true rfl) (Nat.le_of_ble_eq_true rfl) rfl rfl (Nat.le_of_ble_eq_true rfl) dX11_quarter_52 ?_
        refine v_if_ne (pc := 55) 65 dX11_quarter_55 (by decide) (fun c35 => ?_) (fun c35 => ?_)
        · replace hf := it_f c35 hf
          refine v_aload_n (pc := 65) 0 dX11_quarter_65 rfl ?_
          refine v_dup (pc := 66) dX11_quarter_66 rfl ?_
          refine gf_RX11_233 (pc := 67) 0 rfl hk0 dX11_quarter_67 ?_
          refine v_iconst (pc := 70) (1 : Int32) dX11_quarter_70 ci_1 ?_
          refine v_iadd (pc := 71) dX11_quarter_71 ?_
          refine pf_RX11_233 (pc := 72) [_] 0 rfl hk0 rfl dX11_quarter_72 ?_
          refine v_goto (pc := 75) 35 dX11_quarter_75 (by decide) ?_
          exact V_sub [0] rfl (hrec hf)
        · replace hf := it_t c35 hf
          refine v_iconst (pc := 58) (-1 : Int32) dX11_quarter_58 ci_m1 ?_
          refine v_aload_n (pc := 59) 0 dX11_quarter_59 rfl ?_
          refine gf_RX11_164 (pc := 60) 0 rfl hk0 dX11_quarter_60 ?_
          refine v_isub (pc := 63) dX11_quarter_63 ?_
          have hf2 := Option.some.inj hf; subst hf2
          exact V_iret (pc := 64) hF dX11_quarter_64
set_option maxRecDepth 20000 in
theorem kX11_quarter {G : Wc} {o : Nat} {S : Ob}  {r : Int32 × Ob} (hk0 : kd o = 10) (hf : pX11_quarter S   = some r) : Cn yX11_quarter cX11_quarter 2 (some .int) 7 189 G [.ref (wA G o 0)] [(o, S)] [(o, r.2)] (some (.int r.1)) := by
  refine V_method [(0, .ref (wA G o 0))] (by decide) rfl (Nat.le_of_ble_eq_true rfl) rfl (fun Γ hF => ?_)
  unfold pX11_quarter at hf
  refine v_aload_n (pc := 0) 0 dX11_quarter_0 rfl ?_
  refine v_iconst (pc := 1) (0 : Int32) dX11_quarter_1 ci_0 ?_
  refine pf_RX11_1 (pc := 2) [_] 0 rfl hk0 rfl dX11_quarter_2 ?_
  refine v_aload_n (pc := 5) 0 dX11_quarter_5 rfl ?_
  refine v_sipush (pc := 6) (900 : Int32) dX11_quarter_6 cs_900 ?_
  replace hf := bd_some hf; obtain ⟨r1, h2, hf⟩ := hf
  refine V_call (pc := 9) (us1 := [_]) [0] 0 (kX11_taken (o := o) hk0 h2) rfl rfl rfl rfl rfl hk0 (Nat.le_of_ble_eq_true rfl) rfl rfl rfl wm_RX11_230 md_X11_taken (Nat.le_of_ble_eq_true rfl) (Nat.le_of_ble_eq_true rfl) rfl rfl (Nat.le_of_ble_eq_true rfl) dX11_quarter_9 ?_
  refine v_aload_n (pc := 12) 0 dX11_quarter_12 rfl ?_
  refine v_iconst (pc := 13) (0 : Int32) dX11_quarter_13 ci_0 ?_
  refine pf_RX11_161 (pc := 14) [_] 0 rfl hk0 rfl dX11_quarter_14 ?_
  refine v_aload_n (pc := 17) 0 dX11_quarter_17 rfl ?_
  refine v_iconst (pc := 18) (0 : Int32) dX11_quarter_18 ci_0 ?_
  refine pf_RX11_233 (pc := 19) [_] 0 rfl hk0 rfl dX11_quarter_19 ?_
  refine v_aload_n (pc := 22) 0 dX11_quarter_22 rfl ?_
  refine v_iconst (pc := 23) (0 : Int32) dX11_quarter_23 ci_0 ?_
  refine pf_RX11_217 (pc := 24) [_] 0 rfl hk0 rfl rfl dX11_quarter_24 ?_
  refine v_aload_n (pc := 27) 0 dX11_quarter_27 rfl ?_
  replace hf := bd_some hf; obtain ⟨r3, h4, hf⟩ := hf
  refine V_call (pc := 28) (us1 := [_]) [0] 0 (kX11_clears (o := o) hk0 h4) rfl rfl rfl rfl rfl hk0 (Nat.le_of_ble_eq_true rfl) rfl rfl rfl wm_RX11_131 md_X11_clears (Nat.le_of_ble_eq_true rfl) (Nat.le_of_ble_eq_true rfl) rfl rfl (Nat.le_of_ble_eq_true rfl) dX11_quarter_28 ?_
  refine v_aload_n (pc := 31) 0 dX11_quarter_31 rfl ?_
  replace hf := bd_some hf; obtain ⟨r5, h6, hf⟩ := hf
  refine V_call (pc := 32) (us1 := [_]) [0] 0 (kX11_next (o := o) hk0 h6) rfl rfl rfl rfl rfl hk0 (Nat.le_of_ble_eq_true rfl) rfl rfl rfl wm_RX11_173 md_X11_next (Nat.le_of_ble_eq_true rfl) (Nat.le_of_ble_eq_true rfl) rfl rfl (Nat.le_of_ble_eq_true rfl) dX11_quarter_32 ?_
  exact V_sub [0] rfl (wX11_quarter_l35 hk0 hF fu hf)
set_option maxRecDepth 20000 in
theorem kX11_fault {G : Wc} {o : Nat} {S : Ob}  {r : Int32 × Ob} (hk0 : kd o = 10) (hf : pX11_fault S   = some r) : Cn yX11_fault cX11_fault 1 (some .int) 1 60 G [.ref (wA G o 0)] [(o, S)] [(o, r.2)] (some (.int r.1)) := by
  refine V_method [(0, .ref (wA G o 0))] (by decide) rfl (Nat.le_of_ble_eq_true rfl) rfl (fun Γ hF => ?_)
  unfold pX11_fault at hf
  refine v_aload_n (pc := 0) 0 dX11_fault_0 rfl ?_
  refine v_iconst (pc := 1) (0 : Int32) dX11_fault_1 ci_0 ?_
  refine pf_RX11_1 (pc := 2) [_] 0 rfl hk0 rfl dX11_fault_2 ?_
  refine v_aload_n (pc := 5) 0 dX11_fault_5 rfl ?_
  refine gf_RX11_161 (pc := 6) 0 rfl hk0 dX11_fault_6 ?_
  have hf2 := Option.some.inj hf; subst hf2
  exact V_iret (pc := 9) hF dX11_fault_9
set_option maxRecDepth 20000 in
theorem kX11_isPerson {G : Wc} {o : Nat} {S : Ob} {a : Int32} {r : Int32} (hk0 : kd o = 10) (hf : pX11_isPerson S  a = some r) : Cn yX11_isPerson cX11_isPerson 2 (some .boolean) 2 82 G [.ref (wA G o 0), .int a] [(o, S)] [(o, S)] (some (.int r)) := by
  refine V_method [(0, .ref (wA G o 0)), (1, .int a)] (by decide) rfl (Nat.le_of_ble_eq_true rfl) rfl (fun Γ hF => ?_)
  unfold pX11_isPerson at hf
  refine v_iload_n (pc := 0) 1 dX11_isPerson_0 rfl ?_
  refine v_iconst (pc := 1) (0 : Int32) dX11_isPerson_1 ci_0 ?_
  refine v_aload_n (pc := 2) 0 dX11_isPerson_2 rfl ?_
  refine gf_RX11_33 (pc := 3) 0 rfl hk0 dX11_isPerson_3 ?_
  refine v_iconst (pc := 6) (1 : Int32) dX11_isPerson_6 ci_1 ?_
  refine al_X11_6 (pc := 7) 1 0 rfl hk0 rfl ib_1_390 dX11_isPerson_7 ?_
  refine v_iconst (pc := 8) (1 : Int32) dX11_isPerson_8 ci_1 ?_
  refine v_isub (pc := 9) dX11_isPerson_9 ?_
  replace hf := bd_some hf; obtain ⟨r1, h2, hf⟩ := hf
  refine V_callS (pc := 10) (us1 := [_]) [] (kX11_isIn  h2) rfl rfl rfl rfl wm_RX11_176 md_X11_isIn (Nat.le_of_ble_eq_true rfl) (Nat.le_of_ble_eq_true rfl) rfl rfl (Nat.le_of_ble_eq_true rfl) dX11_isPerson_10 ?_
  replace hf := gd_some hf; obtain ⟨g3, hf⟩ := hf
  have hf2 := Option.some.inj hf; subst hf2
  exact V_zret (pc := 13) hF g3 dX11_isPerson_13
set_option maxRecDepth 20000 in
theorem kX11_isThing {G : Wc} {o : Nat} {S : Ob} {a : Int32} {r : Int32} (hk0 : kd o = 10) (hf : pX11_isThing S  a = some r) : Cn yX11_isThing cX11_isThing 2 (some .boolean) 2 82 G [.ref (wA G o 0), .int a] [(o, S)] [(o, S)] (some (.int r)) := by
  refine V_method [(0, .ref (wA G o 0)), (1, .int a)] (by decide) rfl (Nat.le_of_ble_eq_true rfl) rfl (fun Γ hF => ?_)
  unfold pX11_isThing at hf
  refine v_iload_n (pc := 0) 1 dX11_isThing_0 rfl ?_
  refine v_iconst (pc := 1) (0 : Int32) dX11_isThing_1 ci_0 ?_
  refine v_aload_n (pc := 2) 0 dX11_isThing_2 rfl ?_
  refine gf_RX11_33 (pc := 3) 0 rfl hk0 dX11_isThing_3 ?_
  refine v_iconst (pc := 6) (0 : Int32) dX11_isThing_6 ci_0 ?_
  refine al_X11_6 (pc := 7) 0 0 rfl hk0 rfl ib_0_390 dX11_isThing_7 ?_
  refine v_iconst (pc := 8) (1 : Int32) dX11_isThing_8 ci_1 ?_
  refine v_isub (pc := 9) dX11_isThing_9 ?_
  replace hf := bd_some hf; obtain ⟨r1, h2, hf⟩ := hf
  refine V_callS (pc := 10) (us1 := [_]) [] (kX11_isIn  h2) rfl rfl rfl rfl wm_RX11_176 md_X11_isIn (Nat.le_of_ble_eq_true rfl) (Nat.le_of_ble_eq_true rfl) rfl rfl (Nat.le_of_ble_eq_true rfl) dX11_isThing_10 ?_
  replace hf := gd_some hf; obtain ⟨g3, hf⟩ := hf
  have hf2 := Option.some.inj hf; subst hf2
  exact V_zret (pc := 13) hF g3 dX11_isThing_13
set_option maxRecDepth 20000 in
theorem kX11_isBed {G : Wc} {o : Nat} {S : Ob} {a : Int32} {r : Int32} (hk0 : kd o = 10) (hf : pX11_isBed S  a = some r) : Cn yX11_isBed cX11_isBed 2 (some .boolean) 2 82 G [.ref (wA G o 0), .int a] [(o, S)] [(o, S)] (some (.int r)) := by
  refine V_method [(0, .ref (wA G o 0)), (1, .int a)] (by decide) rfl (Nat.le_of_ble_eq_true rfl) rfl (fun Γ hF => ?_)
  unfold pX11_isBed at hf
  refine v_iload_n (pc := 0) 1 dX11_isBed_0 rfl ?_
  refine v_iconst (pc := 1) (0 : Int32) dX11_isBed_1 ci_0 ?_
  refine v_aload_n (pc := 2) 0 dX11_isBed_2 rfl ?_
  refine gf_RX11_33 (pc := 3) 0 rfl hk0 dX11_isBed_3 ?_
  refine v_iconst (pc := 6) (3 : Int32) dX11_isBed_6 ci_3 ?_
  refine al_X11_6 (pc := 7) 3 0 rfl hk0 rfl ib_3_390 dX11_isBed_7 ?_
  refine v_iconst (pc := 8) (1 : Int32) dX11_isBed_8 ci_1 ?_
  refine v_isub (pc := 9) dX11_isBed_9 ?_
  replace hf := bd_some hf; obtain ⟨r1, h2, hf⟩ := hf
  refine V_callS (pc := 10) (us1 := [_]) [] (kX11_isIn  h2) rfl rfl rfl rfl wm_RX11_176 md_X11_isIn (Nat.le_of_ble_eq_true rfl) (Nat.le_of_ble_eq_true rfl) rfl rfl (Nat.le_of_ble_eq_true rfl) dX11_isBed_10 ?_
  replace hf := gd_some hf; obtain ⟨g3, hf⟩ := hf
  have hf2 := Option.some.inj hf; subst hf2
  exact V_zret (pc := 13) hF g3 dX11_isBed_13
set_option maxRecDepth 20000 in
theorem kX11_fromOutside {G : Wc} {o : Nat} {S : Ob} {a : Int32} {b : Int32} {r : Int32} (hk0 : kd o = 10) (hf : pX11_fromOutside S  a b = some r) : Cn yX11_fromOutside cX11_fromOutside 3 (some .int) 1 60 G [.ref (wA G o 0), .int a, .int b] [(o, S)] [(o, S)] (some (.int r)) := by
  refine V_method [(0, .ref (wA G o 0)), (1, .int a), (2, .int b)] (by decide) rfl (Nat.le_of_ble_eq_true rfl) rfl (fun Γ hF => ?_)
  unfold pX11_fromOutside at hf
  refine v_iload_n (pc := 0) 2 dX11_fromOutside_0 rfl ?_
  refine v_aload_n (pc := 1) 0 dX11_fromOutside_1 rfl ?_
  refine gf_RX11_33 (pc := 2) 0 rfl hk0 dX11_fromOutside_2 ?_
  refine v_bipush (pc := 5) (125 : Int32) dX11_fromOutside_5 cb_125 ?_
  refine v_iload_n (pc := 7) 1 dX11_fromOutside_7 rfl ?_
  refine v_iadd (pc := 8) dX11_fromOutside_8 ?_
  replace hf := gd_some hf; obtain ⟨g1, hf⟩ := hf
  refine al_X11_6 (pc := 9) _ 0 rfl hk0 rfl g1 dX11_fromOutside_9 ?_
  refine v_icmp_ge (pc := 10) 43 dX11_fromOutside_10 (by decide) (fun c2 => ?_) (fun c2 => ?_)
  · replace hf := it_t c2 hf
    refine v_iconst (pc := 43) (-1 : Int32) dX11_fromOutside_43 ci_m1 ?_
    have hf2 := Option.some.inj hf; subst hf2
    exact V_iret (pc := 44) hF dX11_fromOutside_44
  · replace hf := it_f c2 hf
    refine v_aload_n (pc := 13) 0 dX11_fromOutside_13 rfl ?_
    refine gf_RX11_33 (pc := 14) 0 rfl hk0 dX11_fromOutside_14 ?_
    refine v_sipush (pc := 17) (131 : Int32) dX11_fromOutside_17 cs_131 ?_
    refine v_bipush (pc := 20) (8 : Int32) dX11_fromOutside_20 cb_8 ?_
    refine v_iload_n (pc := 22) 1 dX11_fromOutside_22 rfl ?_
    refine v_imul (pc := 23) dX11_fromOutside_23 ?_
    refine v_iadd (pc := 24) dX11_fromOutside_24 ?_
    refine v_aload_n (pc := 25) 0 dX11_fromOutside_25 rfl ?_
    refine gf_RX11_33 (pc := 26) 0 rfl hk0 dX11_fromOutside_26 ?_
    refine v_bipush (pc := 29) (125 : Int32) dX11_fromOutside_29 cb_125 ?_
    refine v_iload_n (pc := 31) 1 dX11_fromOutside_31 rfl ?_
    refine v_iadd (pc := 32) dX11_fromOutside_32 ?_
    replace hf := gd_some hf; obtain ⟨g3, hf⟩ := hf
    refine al_X11_6 (pc := 33) _ 0 rfl hk0 rfl g3 dX11_fromOutside_33 ?_
    refine v_iadd (pc := 34) dX11_fromOutside_34 ?_
    refine v_iconst (pc := 35) (1 : Int32) dX11_fromOutside_35 ci_1 ?_
    refine v_isub (pc := 36) dX11_fromOutside_36 ?_
    refine v_iload_n (pc := 37) 2 dX11_fromOutside_37 rfl ?_
    refine v_isub (pc := 38) dX11_fromOutside_38 ?_
    replace hf := gd_some hf; obtain ⟨g4, hf⟩ := hf
    refine al_X11_6 (pc := 39) _ 0 rfl hk0 rfl g4 dX11_fromOutside_39 ?_
    refine v_goto (pc := 40) 44 dX11_fromOutside_40 (by decide) ?_
    have hf2 := Option.some.inj hf; subst hf2
    exact V_iret (pc := 44) hF dX11_fromOutside_44
set_option maxRecDepth 20000 in
theorem wX11_knotAt_l2 {G : Wc} {Γ : Cx} {o : Nat} {S : Ob} {l1 : Int32} {l2 : Int32} (hk0 : kd o = 10) : ∀ (n : Nat) {l3 : Int32} {r : Int32}, pX11_knotAt_l2  S l1 l2 n l3 = some r → V cX11_knotAt RX11 2 82 4 G Γ [(o, S)] 40 [(3, .int r)] [] → V cX11_knotAt RX11 2 82 4 G Γ [(o, S)] 2 [(0, .ref (wA G o 0)), (1, .int l1), (2, .int l2), (3, .int l3)] [] := by
  intro n
  induction n with
  | zero => intro l3 r hf hx; unfold pX11_knotAt_l2 at hf; cases hf
  | succ n ih =>
    intro l3 r hf hx
    have hrec : ∀ {l3 : Int32}, pX11_knotAt_l2  S l1 l2 n l3 = some r → V cX11_knotAt RX11 2 82 4 G Γ [(o, S)] 2 [(0, .ref (wA G o 0)), (1, .int l1), (2, .int l2), (3, .int l3)] [] := fun h => ih h hx
    clear ih
    unfold pX11_knotAt_l2 at hf
    refine v_iload_n (pc := 2) 2 dX11_knotAt_2 rfl ?_
    refine v_iload_n (pc := 3) 3 dX11_knotAt_3 rfl ?_
    refine v_iadd (pc := 4) dX11_knotAt_4 ?_
    refine v_aload_n (pc := 5) 0 dX11_knotAt_5 rfl ?_
    refine gf_RX11_33 (pc := 6) 0 rfl hk0 dX11_knotAt_6 ?_
    refine v_bipush (pc := 9) (125 : Int32) dX11_knotAt_9 cb_125 ?_
    refine v_iload_n (pc := 11) 1 dX11_knotAt_11 rfl ?_
    refine v_iadd (pc := 12) dX11_knotAt_12 ?_
    replace hf := gd_some hf; obtain ⟨g1, hf⟩ := hf
    refine al_X11_6 (pc := 13) _ 0 rfl hk0 rfl g1 dX11_knotAt_13 ?_
    refine v_icmp_ge (pc := 14) 40 dX11_knotAt_14 (by decide) (fun c2 => ?_) (fun c2 => ?_)
    · replace hf := it_t c2 hf
      have hf2 := Option.some.inj hf; subst hf2
      exact V_sub [3] rfl hx
    · replace hf := it_f c2 hf
      refine v_aload_n (pc := 17) 0 dX11_knotAt_17 rfl ?_
      refine v_iload_n (pc := 18) 1 dX11_knotAt_18 rfl ?_
      refine v_iload_n (pc := 19) 2 dX11_knotAt_19 rfl ?_
      refine v_iload_n (pc := 20) 3 dX11_knotAt_20 rfl ?_
      refine v_iadd (pc := 21) dX11_knotAt_21 ?_
      replace hf := bd_some hf; obtain ⟨r3, h4, hf⟩ := hf
      refine V_call (pc := 22) (us1 := [_]) [0] 0 (kX11_fromOutside (o := o) hk0 h4) rfl rfl rfl rfl rfl hk0 (Nat.le_of_ble_eq_true rfl) rfl rfl rfl wm_RX11_245 md_X11_fromOutside (Nat.le_of_ble_eq_true rfl) (Nat.le_of_ble_eq_true rfl) rfl rfl (Nat.le_of_ble_eq_true rfl) dX11_knotAt_22 ?_
      refine v_aload_n (pc := 25) 0 dX11_knotAt_25 rfl ?_
      refine v_iload_n (pc := 26) 1 dX11_knotAt_26 rfl ?_
      refine v_iload_n (pc := 27) 2 dX11_knotAt_27 rfl ?_
      replace hf := bd_some hf; obtain ⟨r5, h6, hf⟩ := hf
      refine V_call (pc := 28) (us1 := [_]) [0] 0 (kX11_fromOutside (o := o) hk0 h6) rfl rfl rfl rfl rfl hk0 (Nat.le_of_ble_eq_true rfl) rfl rfl rfl wm_RX11_245 md_X11_fromOutside (Nat.le_of_ble_eq_true rfl) (Nat.le_of_ble_eq_true rfl) rfl rfl (Nat.le_of_ble_eq_true rfl) dX11_knotAt_28 ?_
      refine v_icmp_ne (pc := 31) 40 dX11_knotAt_31 (by decide) (fun c7 => ?_) (fun c7 => ?_)
      · replace hf := it_f c7 hf
        have hf2 := Option.some.inj hf; subst hf2
        exact V_sub [3] rfl hx
      · replace hf := it_t c7 hf
        refine v_iinc (pc := 34) 3 (l3 + (1 : Int32)) [(3, _), (0, _), (1, _), (2, _)] dX11_knotAt_34 rfl (congrArg (fun z => _ + z) ci_1) (Nat.le_of_ble_eq_true rfl) rfl ?_
        refine v_goto (pc := 37) 2 dX11_knotAt_37 (by decide) ?_
        exact V_sub [1, 2, 3, 0] rfl (hrec hf)
set_option maxRecDepth 20000 in
theorem kX11_knotAt {G : Wc} {o : Nat} {S : Ob} {a : Int32} {b : Int32} {r : Int32} (hk0 : kd o = 10) (hf : pX11_knotAt S  a b = some r) : Cn yX11_knotAt cX11_knotAt 4 (some .int) 2 82 G [.ref (wA G o 0), .int a, .int b] [(o, S)] [(o, S)] (some (.int r)) := by
  refine V_method [(0, .ref (wA G o 0)), (1, .int a), (2, .int b)] (by decide) rfl (Nat.le_of_ble_eq_true rfl) rfl (fun Γ hF => ?_)
  unfold pX11_knotAt at hf
  refine v_iconst (pc := 0) (0 : Int32) dX11_knotAt_0 ci_0 ?_
  refine v_istore_n (pc := 1) [(3, _), (0, _), (1, _), (2, _)] dX11_knotAt_1 (Nat.le_of_ble_eq_true rfl) rfl ?_
  replace hf := bd_some hf; obtain ⟨r8, h9, hf⟩ := hf
  refine V_sub [1, 2, 3, 0] rfl (wX11_knotAt_l2 hk0 fu h9 ?_)
  refine v_iload_n (pc := 40) 0 dX11_knotAt_40 rfl ?_
  have hf2 := Option.some.inj hf; subst hf2
  exact V_iret (pc := 41) hF dX11_knotAt_41
set_option maxRecDepth 20000 in
theorem kX11_knotHolds {G : Wc} {o : Nat} {S : Ob} {a : Int32} {b : Int32} {r : Int32} (hk0 : kd o = 10) (hf : pX11_knotHolds S  a b = some r) : Cn yX11_knotHolds cX11_knotHolds 3 (some .int) 3 105 G [.ref (wA G o 0), .int a, .int b] [(o, S)] [(o, S)] (some (.int r)) := by
  refine V_method [(0, .ref (wA G o 0)), (1, .int a), (2, .int b)] (by decide) rfl (Nat.le_of_ble_eq_true rfl) rfl (fun Γ hF => ?_)
  unfold pX11_knotHolds at hf
  refine v_iload_n (pc := 0) 2 dX11_knotHolds_0 rfl ?_
  refine v_aload_n (pc := 1) 0 dX11_knotHolds_1 rfl ?_
  refine gf_RX11_33 (pc := 2) 0 rfl hk0 dX11_knotHolds_2 ?_
  refine v_bipush (pc := 5) (125 : Int32) dX11_knotHolds_5 cb_125 ?_
  refine v_iload_n (pc := 7) 1 dX11_knotHolds_7 rfl ?_
  refine v_iadd (pc := 8) dX11_knotHolds_8 ?_
  replace hf := gd_some hf; obtain ⟨g1, hf⟩ := hf
  refine al_X11_6 (pc := 9) _ 0 rfl hk0 rfl g1 dX11_knotHolds_9 ?_
  refine v_icmp_ge (pc := 10) 36 dX11_knotHolds_10 (by decide) (fun c2 => ?_) (fun c2 => ?_)
  · replace hf := it_t c2 hf
    refine v_iconst (pc := 36) (0 : Int32) dX11_knotHolds_36 ci_0 ?_
    have hf2 := Option.some.inj hf; subst hf2
    exact V_iret (pc := 37) hF dX11_knotHolds_37
  · replace hf := it_f c2 hf
    refine v_aload_n (pc := 13) 0 dX11_knotHolds_13 rfl ?_
    refine v_iload_n (pc := 14) 1 dX11_knotHolds_14 rfl ?_
    refine v_iload_n (pc := 15) 2 dX11_knotHolds_15 rfl ?_
    replace hf := bd_some hf; obtain ⟨r3, h4, hf⟩ := hf
    refine V_call (pc := 16) (us1 := [_]) [0] 0 (kX11_knotAt (o := o) hk0 h4) rfl rfl rfl rfl rfl hk0 (Nat.le_of_ble_eq_true rfl) rfl rfl rfl wm_RX11_248 md_X11_knotAt (Nat.le_of_ble_eq_true rfl) (Nat.le_of_ble_eq_true rfl) rfl rfl (Nat.le_of_ble_eq_true rfl) dX11_knotHolds_16 ?_
    refine v_aload_n (pc := 19) 0 dX11_knotHolds_19 rfl ?_
    refine gf_RX11_33 (pc := 20) 0 rfl hk0 dX11_knotHolds_20 ?_
    refine v_iconst (pc := 23) (5 : Int32) dX11_knotHolds_23 ci_5 ?_
    refine v_aload_n (pc := 24) 0 dX11_knotHolds_24 rfl ?_
    refine v_iload_n (pc := 25) 1 dX11_knotHolds_25 rfl ?_
    refine v_iload_n (pc := 26) 2 dX11_knotHolds_26 rfl ?_
    replace hf := bd_some hf; obtain ⟨r5, h6, hf⟩ := hf
    refine V_call (pc := 27) (us1 := [_]) [0] 0 (kX11_fromOutside (o := o) hk0 h6) rfl rfl rfl rfl rfl hk0 (Nat.le_of_ble_eq_true rfl) rfl rfl rfl wm_RX11_245 md_X11_fromOutside (Nat.le_of_ble_eq_true rfl) (Nat.le_of_ble_eq_true rfl) rfl rfl (Nat.le_of_ble_eq_true rfl) dX11_knotHolds_27 ?_
    refine v_iadd (pc := 30) dX11_knotHolds_30 ?_
    replace hf := gd_some hf; obtain ⟨g7, hf⟩ := hf
    refine al_X11_6 (pc := 31) _ 0 rfl hk0 rfl g7 dX11_knotHolds_31 ?_
    refine v_imul (pc := 32) dX11_knotHolds_32 ?_
    refine v_goto (pc := 33) 37 dX11_knotHolds_33 (by decide) ?_
    have hf2 := Option.some.inj hf; subst hf2
    exact V_iret (pc := 37) hF dX11_knotHolds_37
set_option maxRecDepth 20000 in
theorem wX11_knotsOf_l4 {G : Wc} {Γ : Cx} {o : Nat} {S : Ob} {l1 : Int32} (hk0 : kd o = 10) : ∀ (n : Nat) {l2 : Int32} {l3 : Int32} {r : Int32}, pX11_knotsOf_l4  S l1 n l2 l3 = some r → V cX11_knotsOf RX11 3 105 4 G Γ [(o, S)] 32 [(2, .int r)] [] → V cX11_knotsOf RX11 3 105 4 G Γ [(o, S)] 4 [(0, .ref (wA G o 0)), (1, .int l1), (2, .int l2), (3, .int l3)] [] := by
  intro n
  induction n with
  | zero => intro l2 l3 r hf hx; unfold pX11_knotsOf_l4 at hf; cases hf
  | succ n ih =>
    intro l2 l3 r hf hx
    have hrec : ∀ {l2 : Int32} {l3 : Int32}, pX11_knotsOf_l4  S l1 n l2 l3 = some r → V cX11_knotsOf RX11 3 105 4 G Γ [(o, S)] 4 [(0, .ref (wA G o 0)), (1, .int l1), (2, .int l2), (3, .int l3)] [] := fun h => ih h hx
    clear ih
    unfold pX11_knotsOf_l4 at hf
    refine v_iload_n (pc := 4) 3 dX11_knotsOf_4 rfl ?_
    refine v_aload_n (pc := 5) 0 dX11_knotsOf_5 rfl ?_
    refine gf_RX11_33 (pc := 6) 0 rfl hk0 dX11_knotsOf_6 ?_
    refine v_bipush (pc := 9) (125 : Int32) dX11_knotsOf_9 cb_125 ?_
    refine v_iload_n (pc := 11) 1 dX11_knotsOf_11 rfl ?_
    refine v_iadd (pc := 12) dX11_knotsOf_12 ?_
    replace hf := gd_some hf; obtain ⟨g1, hf⟩ := hf
    refine al_X11_6 (pc := 13) _ 0 rfl hk0 rfl g1 dX11_knotsOf_13 ?_
    refine v_icmp_ge (pc := 14) 32 dX11_knotsOf_14 (by decide) (fun c2 => ?_) (fun c2 => ?_)
    · replace hf := it_t c2 hf
      have hf2 := Option.some.inj hf; subst hf2
      exact V_sub [2] rfl hx
    · replace hf := it_f c2 hf
      refine v_iinc (pc := 17) 2 (l2 + (1 : Int32)) [(2, _), (0, _), (1, _), (3, _)] dX11_knotsOf_17 rfl (congrArg (fun z => _ + z) ci_1) (Nat.le_of_ble_eq_true rfl) rfl ?_
      refine v_iload_n (pc := 20) 3 dX11_knotsOf_20 rfl ?_
      refine v_aload_n (pc := 21) 1 dX11_knotsOf_21 rfl ?_
      refine v_iload_n (pc := 22) 2 dX11_knotsOf_22 rfl ?_
      refine v_iload_n (pc := 23) 3 dX11_knotsOf_23 rfl ?_
      replace hf := bd_some hf; obtain ⟨r3, h4, hf⟩ := hf
      refine V_call (pc := 24) (us1 := [_]) [0] 0 (kX11_knotAt (o := o) hk0 h4) rfl rfl rfl rfl rfl hk0 (Nat.le_of_ble_eq_true rfl) rfl rfl rfl wm_RX11_248 md_X11_knotAt (Nat.le_of_ble_eq_true rfl) (Nat.le_of_ble_eq_true rfl) rfl rfl (Nat.le_of_ble_eq_true rfl) dX11_knotsOf_24 ?_
      refine v_iadd (pc := 27) dX11_knotsOf_27 ?_
      refine v_istore_n (pc := 28) [(3, _), (2, _), (0, _), (1, _)] dX11_knotsOf_28 (Nat.le_of_ble_eq_true rfl) rfl ?_
      refine v_goto (pc := 29) 4 dX11_knotsOf_29 (by decide) ?_
      exact V_sub [2, 3, 1, 0] rfl (hrec hf)
set_option maxRecDepth 20000 in
theorem kX11_knotsOf {G : Wc} {o : Nat} {S : Ob} {a : Int32} {r : Int32} (hk0 : kd o = 10) (hf : pX11_knotsOf S  a = some r) : Cn yX11_knotsOf cX11_knotsOf 4 (some .int) 3 105 G [.ref (wA G o 0), .int a] [(o, S)] [(o, S)] (some (.int r)) := by
  refine V_method [(0, .ref (wA G o 0)), (1, .int a)] (by decide) rfl (Nat.le_of_ble_eq_true rfl) rfl (fun Γ hF => ?_)
  unfold pX11_knotsOf at hf
  refine v_iconst (pc := 0) (0 : Int32) dX11_knotsOf_0 ci_0 ?_
  refine v_istore_n (pc := 1) [(2, _), (0, _), (1, _)] dX11_knotsOf_1 (Nat.le_of_ble_eq_true rfl) rfl ?_
  refine v_iconst (pc := 2) (0 : Int32) dX11_knotsOf_2 ci_0 ?_
  refine v_istore_n (pc := 3) [(3, _), (2, _), (0, _), (1, _)] dX11_knotsOf_3 (Nat.le_of_ble_eq_true rfl) rfl ?_
  replace hf := bd_some hf; obtain ⟨r5, h6, hf⟩ := hf
  refine V_sub [2, 3, 1, 0] rfl (wX11_knotsOf_l4 hk0 fu h6 ?_)
  refine v_iload_n (pc := 32) 0 dX11_knotsOf_32 rfl ?_
  have hf2 := Option.some.inj hf; subst hf2
  exact V_iret (pc := 33) hF dX11_knotsOf_33
set_option maxRecDepth 20000 in
theorem wX11_holdsOf_l4 {G : Wc} {Γ : Cx} {o : Nat} {S : Ob} {l1 : Int32} (hk0 : kd o = 10) : ∀ (n : Nat) {l2 : Int32} {l3 : Int32} {r : Int32}, pX11_holdsOf_l4  S l1 n l2 l3 = some r → V cX11_holdsOf RX11 2 82 4 G Γ [(o, S)] 39 [(2, .int r)] [] → V cX11_holdsOf RX11 2 82 4 G Γ [(o, S)] 4 [(0, .ref (wA G o 0)), (1, .int l1), (2, .int l2), (3, .int l3)] [] := by
  intro n
  induction n with
  | zero => intro l2 l3 r hf hx; unfold pX11_holdsOf_l4 at hf; cases hf
  | succ n ih =>
    intro l2 l3 r hf hx
    have hrec : ∀ {l2 : Int32} {l3 : Int32}, pX11_holdsOf_l4  S l1 n l2 l3 = some r → V cX11_holdsOf RX11 2 82 4 G Γ [(o, S)] 4 [(0, .ref (wA G o 0)), (1, .int l1), (2, .int l2), (3, .int l3)] [] := fun h => ih h hx
    clear ih
    unfold pX11_holdsOf_l4 at hf
    refine v_iload_n (pc := 4) 3 dX11_holdsOf_4 rfl ?_
    refine v_aload_n (pc := 5) 0 dX11_holdsOf_5 rfl ?_
    refine gf_RX11_33 (pc := 6) 0 rfl hk0 dX11_holdsOf_6 ?_
    refine v_bipush (pc := 9) (125 : Int32) dX11_holdsOf_9 cb_125 ?_
    refine v_iload_n (pc := 11) 1 dX11_holdsOf_11 rfl ?_
    refine v_iadd (pc := 12) dX11_holdsOf_12 ?_
    replace hf := gd_some hf; obtain ⟨g1, hf⟩ := hf
    refine al_X11_6 (pc := 13) _ 0 rfl hk0 rfl g1 dX11_holdsOf_13 ?_
    refine v_icmp_ge (pc := 14) 39 dX11_holdsOf_14 (by decide) (fun c2 => ?_) (fun c2 => ?_)
    · replace hf := it_t c2 hf
      have hf2 := Option.some.inj hf; subst hf2
      exact V_sub [2] rfl hx
    · replace hf := it_f c2 hf
      refine v_iload_n (pc := 17) 2 dX11_holdsOf_17 rfl ?_
      refine v_aload_n (pc := 18) 0 dX11_holdsOf_18 rfl ?_
      refine gf_RX11_33 (pc := 19) 0 rfl hk0 dX11_holdsOf_19 ?_
      refine v_iconst (pc := 22) (5 : Int32) dX11_holdsOf_22 ci_5 ?_
      refine v_aload_n (pc := 23) 0 dX11_holdsOf_23 rfl ?_
      refine v_iload_n (pc := 24) 1 dX11_holdsOf_24 rfl ?_
      refine v_iload_n (pc := 25) 3 dX11_holdsOf_25 rfl ?_
      replace hf := bd_some hf; obtain ⟨r3, h4, hf⟩ := hf
      refine V_call (pc := 26) (us1 := [_]) [0] 0 (kX11_fromOutside (o := o) hk0 h4) rfl rfl rfl rfl rfl hk0 (Nat.le_of_ble_eq_true rfl) rfl rfl rfl wm_RX11_245 md_X11_fromOutside (Nat.le_of_ble_eq_true rfl) (Nat.le_of_ble_eq_true rfl) rfl rfl (Nat.le_of_ble_eq_true rfl) dX11_holdsOf_26 ?_
      refine v_iadd (pc := 29) dX11_holdsOf_29 ?_
      replace hf := gd_some hf; obtain ⟨g5, hf⟩ := hf
      refine al_X11_6 (pc := 30) _ 0 rfl hk0 rfl g5 dX11_holdsOf_30 ?_
      refine v_iadd (pc := 31) dX11_holdsOf_31 ?_
      refine v_istore_n (pc := 32) [(2, _), (0, _), (1, _), (3, _)] dX11_holdsOf_32 (Nat.le_of_ble_eq_true rfl) rfl ?_
      refine v_iinc (pc := 33) 3 (l3 + (1 : Int32)) [(3, _), (2, _), (0, _), (1, _)] dX11_holdsOf_33 rfl (congrArg (fun z => _ + z) ci_1) (Nat.le_of_ble_eq_true rfl) rfl ?_
      refine v_goto (pc := 36) 4 dX11_holdsOf_36 (by decide) ?_
      exact V_sub [2, 3, 1, 0] rfl (hrec hf)
set_option maxRecDepth 20000 in
theorem kX11_holdsOf {G : Wc} {o : Nat} {S : Ob} {a : Int32} {r : Int32} (hk0 : kd o = 10) (hf : pX11_holdsOf S  a = some r) : Cn yX11_holdsOf cX11_holdsOf 4 (some .int) 2 82 G [.ref (wA G o 0), .int a] [(o, S)] [(o, S)] (some (.int r)) := by
  refine V_method [(0, .ref (wA G o 0)), (1, .int a)] (by decide) rfl (Nat.le_of_ble_eq_true rfl) rfl (fun Γ hF => ?_)
  unfold pX11_holdsOf at hf
  refine v_iconst (pc := 0) (0 : Int32) dX11_holdsOf_0 ci_0 ?_
  refine v_istore_n (pc := 1) [(2, _), (0, _), (1, _)] dX11_holdsOf_1 (Nat.le_of_ble_eq_true rfl) rfl ?_
  refine v_iconst (pc := 2) (0 : Int32) dX11_holdsOf_2 ci_0 ?_
  refine v_istore_n (pc := 3) [(3, _), (2, _), (0, _), (1, _)] dX11_holdsOf_3 (Nat.le_of_ble_eq_true rfl) rfl ?_
  replace hf := bd_some hf; obtain ⟨r6, h7, hf⟩ := hf
  refine V_sub [2, 3, 1, 0] rfl (wX11_holdsOf_l4 hk0 fu h7 ?_)
  refine v_iload_n (pc := 39) 0 dX11_holdsOf_39 rfl ?_
  have hf2 := Option.some.inj hf; subst hf2
  exact V_iret (pc := 40) hF dX11_holdsOf_40
set_option maxRecDepth 20000 in
theorem kX11_isNest {G : Wc} {o : Nat} {S : Ob} {a : Int32} {r : Int32} (hk0 : kd o = 10) (hf : pX11_isNest S  a = some r) : Cn yX11_isNest cX11_isNest 2 (some .boolean) 1 60 G [.ref (wA G o 0), .int a] [(o, S)] [(o, S)] (some (.int r)) := by
  refine V_method [(0, .ref (wA G o 0)), (1, .int a)] (by decide) rfl (Nat.le_of_ble_eq_true rfl) rfl (fun Γ hF => ?_)
  unfold pX11_isNest at hf
  refine v_aload_n (pc := 0) 0 dX11_isNest_0 rfl ?_
  refine gf_RX11_33 (pc := 1) 0 rfl hk0 dX11_isNest_1 ?_
  refine v_bipush (pc := 4) (125 : Int32) dX11_isNest_4 cb_125 ?_
  refine v_iload_n (pc := 6) 1 dX11_isNest_6 rfl ?_
  refine v_iadd (pc := 7) dX11_isNest_7 ?_
  replace hf := gd_some hf; obtain ⟨g1, hf⟩ := hf
  refine al_X11_6 (pc := 8) _ 0 rfl hk0 rfl g1 dX11_isNest_8 ?_
  refine v_bipush (pc := 9) (8 : Int32) dX11_isNest_9 cb_8 ?_
  refine v_icmp_ne (pc := 11) 18 dX11_isNest_11 (by decide) (fun c2 => ?_) (fun c2 => ?_)
  · replace hf := it_f c2 hf
    refine v_iconst (pc := 18) (0 : Int32) dX11_isNest_18 ci_0 ?_
    have hf2 := Option.some.inj hf; subst hf2
    exact V_zret (pc := 19) hF rfl dX11_isNest_19
  · replace hf := it_t c2 hf
    refine v_iconst (pc := 14) (1 : Int32) dX11_isNest_14 ci_1 ?_
    refine v_goto (pc := 15) 19 dX11_isNest_15 (by decide) ?_
    have hf2 := Option.some.inj hf; subst hf2
    exact V_zret (pc := 19) hF rfl dX11_isNest_19
set_option maxRecDepth 20000 in
theorem wX11_hasThing_j43 {G : Wc} {Γ : Cx} {o : Nat} {S : Ob} {l1 : Int32} {l2 : Int32} {l3 : Int32} {l4 : Int32} {r : Int32} (hk0 : kd o = 10) {rec : Int32 → Int32 → Option (Int32)} (hrec : ∀ {l3 : Int32} {l4 : Int32}, rec l3 l4 = some r → V cX11_hasThing RX11 1 60 5 G Γ [(o, S)] 5 [(0, .ref (wA G o 0)), (1, .int l1), (2, .int l2), (3, .int l3), (4, .int l4)] []) (hx : V cX11_hasThing RX11 1 60 5 G Γ [(o, S)] 55 [(3, .int r)] []) (hf : pX11_hasThing_j43 rec S l1 l2 l3 l4 = some r) : V cX11_hasThing RX11 1 60 5 G Γ [(o, S)] 43 [(0, .ref (wA G o 0)), (1, .int l1), (2, .int l2), (3, .int l3), (4, .int l4)] [] := by
  unfold pX11_hasThing_j43 at hf
  refine v_iconst (pc := 43) (1 : Int32) dX11_hasThing_43 ci_1 ?_
  refine v_goto (pc := 44) 48 dX11_hasThing_44 (by decide) ?_
  refine v_istore_n (pc := 48) [(3, _), (0, _), (1, _), (2, _), (4, _)] dX11_hasThing_48 (Nat.le_of_ble_eq_true rfl) rfl ?_
  refine v_iinc (pc := 49) 4 (l4 + (1 : Int32)) [(4, _), (3, _), (0, _), (1, _), (2, _)] dX11_hasThing_49 rfl (congrArg (fun z => _ + z) ci_1) (Nat.le_of_ble_eq_true rfl) rfl ?_
  refine v_goto (pc := 52) 5 dX11_hasThing_52 (by decide) ?_
  exact V_sub [2, 3, 4, 1, 0] rfl (hrec hf)
set_option maxRecDepth 20000 in
theorem wX11_hasThing_l5 {G : Wc} {Γ : Cx} {o : Nat} {S : Ob} {l1 : Int32} {l2 : Int32} (hk0 : kd o = 10) : ∀ (n : Nat) {l3 : Int32} {l4 : Int32} {r : Int32}, pX11_hasThing_l5  S l1 l2 n l3 l4 = some r → V cX11_hasThing RX11 1 60 5 G Γ [(o, S)] 55 [(3, .int r)] [] → V cX11_hasThing RX11 1 60 5 G Γ [(o, S)] 5 [(0, .ref (wA G o 0)), (1, .int l1), (2, .int l2), (3, .int l3), (4, .int l4)] [] := by
  intro n
  induction n with
  | zero => intro l3 l4 r hf hx; unfold pX11_hasThing_l5 at hf; cases hf
  | succ n ih =>
    intro l3 l4 r hf hx
    have hrec : ∀ {l3 : Int32} {l4 : Int32}, pX11_hasThing_l5  S l1 l2 n l3 l4 = some r → V cX11_hasThing RX11 1 60 5 G Γ [(o, S)] 5 [(0, .ref (wA G o 0)), (1, .int l1), (2, .int l2), (3, .int l3), (4, .int l4)] [] := fun h => ih h hx
    clear ih
    unfold pX11_hasThing_l5 at hf
    refine v_iload (pc := 5) 4 dX11_hasThing_5 rfl ?_
    refine v_aload_n (pc := 7) 0 dX11_hasThing_7 rfl ?_
    refine gf_RX11_33 (pc := 8) 0 rfl hk0 dX11_hasThing_8 ?_
    refine v_bipush (pc := 11) (125 : Int32) dX11_hasThing_11 cb_125 ?_
    refine v_iload_n (pc := 13) 1 dX11_hasThing_13 rfl ?_
    refine v_iadd (pc := 14) dX11_hasThing_14 ?_
    replace hf := gd_some hf; obtain ⟨g1, hf⟩ := hf
    refine al_X11_6 (pc := 15) _ 0 rfl hk0 rfl g1 dX11_hasThing_15 ?_
    refine v_icmp_ge (pc := 16) 55 dX11_hasThing_16 (by decide) (fun c2 => ?_) (fun c2 => ?_)
    · replace hf := it_t c2 hf
      have hf2 := Option.some.inj hf; subst hf2
      exact V_sub [3] rfl hx
    · replace hf := it_f c2 hf
      refine v_iload_n (pc := 19) 3 dX11_hasThing_19 rfl ?_
      refine v_if_ne (pc := 20) 43 dX11_hasThing_20 (by decide) (fun c3 => ?_) (fun c3 => ?_)
      · replace hf := it_f c3 hf
        exact V_sub [0, 1, 2, 3, 4] rfl (wX11_hasThing_j43 hk0 hrec hx hf)
      · replace hf := it_t c3 hf
        refine v_aload_n (pc := 23) 0 dX11_hasThing_23 rfl ?_
        refine gf_RX11_33 (pc := 24) 0 rfl hk0 dX11_hasThing_24 ?_
        refine v_sipush (pc := 27) (131 : Int32) dX11_hasThing_27 cs_131 ?_
        refine v_bipush (pc := 30) (8 : Int32) dX11_hasThing_30 cb_8 ?_
        refine v_iload_n (pc := 32) 1 dX11_hasThing_32 rfl ?_
        refine v_imul (pc := 33) dX11_hasThing_33 ?_
        refine v_iadd (pc := 34) dX11_hasThing_34 ?_
        refine v_iload (pc := 35) 4 dX11_hasThing_35 rfl ?_
        refine v_iadd (pc := 37) dX11_hasThing_37 ?_
        replace hf := gd_some hf; obtain ⟨g4, hf⟩ := hf
        refine al_X11_6 (pc := 38) _ 0 rfl hk0 rfl g4 dX11_hasThing_38 ?_
        refine v_iload_n (pc := 39) 2 dX11_hasThing_39 rfl ?_
        refine v_icmp_ne (pc := 40) 47 dX11_hasThing_40 (by decide) (fun c5 => ?_) (fun c5 => ?_)
        · replace hf := it_f c5 hf
          refine v_iconst (pc := 47) (0 : Int32) dX11_hasThing_47 ci_0 ?_
          refine v_istore_n (pc := 48) [(3, _), (0, _), (1, _), (2, _), (4, _)] dX11_hasThing_48 (Nat.le_of_ble_eq_true rfl) rfl ?_
          refine v_iinc (pc := 49) 4 (l4 + (1 : Int32)) [(4, _), (3, _), (0, _), (1, _), (2, _)] dX11_hasThing_49 rfl (congrArg (fun z => _ + z) ci_1) (Nat.le_of_ble_eq_true rfl) rfl ?_
          refine v_goto (pc := 52) 5 dX11_hasThing_52 (by decide) ?_
          exact V_sub [2, 3, 4, 1, 0] rfl (hrec hf)
        · replace hf := it_t c5 hf
          exact V_sub [0, 1, 2, 3, 4] rfl (wX11_hasThing_j43 hk0 hrec hx hf)
set_option maxRecDepth 20000 in
theorem kX11_hasThing {G : Wc} {o : Nat} {S : Ob} {a : Int32} {b : Int32} {r : Int32} (hk0 : kd o = 10) (hf : pX11_hasThing S  a b = some r) : Cn yX11_hasThing cX11_hasThing 5 (some .boolean) 1 60 G [.ref (wA G o 0), .int a, .int b] [(o, S)] [(o, S)] (some (.int r)) := by
  refine V_method [(0, .ref (wA G o 0)), (1, .int a), (2, .int b)] (by decide) rfl (Nat.le_of_ble_eq_true rfl) rfl (fun Γ hF => ?_)
  unfold pX11_hasThing at hf
  refine v_iconst (pc := 0) (0 : Int32) dX11_hasThing_0 ci_0 ?_
  refine v_istore_n (pc := 1) [(3, _), (0, _), (1, _), (2, _)] dX11_hasThing_1 (Nat.le_of_ble_eq_true rfl) rfl ?_
  refine v_iconst (pc := 2) (0 : Int32) dX11_hasThing_2 ci_0 ?_
  refine v_istore (pc := 3) [(4, _), (3, _), (0, _), (1, _), (2, _)] dX11_hasThing_3 (Nat.le_of_ble_eq_true rfl) rfl ?_
  replace hf := bd_some hf; obtain ⟨r6, h7, hf⟩ := hf
  refine V_sub [2, 3, 4, 1, 0] rfl (wX11_hasThing_l5 hk0 fu h7 ?_)
  refine v_iload_n (pc := 55) 0 dX11_hasThing_55 rfl ?_
  replace hf := gd_some hf; obtain ⟨g8, hf⟩ := hf
  have hf2 := Option.some.inj hf; subst hf2
  exact V_zret (pc := 56) hF g8 dX11_hasThing_56
set_option maxRecDepth 20000 in
theorem wX11_bagged_l4 {G : Wc} {Γ : Cx} {o : Nat} {S : Ob} (hk0 : kd o = 10) : ∀ (n : Nat) {l1 : Int32} {l2 : Int32} {r : Int32}, pX11_bagged_l4  S n l1 l2 = some r → V cX11_bagged RX11 1 60 3 G Γ [(o, S)] 29 [(1, .int r)] [] → V cX11_bagged RX11 1 60 3 G Γ [(o, S)] 4 [(0, .ref (wA G o 0)), (1, .int l1), (2, .int l2)] [] := by
  intro n
  induction n with
  | zero => intro l1 l2 r hf hx; unfold pX11_bagged_l4 at hf; cases hf
  | succ n ih =>
    intro l1 l2 r hf hx
    have hrec : ∀ {l1 : Int32} {l2 : Int32}, pX11_bagged_l4  S n l1 l2 = some r → V cX11_bagged RX11 1 60 3 G Γ [(o, S)] 4 [(0, .ref (wA G o 0)), (1, .int l1), (2, .int l2)] [] := fun h => ih h hx
    clear ih
    unfold pX11_bagged_l4 at hf
    refine v_iload_n (pc := 4) 2 dX11_bagged_4 rfl ?_
    refine v_bipush (pc := 5) (8 : Int32) dX11_bagged_5 cb_8 ?_
    refine v_icmp_ge (pc := 7) 29 dX11_bagged_7 (by decide) (fun c1 => ?_) (fun c1 => ?_)
    · replace hf := it_t c1 hf
      have hf2 := Option.some.inj hf; subst hf2
      exact V_sub [1] rfl hx
    · replace hf := it_f c1 hf
      refine v_iload_n (pc := 10) 1 dX11_bagged_10 rfl ?_
      refine v_aload_n (pc := 11) 0 dX11_bagged_11 rfl ?_
      refine gf_RX11_33 (pc := 12) 0 rfl hk0 dX11_bagged_12 ?_
      refine v_sipush (pc := 15) (185 : Int32) dX11_bagged_15 cs_185 ?_
      refine v_iload_n (pc := 18) 2 dX11_bagged_18 rfl ?_
      refine v_iadd (pc := 19) dX11_bagged_19 ?_
      replace hf := gd_some hf; obtain ⟨g2, hf⟩ := hf
      refine al_X11_6 (pc := 20) _ 0 rfl hk0 rfl g2 dX11_bagged_20 ?_
      refine v_iadd (pc := 21) dX11_bagged_21 ?_
      refine v_istore_n (pc := 22) [(1, _), (0, _), (2, _)] dX11_bagged_22 (Nat.le_of_ble_eq_true rfl) rfl ?_
      refine v_iinc (pc := 23) 2 (l2 + (1 : Int32)) [(2, _), (1, _), (0, _)] dX11_bagged_23 rfl (congrArg (fun z => _ + z) ci_1) (Nat.le_of_ble_eq_true rfl) rfl ?_
      refine v_goto (pc := 26) 4 dX11_bagged_26 (by decide) ?_
      exact V_sub [2, 1, 0] rfl (hrec hf)
set_option maxRecDepth 20000 in
theorem kX11_bagged {G : Wc} {o : Nat} {S : Ob}  {r : Int32} (hk0 : kd o = 10) (hf : pX11_bagged S   = some r) : Cn yX11_bagged cX11_bagged 3 (some .int) 1 60 G [.ref (wA G o 0)] [(o, S)] [(o, S)] (some (.int r)) := by
  refine V_method [(0, .ref (wA G o 0))] (by decide) rfl (Nat.le_of_ble_eq_true rfl) rfl (fun Γ hF => ?_)
  unfold pX11_bagged at hf
  refine v_iconst (pc := 0) (0 : Int32) dX11_bagged_0 ci_0 ?_
  refine v_istore_n (pc := 1) [(1, _), (0, _)] dX11_bagged_1 (Nat.le_of_ble_eq_true rfl) rfl ?_
  refine v_iconst (pc := 2) (0 : Int32) dX11_bagged_2 ci_0 ?_
  refine v_istore_n (pc := 3) [(2, _), (1, _), (0, _)] dX11_bagged_3 (Nat.le_of_ble_eq_true rfl) rfl ?_
  replace hf := bd_some hf; obtain ⟨r3, h4, hf⟩ := hf
  refine V_sub [2, 1, 0] rfl (wX11_bagged_l4 hk0 fu h4 ?_)
  refine v_iload_n (pc := 29) 0 dX11_bagged_29 rfl ?_
  have hf2 := Option.some.inj hf; subst hf2
  exact V_iret (pc := 30) hF dX11_bagged_30
set_option maxRecDepth 20000 in
theorem kX11_isSlept {G : Wc} {o : Nat} {S : Ob} {a : Int32} {r : Int32} (hk0 : kd o = 10) (hf : pX11_isSlept S  a = some r) : Cn yX11_isSlept cX11_isSlept 2 (some .boolean) 1 60 G [.ref (wA G o 0), .int a] [(o, S)] [(o, S)] (some (.int r)) := by
  refine V_method [(0, .ref (wA G o 0)), (1, .int a)] (by decide) rfl (Nat.le_of_ble_eq_true rfl) rfl (fun Γ hF => ?_)
  unfold pX11_isSlept at hf
  refine v_aload_n (pc := 0) 0 dX11_isSlept_0 rfl ?_
  refine gf_RX11_33 (pc := 1) 0 rfl hk0 dX11_isSlept_1 ?_
  refine v_sipush (pc := 4) (193 : Int32) dX11_isSlept_4 cs_193 ?_
  refine v_iload_n (pc := 7) 1 dX11_isSlept_7 rfl ?_
  refine v_iadd (pc := 8) dX11_isSlept_8 ?_
  replace hf := gd_some hf; obtain ⟨g1, hf⟩ := hf
  refine al_X11_6 (pc := 9) _ 0 rfl hk0 rfl g1 dX11_isSlept_9 ?_
  refine v_aload_n (pc := 10) 0 dX11_isSlept_10 rfl ?_
  refine gf_RX11_33 (pc := 11) 0 rfl hk0 dX11_isSlept_11 ?_
  refine v_bipush (pc := 14) (117 : Int32) dX11_isSlept_14 cb_117 ?_
  refine v_iload_n (pc := 16) 1 dX11_isSlept_16 rfl ?_
  refine v_iadd (pc := 17) dX11_isSlept_17 ?_
  replace hf := gd_some hf; obtain ⟨g2, hf⟩ := hf
  refine al_X11_6 (pc := 18) _ 0 rfl hk0 rfl g2 dX11_isSlept_18 ?_
  refine v_icmp_lt (pc := 19) 26 dX11_isSlept_19 (by decide) (fun c3 => ?_) (fun c3 => ?_)
  · replace hf := it_t c3 hf
    refine v_iconst (pc := 26) (0 : Int32) dX11_isSlept_26 ci_0 ?_
    have hf2 := Option.some.inj hf; subst hf2
    exact V_zret (pc := 27) hF rfl dX11_isSlept_27
  · replace hf := it_f c3 hf
    refine v_iconst (pc := 22) (1 : Int32) dX11_isSlept_22 ci_1 ?_
    refine v_goto (pc := 23) 27 dX11_isSlept_23 (by decide) ?_
    have hf2 := Option.some.inj hf; subst hf2
    exact V_zret (pc := 27) hF rfl dX11_isSlept_27
