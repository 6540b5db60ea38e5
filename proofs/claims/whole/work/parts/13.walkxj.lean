set_option maxRecDepth 20000 in
theorem kX10_image {G : Wc} {V0 : Ob} {IM : (Nat → Ob)} {IQ : (Nat → Ob)} {IS : (Nat → Ob)} {IN : (Nat → Ob)} {V2 : Ob} {V3 : Ob} {V4 : Ob} {a : Int32} {r : Int32 × (Nat → Ob) × (Nat → Ob) × (Nat → Ob) × (Nat → Ob)}  (hf : pX10_image V0 IM IQ IS IN V2 V3 V4  a = some r) : Cn yX10_image cX10_image 2 (some .boolean) 3 125 G [.ref (wA G 0 0), .int a] [(0, V0), (6, IM 0), (7, IM 1), (22, IQ 0), (25, IQ 1), (23, IS 0), (26, IS 1), (24, IN 0), (27, IN 1), (2, V2), (3, V3), (4, V4)] [(0, V0), (6, r.2.1 0), (7, r.2.1 1), (22, r.2.2.1 0), (25, r.2.2.1 1), (23, r.2.2.2.1 0), (26, r.2.2.2.1 1), (24, r.2.2.2.2 0), (27, r.2.2.2.2 1), (2, V2), (3, V3), (4, V4)] (some (.int r.1)) := by
  refine V_method [(0, .ref (wA G 0 0)), (1, .int a)] (by decide) rfl (Nat.le_of_ble_eq_true rfl) rfl (fun Γ hF => ?_)
  unfold pX10_image at hf
  refine v_iload_n (pc := 0) 1 dX10_image_0 rfl ?_
  refine v_if_lt (pc := 1) 18 dX10_image_1 (by decide) (fun c1 => ?_) (fun c1 => ?_)
  · replace hf := it_t c1 hf
    refine v_iconst (pc := 18) (0 : Int32) dX10_image_18 ci_0 ?_
    have hf2 := Option.some.inj hf; subst hf2
    exact V_zret (pc := 19) hF rfl dX10_image_19
  · replace hf := it_f c1 hf
    refine v_iload_n (pc := 4) 1 dX10_image_4 rfl ?_
    refine v_iconst (pc := 5) (2 : Int32) dX10_image_5 ci_2 ?_
    refine v_icmp_ge (pc := 6) 18 dX10_image_6 (by decide) (fun c2 => ?_) (fun c2 => ?_)
    · replace hf := it_t c2 hf
      refine v_iconst (pc := 18) (0 : Int32) dX10_image_18 ci_0 ?_
      have hf2 := Option.some.inj hf; subst hf2
      exact V_zret (pc := 19) hF rfl dX10_image_19
    · replace hf := it_f c2 hf
      refine v_aload_n (pc := 9) 0 dX10_image_9 rfl ?_
      refine gf_RX10_46 (pc := 10) 0 rfl rfl dX10_image_10 ?_
      refine v_iload_n (pc := 13) 1 dX10_image_13 rfl ?_
      replace hf := gd_some hf; obtain ⟨g3, hf⟩ := hf
      refine V_mald (pc := 14) 0 1 rfl rfl (Nat.le_of_ble_eq_true rfl) rfl g3 dX10_image_14 ?_
      refine v_ifnonnullU (pc := 15) 20 dX10_image_15 (by decide) ?_
      refine v_aload_n (pc := 20) 0 dX10_image_20 rfl ?_
      refine gf_RX10_46 (pc := 21) 0 rfl rfl dX10_image_21 ?_
      refine v_iload_n (pc := 24) 1 dX10_image_24 rfl ?_
      replace hf := gd_some hf; obtain ⟨g4, hf⟩ := hf
      refine V_mald (pc := 25) 0 1 rfl rfl (Nat.le_of_ble_eq_true rfl) rfl g4 dX10_image_25 ?_
      refine v_aload_n (pc := 26) 0 dX10_image_26 rfl ?_
      refine gf_RX10_19 (pc := 27) 0 rfl rfl dX10_image_27 ?_
      refine v_aload_n (pc := 30) 0 dX10_image_30 rfl ?_
      refine gf_RX10_26 (pc := 31) 0 rfl rfl dX10_image_31 ?_
      refine v_aload_n (pc := 34) 0 dX10_image_34 rfl ?_
      refine gf_RX10_33 (pc := 35) 0 rfl rfl dX10_image_35 ?_
      obtain ⟨j5, e6, e6e⟩ : ∃ j : Nat, j < 2 ∧ a.toNatClampNeg = j := ⟨_, inB_lt g4, rfl⟩
      rcases (show j5 = 0 ∨ j5 = 1 by omega) with rfl | rfl
      · rw [e6e] at hf ⊢
        replace hf := bd_some hf; obtain ⟨r7, h8, hf⟩ := hf
        refine V_call (pc := 38) (us1 := [_, _, _, _, _, _, _, _, _, _, _, _]) [1, 9, 10, 11, 3, 5, 7] 1 (kX1_keep (o := 6) (oa := 2) (ob := 3) (oc := 4) rfl rfl rfl rfl rfl rfl rfl h8) rfl rfl rfl rfl rfl rfl (Nat.le_of_ble_eq_true rfl) rfl rfl rfl wm_RX10_349 md_X1_keep (Nat.le_of_ble_eq_true rfl) (Nat.le_of_ble_eq_true rfl) rfl rfl (Nat.le_of_ble_eq_true rfl) dX10_image_38 ?_
        refine v_iconst (pc := 41) (1 : Int32) dX10_image_41 ci_1 ?_
        have hf2 := Option.some.inj hf; subst hf2
        exact V_zret (pc := 42) hF rfl dX10_image_42
      · rw [e6e] at hf ⊢
        replace hf := bd_some hf; obtain ⟨r9, h10, hf⟩ := hf
        refine V_call (us1 := [_, _, _, _, _, _, _, _, _, _, _, _]) [2, 9, 10, 11, 4, 6, 8] 2 (kX1_keep (o := 7) (oa := 2) (ob := 3) (oc := 4) rfl rfl rfl rfl rfl rfl rfl h10) rfl rfl rfl rfl rfl rfl (Nat.le_of_ble_eq_true rfl) rfl rfl rfl wm_RX10_349 md_X1_keep (Nat.le_of_ble_eq_true rfl) (Nat.le_of_ble_eq_true rfl) rfl rfl (Nat.le_of_ble_eq_true rfl) dX10_image_38 ?_
        refine v_iconst (pc := 41) (1 : Int32) dX10_image_41 ci_1 ?_
        have hf2 := Option.some.inj hf; subst hf2
        exact V_zret (pc := 42) hF rfl dX10_image_42
set_option maxRecDepth 20000 in
theorem kX10_restore {G : Wc} {V0 : Ob} {IM : (Nat → Ob)} {IQ : (Nat → Ob)} {IS : (Nat → Ob)} {IN : (Nat → Ob)} {V2 : Ob} {V3 : Ob} {V4 : Ob} {V5 : Ob} {a : Int32} {r : Int32 × Ob × Ob × Ob × Ob}  (hf : pX10_restore V0 IM IQ IS IN V2 V3 V4 V5  a = some r) : Cn yX10_restore cX10_restore 2 (some .boolean) 3 125 G [.ref (wA G 0 0), .int a] [(0, V0), (6, IM 0), (7, IM 1), (22, IQ 0), (25, IQ 1), (23, IS 0), (26, IS 1), (24, IN 0), (27, IN 1), (2, V2), (3, V3), (4, V4), (5, V5)] [(0, V0), (6, IM 0), (7, IM 1), (22, IQ 0), (25, IQ 1), (23, IS 0), (26, IS 1), (24, IN 0), (27, IN 1), (2, r.2.1), (3, r.2.2.1), (4, r.2.2.2.1), (5, r.2.2.2.2)] (some (.int r.1)) := by
  refine V_method [(0, .ref (wA G 0 0)), (1, .int a)] (by decide) rfl (Nat.le_of_ble_eq_true rfl) rfl (fun Γ hF => ?_)
  unfold pX10_restore at hf
  refine v_iload_n (pc := 0) 1 dX10_restore_0 rfl ?_
  refine v_if_lt (pc := 1) 30 dX10_restore_1 (by decide) (fun c1 => ?_) (fun c1 => ?_)
  · replace hf := it_t c1 hf
    refine v_iconst (pc := 30) (0 : Int32) dX10_restore_30 ci_0 ?_
    have hf2 := Option.some.inj hf; subst hf2
    exact V_zret (pc := 31) hF rfl dX10_restore_31
  · replace hf := it_f c1 hf
    refine v_iload_n (pc := 4) 1 dX10_restore_4 rfl ?_
    refine v_iconst (pc := 5) (2 : Int32) dX10_restore_5 ci_2 ?_
    refine v_icmp_ge (pc := 6) 30 dX10_restore_6 (by decide) (fun c2 => ?_) (fun c2 => ?_)
    · replace hf := it_t c2 hf
      refine v_iconst (pc := 30) (0 : Int32) dX10_restore_30 ci_0 ?_
      have hf2 := Option.some.inj hf; subst hf2
      exact V_zret (pc := 31) hF rfl dX10_restore_31
    · replace hf := it_f c2 hf
      refine v_aload_n (pc := 9) 0 dX10_restore_9 rfl ?_
      refine gf_RX10_46 (pc := 10) 0 rfl rfl dX10_restore_10 ?_
      refine v_iload_n (pc := 13) 1 dX10_restore_13 rfl ?_
      replace hf := gd_some hf; obtain ⟨g3, hf⟩ := hf
      refine V_mald (pc := 14) 0 1 rfl rfl (Nat.le_of_ble_eq_true rfl) rfl g3 dX10_restore_14 ?_
      refine v_ifnullU (pc := 15) dX10_restore_15 ?_
      refine v_aload_n (pc := 18) 0 dX10_restore_18 rfl ?_
      refine gf_RX10_46 (pc := 19) 0 rfl rfl dX10_restore_19 ?_
      refine v_iload_n (pc := 22) 1 dX10_restore_22 rfl ?_
      replace hf := gd_some hf; obtain ⟨g4, hf⟩ := hf
      refine V_mald (pc := 23) 0 1 rfl rfl (Nat.le_of_ble_eq_true rfl) rfl g4 dX10_restore_23 ?_
      obtain ⟨j5, e6, e6e⟩ : ∃ j : Nat, j < 2 ∧ a.toNatClampNeg = j := ⟨_, inB_lt g4, rfl⟩
      rcases (show j5 = 0 ∨ j5 = 1 by omega) with rfl | rfl
      · rw [e6e] at hf ⊢
        refine gf_RX10_352 (pc := 24) 1 rfl rfl dX10_restore_24 ?_
        refine v_if_ne (pc := 27) 32 dX10_restore_27 (by decide) (fun c7 => ?_) (fun c7 => ?_)
        · replace hf := it_f c7 hf
          refine v_aload_n (pc := 32) 0 dX10_restore_32 rfl ?_
          refine gf_RX10_46 (pc := 33) 0 rfl rfl dX10_restore_33 ?_
          refine v_iload_n (pc := 36) 1 dX10_restore_36 rfl ?_
          replace hf := gd_some hf; obtain ⟨g8, hf⟩ := hf
          refine V_mald (pc := 37) 0 1 rfl rfl (Nat.le_of_ble_eq_true rfl) rfl g8 dX10_restore_37 ?_; rw [e6e]
          refine v_aload_n (pc := 38) 0 dX10_restore_38 rfl ?_
          refine gf_RX10_19 (pc := 39) 0 rfl rfl dX10_restore_39 ?_
          refine v_aload_n (pc := 42) 0 dX10_restore_42 rfl ?_
          refine gf_RX10_26 (pc := 43) 0 rfl rfl dX10_restore_43 ?_
          refine v_aload_n (pc := 46) 0 dX10_restore_46 rfl ?_
          refine gf_RX10_33 (pc := 47) 0 rfl rfl dX10_restore_47 ?_
          replace hf := bd_some hf; obtain ⟨r9, h10, hf⟩ := hf
          refine V_call (pc := 50) (us1 := [_, _, _, _, _, _, _, _, _, _, _, _, _]) [1, 9, 10, 11, 3, 5, 7] 1 (kX1_bringBack (o := 6) (oa := 2) (ob := 3) (oc := 4) rfl rfl rfl rfl rfl rfl rfl h10) rfl rfl rfl rfl rfl rfl (Nat.le_of_ble_eq_true rfl) rfl rfl rfl wm_RX10_355 md_X1_bringBack (Nat.le_of_ble_eq_true rfl) (Nat.le_of_ble_eq_true rfl) rfl rfl (Nat.le_of_ble_eq_true rfl) dX10_restore_50 ?_
          refine v_aload_n (pc := 53) 0 dX10_restore_53 rfl ?_
          refine gf_RX10_40 (pc := 54) 0 rfl rfl dX10_restore_54 ?_
          replace hf := bd_some hf; obtain ⟨r11, h12, hf⟩ := hf
          refine V_call (pc := 57) (us1 := [_, _, _, _, _, _, _, _, _, _, _, _, _]) [12] 12 (kX2_forget  h12) rfl rfl rfl rfl rfl rfl (Nat.le_of_ble_eq_true rfl) rfl rfl rfl wm_RX10_121 md_X2_forget (Nat.le_of_ble_eq_true rfl) (Nat.le_of_ble_eq_true rfl) rfl rfl (Nat.le_of_ble_eq_true rfl) dX10_restore_57 ?_
          refine v_iconst (pc := 60) (1 : Int32) dX10_restore_60 ci_1 ?_
          have hf2 := Option.some.inj hf; subst hf2
          exact V_zret (pc := 61) hF rfl dX10_restore_61
        · replace hf := it_t c7 hf
          refine v_iconst (pc := 30) (0 : Int32) dX10_restore_30 ci_0 ?_
          have hf2 := Option.some.inj hf; subst hf2
          exact V_zret (pc := 31) hF rfl dX10_restore_31
      · rw [e6e] at hf ⊢
        refine gf_RX10_352 2 rfl rfl dX10_restore_24 ?_
        refine v_if_ne (pc := 27) 32 dX10_restore_27 (by decide) (fun c13 => ?_) (fun c13 => ?_)
        · replace hf := it_f c13 hf
          refine v_aload_n (pc := 32) 0 dX10_restore_32 rfl ?_
          refine gf_RX10_46 (pc := 33) 0 rfl rfl dX10_restore_33 ?_
          refine v_iload_n (pc := 36) 1 dX10_restore_36 rfl ?_
          replace hf := gd_some hf; obtain ⟨g14, hf⟩ := hf
          refine V_mald (pc := 37) 0 1 rfl rfl (Nat.le_of_ble_eq_true rfl) rfl g14 dX10_restore_37 ?_; rw [e6e]
          refine v_aload_n (pc := 38) 0 dX10_restore_38 rfl ?_
          refine gf_RX10_19 (pc := 39) 0 rfl rfl dX10_restore_39 ?_
          refine v_aload_n (pc := 42) 0 dX10_restore_42 rfl ?_
          refine gf_RX10_26 (pc := 43) 0 rfl rfl dX10_restore_43 ?_
          refine v_aload_n (pc := 46) 0 dX10_restore_46 rfl ?_
          refine gf_RX10_33 (pc := 47) 0 rfl rfl dX10_restore_47 ?_
          replace hf := bd_some hf; obtain ⟨r15, h16, hf⟩ := hf
          refine V_call (pc := 50) (us1 := [_, _, _, _, _, _, _, _, _, _, _, _, _]) [2, 9, 10, 11, 4, 6, 8] 2 (kX1_bringBack (o := 7) (oa := 2) (ob := 3) (oc := 4) rfl rfl rfl rfl rfl rfl rfl h16) rfl rfl rfl rfl rfl rfl (Nat.le_of_ble_eq_true rfl) rfl rfl rfl wm_RX10_355 md_X1_bringBack (Nat.le_of_ble_eq_true rfl) (Nat.le_of_ble_eq_true rfl) rfl rfl (Nat.le_of_ble_eq_true rfl) dX10_restore_50 ?_
          refine v_aload_n (pc := 53) 0 dX10_restore_53 rfl ?_
          refine gf_RX10_40 (pc := 54) 0 rfl rfl dX10_restore_54 ?_
          replace hf := bd_some hf; obtain ⟨r17, h18, hf⟩ := hf
          refine V_call (pc := 57) (us1 := [_, _, _, _, _, _, _, _, _, _, _, _, _]) [12] 12 (kX2_forget  h18) rfl rfl rfl rfl rfl rfl (Nat.le_of_ble_eq_true rfl) rfl rfl rfl wm_RX10_121 md_X2_forget (Nat.le_of_ble_eq_true rfl) (Nat.le_of_ble_eq_true rfl) rfl rfl (Nat.le_of_ble_eq_true rfl) dX10_restore_57 ?_
          refine v_iconst (pc := 60) (1 : Int32) dX10_restore_60 ci_1 ?_
          have hf2 := Option.some.inj hf; subst hf2
          exact V_zret (pc := 61) hF rfl dX10_restore_61
        · replace hf := it_t c13 hf
          refine v_iconst (pc := 30) (0 : Int32) dX10_restore_30 ci_0 ?_
          have hf2 := Option.some.inj hf; subst hf2
          exact V_zret (pc := 31) hF rfl dX10_restore_31
set_option maxRecDepth 20000 in
theorem kX10_count {G : Wc} {V0 : Ob} {V1 : Ob} {V2 : Ob} {a : Int32} {r : Int32}  (hf : pX10_count V0 V1 V2  a = some r) : Cn yX10_count cX10_count 2 (some .int) 1 60 G [.ref (wA G 0 0), .int a] [(0, V0), (1, V1), (2, V2)] [(0, V0), (1, V1), (2, V2)] (some (.int r)) := by
  refine V_method [(0, .ref (wA G 0 0)), (1, .int a)] (by decide) rfl (Nat.le_of_ble_eq_true rfl) rfl (fun Γ hF => ?_)
  unfold pX10_count at hf
  refine v_iload_n (pc := 0) 1 dX10_count_0 rfl ?_
  by_cases c1 : a = (0 : Int32)
  · replace hf := it_t c1 hf
    refine v_tsIn (pc := 1) (0 : Int32) 40 dX10_count_1 c1 (by decide) (by decide) rfl (by decide) ?_
    refine v_aload_n (pc := 40) 0 dX10_count_40 rfl ?_
    refine gf_RX10_19 (pc := 41) 0 rfl rfl dX10_count_41 ?_
    refine gf_RX10_358 (pc := 44) 2 rfl rfl dX10_count_44 ?_
    have hf2 := Option.some.inj hf; subst hf2
    exact V_iret (pc := 47) hF dX10_count_47
  replace hf := it_f c1 hf
  by_cases c2 : a = (1 : Int32)
  · replace hf := it_t c2 hf
    refine v_tsIn (1 : Int32) 48 dX10_count_1 c2 (by decide) (by decide) rfl (by decide) ?_
    refine v_aload_n (pc := 48) 0 dX10_count_48 rfl ?_
    refine gf_RX10_19 (pc := 49) 0 rfl rfl dX10_count_49 ?_
    refine gf_RX10_286 (pc := 52) 2 rfl rfl dX10_count_52 ?_
    have hf2 := Option.some.inj hf; subst hf2
    exact V_iret (pc := 55) hF dX10_count_55
  replace hf := it_f c2 hf
  by_cases c3 : a = (2 : Int32)
  · replace hf := it_t c3 hf
    refine v_tsIn (2 : Int32) 56 dX10_count_1 c3 (by decide) (by decide) rfl (by decide) ?_
    refine v_aload_n (pc := 56) 0 dX10_count_56 rfl ?_
    refine gf_RX10_19 (pc := 57) 0 rfl rfl dX10_count_57 ?_
    refine gf_RX10_361 (pc := 60) 2 rfl rfl dX10_count_60 ?_
    have hf2 := Option.some.inj hf; subst hf2
    exact V_iret (pc := 63) hF dX10_count_63
  replace hf := it_f c3 hf
  by_cases c4 : a = (3 : Int32)
  · replace hf := it_t c4 hf
    refine v_tsIn (3 : Int32) 64 dX10_count_1 c4 (by decide) (by decide) rfl (by decide) ?_
    refine v_aload_n (pc := 64) 0 dX10_count_64 rfl ?_
    refine gf_RX10_19 (pc := 65) 0 rfl rfl dX10_count_65 ?_
    refine gf_RX10_364 (pc := 68) 2 rfl rfl dX10_count_68 ?_
    have hf2 := Option.some.inj hf; subst hf2
    exact V_iret (pc := 71) hF dX10_count_71
  replace hf := it_f c4 hf
  by_cases c5 : a = (4 : Int32)
  · replace hf := it_t c5 hf
    refine v_tsIn (4 : Int32) 72 dX10_count_1 c5 (by decide) (by decide) rfl (by decide) ?_
    refine v_aload_n (pc := 72) 0 dX10_count_72 rfl ?_
    refine gf_RX10_19 (pc := 73) 0 rfl rfl dX10_count_73 ?_
    refine gf_RX10_367 (pc := 76) 2 rfl rfl dX10_count_76 ?_
    have hf2 := Option.some.inj hf; subst hf2
    exact V_iret (pc := 79) hF dX10_count_79
  replace hf := it_f c5 hf
  by_cases c6 : a = (5 : Int32)
  · replace hf := it_t c6 hf
    refine v_tsIn (5 : Int32) 80 dX10_count_1 c6 (by decide) (by decide) rfl (by decide) ?_
    refine v_aload_n (pc := 80) 0 dX10_count_80 rfl ?_
    refine gf_RX10_10 (pc := 81) 0 rfl rfl dX10_count_81 ?_
    refine gf_RX10_94 (pc := 84) 1 rfl rfl dX10_count_84 ?_
    have hf2 := Option.some.inj hf; subst hf2
    exact V_iret (pc := 87) hF dX10_count_87
  replace hf := it_f c6 hf
  refine v_tsOut 88 dX10_count_1 6 (fun k hk => match k, hk with | 0, _ => c1 | 1, _ => c2 | 2, _ => c3 | 3, _ => c4 | 4, _ => c5 | 5, _ => c6 | k + 6, h => absurd h (by omega)) (by decide) (by decide) (by decide) ?_
  refine v_iconst (pc := 88) (-1 : Int32) dX10_count_88 ci_m1 ?_
  have hf2 := Option.some.inj hf; subst hf2
  exact V_iret (pc := 89) hF dX10_count_89
