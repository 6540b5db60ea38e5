set_option maxRecDepth 20000 in
theorem kX10_cut {G : Wc} {V0 : Ob} {V2 : Ob} {V3 : Ob} {V5 : Ob} {K : (Nat → Ob)} {a : Int32} {r : Int32 × Ob × Ob × (Nat → Ob)}  (hf : pX10_cut V0 V2 V3 V5 K  a = some r) : Cn yX10_cut cX10_cut 3 (some .int) 3 122 G [.ref (wA G 0 0), .int a] [(0, V0), (2, V2), (3, V3), (5, V5), (14, K 0), (15, K 1), (16, K 2), (17, K 3), (18, K 4), (19, K 5), (20, K 6), (21, K 7)] [(0, V0), (2, V2), (3, r.2.1), (5, r.2.2.1), (14, r.2.2.2 0), (15, r.2.2.2 1), (16, r.2.2.2 2), (17, r.2.2.2 3), (18, r.2.2.2 4), (19, r.2.2.2 5), (20, r.2.2.2 6), (21, r.2.2.2 7)] (some (.int r.1)) := by
  refine V_method [(0, .ref (wA G 0 0)), (1, .int a)] (by decide) rfl (Nat.le_of_ble_eq_true rfl) rfl (fun Γ hF => ?_)
  unfold pX10_cut at hf
  refine v_aload_n (pc := 0) 0 dX10_cut_0 rfl ?_
  refine v_iload_n (pc := 1) 1 dX10_cut_1 rfl ?_
  replace hf := bd_some hf; obtain ⟨r1, h2, hf⟩ := hf
  refine V_call (pc := 2) (us1 := [_, _, _, _, _, _, _, _, _, _, _, _]) [0, 1] 0 (kX10_isPerson  h2) rfl rfl rfl rfl rfl rfl (Nat.le_of_ble_eq_true rfl) rfl rfl rfl wm_RX10_122 md_X10_isPerson (Nat.le_of_ble_eq_true rfl) (Nat.le_of_ble_eq_true rfl) rfl rfl (Nat.le_of_ble_eq_true rfl) dX10_cut_2 ?_
  refine v_if_ne (pc := 5) 10 dX10_cut_5 (by decide) (fun c3 => ?_) (fun c3 => ?_)
  · replace hf := it_f c3 hf
    refine v_aload_n (pc := 10) 0 dX10_cut_10 rfl ?_
    refine gf_RX10_26 (pc := 11) 0 rfl rfl dX10_cut_11 ?_
    refine v_iload_n (pc := 14) 1 dX10_cut_14 rfl ?_
    replace hf := bd_some hf; obtain ⟨r4, h5, hf⟩ := hf
    refine V_call (pc := 15) (us1 := [_, _, _, _, _, _, _, _, _, _, _, _]) [2] 2 (kX6_whyNoCut (o := 3) rfl h5) rfl rfl rfl rfl rfl rfl (Nat.le_of_ble_eq_true rfl) rfl rfl rfl wm_RX10_228 md_X6_whyNoCut (Nat.le_of_ble_eq_true rfl) (Nat.le_of_ble_eq_true rfl) rfl rfl (Nat.le_of_ble_eq_true rfl) dX10_cut_15 ?_
    refine v_istore_n (pc := 18) [(2, _), (0, _), (1, _)] dX10_cut_18 (Nat.le_of_ble_eq_true rfl) rfl ?_
    refine v_iload_n (pc := 19) 0 dX10_cut_19 rfl ?_
    refine v_if_ne (pc := 20) 42 dX10_cut_20 (by decide) (fun c6 => ?_) (fun c6 => ?_)
    · replace hf := it_f c6 hf
      refine v_iload_n (pc := 42) 0 dX10_cut_42 rfl ?_
      have hf2 := Option.some.inj hf; subst hf2
      exact V_iret (pc := 43) hF dX10_cut_43
    · replace hf := it_t c6 hf
      refine v_aload_n (pc := 23) 1 dX10_cut_23 rfl ?_
      refine gf_RX10_40 (pc := 24) 0 rfl rfl dX10_cut_24 ?_
      refine v_aload_n (pc := 27) 1 dX10_cut_27 rfl ?_
      refine gf_RX10_26 (pc := 28) 0 rfl rfl dX10_cut_28 ?_
      replace hf := bd_some hf; obtain ⟨r7, h8, hf⟩ := hf
      refine V_call (pc := 31) (us1 := [_, _, _, _, _, _, _, _, _, _, _, _]) [3, 2, 4, 5, 6, 7, 8, 9, 10, 11] 3 (kX2_keep (oa := 3) rfl h8) rfl rfl rfl rfl rfl rfl (Nat.le_of_ble_eq_true rfl) rfl rfl rfl wm_RX10_221 md_X2_keep (Nat.le_of_ble_eq_true rfl) (Nat.le_of_ble_eq_true rfl) rfl rfl (Nat.le_of_ble_eq_true rfl) dX10_cut_31 ?_
      refine v_aload_n (pc := 34) 1 dX10_cut_34 rfl ?_
      refine gf_RX10_26 (pc := 35) 0 rfl rfl dX10_cut_35 ?_
      refine v_iload_n (pc := 38) 2 dX10_cut_38 rfl ?_
      replace hf := bd_some hf; obtain ⟨r9, h10, hf⟩ := hf
      refine V_call (pc := 39) (us1 := [_, _, _, _, _, _, _, _, _, _, _, _]) [2] 2 (kX6_cutOff (o := 3) rfl h10) rfl rfl rfl rfl rfl rfl (Nat.le_of_ble_eq_true rfl) rfl rfl rfl wm_RX10_231 md_X6_cutOff (Nat.le_of_ble_eq_true rfl) (Nat.le_of_ble_eq_true rfl) rfl rfl (Nat.le_of_ble_eq_true rfl) dX10_cut_39 ?_
      refine v_iload_n (pc := 42) 0 dX10_cut_42 rfl ?_
      have hf2 := Option.some.inj hf; subst hf2
      exact V_iret (pc := 43) hF dX10_cut_43
  · replace hf := it_t c3 hf
    refine v_iconst (pc := 8) (-1 : Int32) dX10_cut_8 ci_m1 ?_
    have hf2 := Option.some.inj hf; subst hf2
    exact V_iret (pc := 9) hF dX10_cut_9
set_option maxRecDepth 20000 in
theorem kX10_snag {G : Wc} {V0 : Ob} {V2 : Ob} {V3 : Ob} {V5 : Ob} {K : (Nat → Ob)} {a : Int32} {b : Int32} {r : Int32 × Ob × Ob × (Nat → Ob)}  (hf : pX10_snag V0 V2 V3 V5 K  a b = some r) : Cn yX10_snag cX10_snag 4 (some .int) 3 122 G [.ref (wA G 0 0), .int a, .int b] [(0, V0), (2, V2), (3, V3), (5, V5), (14, K 0), (15, K 1), (16, K 2), (17, K 3), (18, K 4), (19, K 5), (20, K 6), (21, K 7)] [(0, V0), (2, V2), (3, r.2.1), (5, r.2.2.1), (14, r.2.2.2 0), (15, r.2.2.2 1), (16, r.2.2.2 2), (17, r.2.2.2 3), (18, r.2.2.2 4), (19, r.2.2.2 5), (20, r.2.2.2 6), (21, r.2.2.2 7)] (some (.int r.1)) := by
  refine V_method [(0, .ref (wA G 0 0)), (1, .int a), (2, .int b)] (by decide) rfl (Nat.le_of_ble_eq_true rfl) rfl (fun Γ hF => ?_)
  unfold pX10_snag at hf
  refine v_aload_n (pc := 0) 0 dX10_snag_0 rfl ?_
  refine v_iload_n (pc := 1) 1 dX10_snag_1 rfl ?_
  replace hf := bd_some hf; obtain ⟨r1, h2, hf⟩ := hf
  refine V_call (pc := 2) (us1 := [_, _, _, _, _, _, _, _, _, _, _, _]) [0, 1] 0 (kX10_isPerson  h2) rfl rfl rfl rfl rfl rfl (Nat.le_of_ble_eq_true rfl) rfl rfl rfl wm_RX10_122 md_X10_isPerson (Nat.le_of_ble_eq_true rfl) (Nat.le_of_ble_eq_true rfl) rfl rfl (Nat.le_of_ble_eq_true rfl) dX10_snag_2 ?_
  refine v_if_eq (pc := 5) 16 dX10_snag_5 (by decide) (fun c3 => ?_) (fun c3 => ?_)
  · replace hf := it_t c3 hf
    refine v_iconst (pc := 16) (-1 : Int32) dX10_snag_16 ci_m1 ?_
    have hf2 := Option.some.inj hf; subst hf2
    exact V_iret (pc := 17) hF dX10_snag_17
  · replace hf := it_f c3 hf
    refine v_aload_n (pc := 8) 0 dX10_snag_8 rfl ?_
    refine v_iload_n (pc := 9) 2 dX10_snag_9 rfl ?_
    replace hf := bd_some hf; obtain ⟨r4, h5, hf⟩ := hf
    refine V_call (pc := 10) (us1 := [_, _, _, _, _, _, _, _, _, _, _, _]) [0, 1] 0 (kX10_isThing  h5) rfl rfl rfl rfl rfl rfl (Nat.le_of_ble_eq_true rfl) rfl rfl rfl wm_RX10_163 md_X10_isThing (Nat.le_of_ble_eq_true rfl) (Nat.le_of_ble_eq_true rfl) rfl rfl (Nat.le_of_ble_eq_true rfl) dX10_snag_10 ?_
    refine v_if_ne (pc := 13) 18 dX10_snag_13 (by decide) (fun c6 => ?_) (fun c6 => ?_)
    · replace hf := it_f c6 hf
      refine v_aload_n (pc := 18) 0 dX10_snag_18 rfl ?_
      refine gf_RX10_26 (pc := 19) 0 rfl rfl dX10_snag_19 ?_
      refine v_iload_n (pc := 22) 1 dX10_snag_22 rfl ?_
      replace hf := bd_some hf; obtain ⟨r7, h8, hf⟩ := hf
      refine V_call (pc := 23) (us1 := [_, _, _, _, _, _, _, _, _, _, _, _]) [2] 2 (kX6_whyNoCatch (o := 3) rfl h8) rfl rfl rfl rfl rfl rfl (Nat.le_of_ble_eq_true rfl) rfl rfl rfl wm_RX10_234 md_X6_whyNoCatch (Nat.le_of_ble_eq_true rfl) (Nat.le_of_ble_eq_true rfl) rfl rfl (Nat.le_of_ble_eq_true rfl) dX10_snag_23 ?_
      refine v_istore_n (pc := 26) [(3, _), (0, _), (1, _), (2, _)] dX10_snag_26 (Nat.le_of_ble_eq_true rfl) rfl ?_
      refine v_iload_n (pc := 27) 0 dX10_snag_27 rfl ?_
      refine v_if_ne (pc := 28) 51 dX10_snag_28 (by decide) (fun c9 => ?_) (fun c9 => ?_)
      · replace hf := it_f c9 hf
        refine v_iload_n (pc := 51) 0 dX10_snag_51 rfl ?_
        have hf2 := Option.some.inj hf; subst hf2
        exact V_iret (pc := 52) hF dX10_snag_52
      · replace hf := it_t c9 hf
        refine v_aload_n (pc := 31) 1 dX10_snag_31 rfl ?_
        refine gf_RX10_40 (pc := 32) 0 rfl rfl dX10_snag_32 ?_
        refine v_aload_n (pc := 35) 1 dX10_snag_35 rfl ?_
        refine gf_RX10_26 (pc := 36) 0 rfl rfl dX10_snag_36 ?_
        replace hf := bd_some hf; obtain ⟨r10, h11, hf⟩ := hf
        refine V_call (pc := 39) (us1 := [_, _, _, _, _, _, _, _, _, _, _, _]) [3, 2, 4, 5, 6, 7, 8, 9, 10, 11] 3 (kX2_keep (oa := 3) rfl h11) rfl rfl rfl rfl rfl rfl (Nat.le_of_ble_eq_true rfl) rfl rfl rfl wm_RX10_221 md_X2_keep (Nat.le_of_ble_eq_true rfl) (Nat.le_of_ble_eq_true rfl) rfl rfl (Nat.le_of_ble_eq_true rfl) dX10_snag_39 ?_
        refine v_aload_n (pc := 42) 1 dX10_snag_42 rfl ?_
        refine gf_RX10_26 (pc := 43) 0 rfl rfl dX10_snag_43 ?_
        refine v_iload_n (pc := 46) 2 dX10_snag_46 rfl ?_
        refine v_iload_n (pc := 47) 3 dX10_snag_47 rfl ?_
        replace hf := bd_some hf; obtain ⟨r12, h13, hf⟩ := hf
        refine V_call (pc := 48) (us1 := [_, _, _, _, _, _, _, _, _, _, _, _]) [2] 2 (kX6_catchThing (o := 3) rfl h13) rfl rfl rfl rfl rfl rfl (Nat.le_of_ble_eq_true rfl) rfl rfl rfl wm_RX10_237 md_X6_catchThing (Nat.le_of_ble_eq_true rfl) (Nat.le_of_ble_eq_true rfl) rfl rfl (Nat.le_of_ble_eq_true rfl) dX10_snag_48 ?_
        refine v_iload_n (pc := 51) 0 dX10_snag_51 rfl ?_
        have hf2 := Option.some.inj hf; subst hf2
        exact V_iret (pc := 52) hF dX10_snag_52
    · replace hf := it_t c6 hf
      refine v_iconst (pc := 16) (-1 : Int32) dX10_snag_16 ci_m1 ?_
      have hf2 := Option.some.inj hf; subst hf2
      exact V_iret (pc := 17) hF dX10_snag_17
set_option maxRecDepth 20000 in
theorem kX10_stuff {G : Wc} {V0 : Ob} {V2 : Ob} {V3 : Ob} {V5 : Ob} {K : (Nat → Ob)} {a : Int32} {b : Int32} {r : Int32 × Ob × Ob × (Nat → Ob)}  (hf : pX10_stuff V0 V2 V3 V5 K  a b = some r) : Cn yX10_stuff cX10_stuff 4 (some .int) 3 122 G [.ref (wA G 0 0), .int a, .int b] [(0, V0), (2, V2), (3, V3), (5, V5), (14, K 0), (15, K 1), (16, K 2), (17, K 3), (18, K 4), (19, K 5), (20, K 6), (21, K 7)] [(0, V0), (2, V2), (3, r.2.1), (5, r.2.2.1), (14, r.2.2.2 0), (15, r.2.2.2 1), (16, r.2.2.2 2), (17, r.2.2.2 3), (18, r.2.2.2 4), (19, r.2.2.2 5), (20, r.2.2.2 6), (21, r.2.2.2 7)] (some (.int r.1)) := by
  refine V_method [(0, .ref (wA G 0 0)), (1, .int a), (2, .int b)] (by decide) rfl (Nat.le_of_ble_eq_true rfl) rfl (fun Γ hF => ?_)
  unfold pX10_stuff at hf
  refine v_aload_n (pc := 0) 0 dX10_stuff_0 rfl ?_
  refine v_iload_n (pc := 1) 1 dX10_stuff_1 rfl ?_
  replace hf := bd_some hf; obtain ⟨r1, h2, hf⟩ := hf
  refine V_call (pc := 2) (us1 := [_, _, _, _, _, _, _, _, _, _, _, _]) [0, 1] 0 (kX10_isBed  h2) rfl rfl rfl rfl rfl rfl (Nat.le_of_ble_eq_true rfl) rfl rfl rfl wm_RX10_181 md_X10_isBed (Nat.le_of_ble_eq_true rfl) (Nat.le_of_ble_eq_true rfl) rfl rfl (Nat.le_of_ble_eq_true rfl) dX10_stuff_2 ?_
  refine v_if_eq (pc := 5) 16 dX10_stuff_5 (by decide) (fun c3 => ?_) (fun c3 => ?_)
  · replace hf := it_t c3 hf
    refine v_iconst (pc := 16) (-1 : Int32) dX10_stuff_16 ci_m1 ?_
    have hf2 := Option.some.inj hf; subst hf2
    exact V_iret (pc := 17) hF dX10_stuff_17
  · replace hf := it_f c3 hf
    refine v_aload_n (pc := 8) 0 dX10_stuff_8 rfl ?_
    refine v_iload_n (pc := 9) 2 dX10_stuff_9 rfl ?_
    replace hf := bd_some hf; obtain ⟨r4, h5, hf⟩ := hf
    refine V_call (pc := 10) (us1 := [_, _, _, _, _, _, _, _, _, _, _, _]) [0, 1] 0 (kX10_isThing  h5) rfl rfl rfl rfl rfl rfl (Nat.le_of_ble_eq_true rfl) rfl rfl rfl wm_RX10_163 md_X10_isThing (Nat.le_of_ble_eq_true rfl) (Nat.le_of_ble_eq_true rfl) rfl rfl (Nat.le_of_ble_eq_true rfl) dX10_stuff_10 ?_
    refine v_if_ne (pc := 13) 18 dX10_stuff_13 (by decide) (fun c6 => ?_) (fun c6 => ?_)
    · replace hf := it_f c6 hf
      refine v_aload_n (pc := 18) 0 dX10_stuff_18 rfl ?_
      refine gf_RX10_26 (pc := 19) 0 rfl rfl dX10_stuff_19 ?_
      refine v_iload_n (pc := 22) 2 dX10_stuff_22 rfl ?_
      replace hf := bd_some hf; obtain ⟨r7, h8, hf⟩ := hf
      refine V_call (pc := 23) (us1 := [_, _, _, _, _, _, _, _, _, _, _, _]) [2] 2 (kX6_whyNoStuffing (o := 3) rfl h8) rfl rfl rfl rfl rfl rfl (Nat.le_of_ble_eq_true rfl) rfl rfl rfl wm_RX10_241 md_X6_whyNoStuffing (Nat.le_of_ble_eq_true rfl) (Nat.le_of_ble_eq_true rfl) rfl rfl (Nat.le_of_ble_eq_true rfl) dX10_stuff_23 ?_
      refine v_istore_n (pc := 26) [(3, _), (0, _), (1, _), (2, _)] dX10_stuff_26 (Nat.le_of_ble_eq_true rfl) rfl ?_
      refine v_iload_n (pc := 27) 0 dX10_stuff_27 rfl ?_
      refine v_if_ne (pc := 28) 55 dX10_stuff_28 (by decide) (fun c9 => ?_) (fun c9 => ?_)
      · replace hf := it_f c9 hf
        refine v_iload_n (pc := 55) 0 dX10_stuff_55 rfl ?_
        have hf2 := Option.some.inj hf; subst hf2
        exact V_iret (pc := 56) hF dX10_stuff_56
      · replace hf := it_t c9 hf
        refine v_aload_n (pc := 31) 1 dX10_stuff_31 rfl ?_
        refine gf_RX10_40 (pc := 32) 0 rfl rfl dX10_stuff_32 ?_
        refine v_aload_n (pc := 35) 1 dX10_stuff_35 rfl ?_
        refine gf_RX10_26 (pc := 36) 0 rfl rfl dX10_stuff_36 ?_
        replace hf := bd_some hf; obtain ⟨r10, h11, hf⟩ := hf
        refine V_call (pc := 39) (us1 := [_, _, _, _, _, _, _, _, _, _, _, _]) [3, 2, 4, 5, 6, 7, 8, 9, 10, 11] 3 (kX2_keep (oa := 3) rfl h11) rfl rfl rfl rfl rfl rfl (Nat.le_of_ble_eq_true rfl) rfl rfl rfl wm_RX10_221 md_X2_keep (Nat.le_of_ble_eq_true rfl) (Nat.le_of_ble_eq_true rfl) rfl rfl (Nat.le_of_ble_eq_true rfl) dX10_stuff_39 ?_
        refine v_aload_n (pc := 42) 1 dX10_stuff_42 rfl ?_
        refine gf_RX10_26 (pc := 43) 0 rfl rfl dX10_stuff_43 ?_
        refine v_aload_n (pc := 46) 1 dX10_stuff_46 rfl ?_
        refine gf_RX10_19 (pc := 47) 0 rfl rfl dX10_stuff_47 ?_
        refine v_iload_n (pc := 50) 2 dX10_stuff_50 rfl ?_
        refine v_iload_n (pc := 51) 3 dX10_stuff_51 rfl ?_
        replace hf := bd_some hf; obtain ⟨r12, h13, hf⟩ := hf
        refine V_call (pc := 52) (us1 := [_, _, _, _, _, _, _, _, _, _, _, _]) [2, 1] 2 (kX6_fillBed (o := 3) (oa := 2) rfl rfl h13) rfl rfl rfl rfl rfl rfl (Nat.le_of_ble_eq_true rfl) rfl rfl rfl wm_RX10_244 md_X6_fillBed (Nat.le_of_ble_eq_true rfl) (Nat.le_of_ble_eq_true rfl) rfl rfl (Nat.le_of_ble_eq_true rfl) dX10_stuff_52 ?_
        refine v_iload_n (pc := 55) 0 dX10_stuff_55 rfl ?_
        have hf2 := Option.some.inj hf; subst hf2
        exact V_iret (pc := 56) hF dX10_stuff_56
    · replace hf := it_t c6 hf
      refine v_iconst (pc := 16) (-1 : Int32) dX10_stuff_16 ci_m1 ?_
      have hf2 := Option.some.inj hf; subst hf2
      exact V_iret (pc := 17) hF dX10_stuff_17
set_option maxRecDepth 20000 in
theorem kX10_days {G : Wc} {V0 : Ob} {V3 : Ob} {V5 : Ob} {K : (Nat → Ob)} {V2 : Ob} {a : Int32} {r : Int32 × Ob × Ob × (Nat → Ob)}  (hf : pX10_days V0 V3 V5 K V2  a = some r) : Cn yX10_days cX10_days 3 (some .int) 4 128 G [.ref (wA G 0 0), .int a] [(0, V0), (3, V3), (5, V5), (14, K 0), (15, K 1), (16, K 2), (17, K 3), (18, K 4), (19, K 5), (20, K 6), (21, K 7), (2, V2)] [(0, V0), (3, r.2.1), (5, r.2.2.1), (14, r.2.2.2 0), (15, r.2.2.2 1), (16, r.2.2.2 2), (17, r.2.2.2 3), (18, r.2.2.2 4), (19, r.2.2.2 5), (20, r.2.2.2 6), (21, r.2.2.2 7), (2, V2)] (some (.int r.1)) := by
  refine V_method [(0, .ref (wA G 0 0)), (1, .int a)] (by decide) rfl (Nat.le_of_ble_eq_true rfl) rfl (fun Γ hF => ?_)
  unfold pX10_days at hf
  refine v_iload_n (pc := 0) 1 dX10_days_0 rfl ?_
  refine v_iconst (pc := 1) (1 : Int32) dX10_days_1 ci_1 ?_
  refine v_icmp_lt (pc := 2) 11 dX10_days_2 (by decide) (fun c1 => ?_) (fun c1 => ?_)
  · replace hf := it_t c1 hf
    refine v_iconst (pc := 11) (-1 : Int32) dX10_days_11 ci_m1 ?_
    have hf2 := Option.some.inj hf; subst hf2
    exact V_iret (pc := 12) hF dX10_days_12
  · replace hf := it_f c1 hf
    refine v_iload_n (pc := 5) 1 dX10_days_5 rfl ?_
    refine v_bipush (pc := 6) (60 : Int32) dX10_days_6 cb_60 ?_
    refine v_icmp_le (pc := 8) 13 dX10_days_8 (by decide) (fun c2 => ?_) (fun c2 => ?_)
    · replace hf := it_t c2 hf
      refine v_iload_n (pc := 13) 1 dX10_days_13 rfl ?_
      refine v_aload_n (pc := 14) 0 dX10_days_14 rfl ?_
      refine gf_RX10_26 (pc := 15) 0 rfl rfl dX10_days_15 ?_
      replace hf := bd_some hf; obtain ⟨r3, h4, hf⟩ := hf
      refine V_call (pc := 18) (us1 := [_, _, _, _, _, _, _, _, _, _, _, _]) [1] 1 (kX6_daysLeft (o := 3) rfl h4) rfl rfl rfl rfl rfl rfl (Nat.le_of_ble_eq_true rfl) rfl rfl rfl wm_RX10_247 md_X6_daysLeft (Nat.le_of_ble_eq_true rfl) (Nat.le_of_ble_eq_true rfl) rfl rfl (Nat.le_of_ble_eq_true rfl) dX10_days_18 ?_
      refine v_mmin (pc := 21) wm_RX10_251 (Nat.le_of_ble_eq_true rfl) (Nat.le_of_ble_eq_true rfl) (Nat.le_of_ble_eq_true rfl) dX10_days_21 ?_
      refine v_istore_n (pc := 24) [(2, _), (0, _), (1, _)] dX10_days_24 (Nat.le_of_ble_eq_true rfl) rfl ?_
      refine v_iload_n (pc := 25) 0 dX10_days_25 rfl ?_
      refine v_if_le (pc := 26) 52 dX10_days_26 (by decide) (fun c5 => ?_) (fun c5 => ?_)
      · replace hf := it_t c5 hf
        refine v_iload_n (pc := 52) 0 dX10_days_52 rfl ?_
        have hf2 := Option.some.inj hf; subst hf2
        exact V_iret (pc := 53) hF dX10_days_53
      · replace hf := it_f c5 hf
        refine v_aload_n (pc := 29) 1 dX10_days_29 rfl ?_
        refine gf_RX10_40 (pc := 30) 0 rfl rfl dX10_days_30 ?_
        refine v_aload_n (pc := 33) 1 dX10_days_33 rfl ?_
        refine gf_RX10_26 (pc := 34) 0 rfl rfl dX10_days_34 ?_
        replace hf := bd_some hf; obtain ⟨r6, h7, hf⟩ := hf
        refine V_call (pc := 37) (us1 := [_, _, _, _, _, _, _, _, _, _, _, _]) [2, 1, 3, 4, 5, 6, 7, 8, 9, 10] 2 (kX2_keep (oa := 3) rfl h7) rfl rfl rfl rfl rfl rfl (Nat.le_of_ble_eq_true rfl) rfl rfl rfl wm_RX10_221 md_X2_keep (Nat.le_of_ble_eq_true rfl) (Nat.le_of_ble_eq_true rfl) rfl rfl (Nat.le_of_ble_eq_true rfl) dX10_days_37 ?_
        refine v_aload_n (pc := 40) 1 dX10_days_40 rfl ?_
        refine gf_RX10_26 (pc := 41) 0 rfl rfl dX10_days_41 ?_
        refine v_aload_n (pc := 44) 1 dX10_days_44 rfl ?_
        refine gf_RX10_19 (pc := 45) 0 rfl rfl dX10_days_45 ?_
        refine v_iload_n (pc := 48) 0 dX10_days_48 rfl ?_
        replace hf := bd_some hf; obtain ⟨r8, h9, hf⟩ := hf
        refine V_call (pc := 49) (us1 := [_, _, _, _, _, _, _, _, _, _, _, _]) [1, 11] 1 (kX6_letDaysGo (o := 3) (oa := 2) rfl rfl h9) rfl rfl rfl rfl rfl rfl (Nat.le_of_ble_eq_true rfl) rfl rfl rfl wm_RX10_256 md_X6_letDaysGo (Nat.le_of_ble_eq_true rfl) (Nat.le_of_ble_eq_true rfl) rfl rfl (Nat.le_of_ble_eq_true rfl) dX10_days_49 ?_
        refine v_iload_n (pc := 52) 0 dX10_days_52 rfl ?_
        have hf2 := Option.some.inj hf; subst hf2
        exact V_iret (pc := 53) hF dX10_days_53
    · replace hf := it_f c2 hf
      refine v_iconst (pc := 11) (-1 : Int32) dX10_days_11 ci_m1 ?_
      have hf2 := Option.some.inj hf; subst hf2
      exact V_iret (pc := 12) hF dX10_days_12
set_option maxRecDepth 20000 in
theorem kX10_undo {G : Wc} {V0 : Ob} {V5 : Ob} {V3 : Ob} {K : (Nat → Ob)}  {r : Int32 × Ob × Ob}  (hf : pX10_undo V0 V5 V3 K   = some r) : Cn yX10_undo cX10_undo 1 (some .int) 3 123 G [.ref (wA G 0 0)] [(0, V0), (5, V5), (3, V3), (14, K 0), (15, K 1), (16, K 2), (17, K 3), (18, K 4), (19, K 5), (20, K 6), (21, K 7)] [(0, V0), (5, r.2.1), (3, r.2.2), (14, K 0), (15, K 1), (16, K 2), (17, K 3), (18, K 4), (19, K 5), (20, K 6), (21, K 7)] (some (.int r.1)) := by
  refine V_method [(0, .ref (wA G 0 0))] (by decide) rfl (Nat.le_of_ble_eq_true rfl) rfl (fun Γ hF => ?_)
  unfold pX10_undo at hf
  refine v_aload_n (pc := 0) 0 dX10_undo_0 rfl ?_
  refine gf_RX10_40 (pc := 1) 0 rfl rfl dX10_undo_1 ?_
  refine v_aload_n (pc := 4) 0 dX10_undo_4 rfl ?_
  refine gf_RX10_26 (pc := 5) 0 rfl rfl dX10_undo_5 ?_
  replace hf := bd_some hf; obtain ⟨r1, h2, hf⟩ := hf
  refine V_call (pc := 8) (us1 := [_, _, _, _, _, _, _, _, _, _, _]) [1, 2, 3, 4, 5, 6, 7, 8, 9, 10] 1 (kX2_takeBack (oa := 3) rfl h2) rfl rfl rfl rfl rfl rfl (Nat.le_of_ble_eq_true rfl) rfl rfl rfl wm_RX10_260 md_X2_takeBack (Nat.le_of_ble_eq_true rfl) (Nat.le_of_ble_eq_true rfl) rfl rfl (Nat.le_of_ble_eq_true rfl) dX10_undo_8 ?_
  have hf2 := Option.some.inj hf; subst hf2
  exact V_iret (pc := 11) hF dX10_undo_11
set_option maxRecDepth 20000 in
theorem kX10_ease {G : Wc} {V0 : Ob} {V2 : Ob} {V8 : Ob} {V3 : Ob} {a : Int32} {r : Int32}  (hf : pX10_ease V0 V2 V8 V3  a = some r) : Cn yX10_ease cX10_ease 2 (some .int) 5 159 G [.ref (wA G 0 0), .int a] [(0, V0), (2, V2), (8, V8), (3, V3)] [(0, V0), (2, V2), (8, V8), (3, V3)] (some (.int r)) := by
  refine V_method [(0, .ref (wA G 0 0)), (1, .int a)] (by decide) rfl (Nat.le_of_ble_eq_true rfl) rfl (fun Γ hF => ?_)
  unfold pX10_ease at hf
  refine v_aload_n (pc := 0) 0 dX10_ease_0 rfl ?_
  refine v_iload_n (pc := 1) 1 dX10_ease_1 rfl ?_
  replace hf := bd_some hf; obtain ⟨r1, h2, hf⟩ := hf
  refine V_call (pc := 2) (us1 := [_, _, _, _]) [0, 1] 0 (kX10_isPerson  h2) rfl rfl rfl rfl rfl rfl (Nat.le_of_ble_eq_true rfl) rfl rfl rfl wm_RX10_122 md_X10_isPerson (Nat.le_of_ble_eq_true rfl) (Nat.le_of_ble_eq_true rfl) rfl rfl (Nat.le_of_ble_eq_true rfl) dX10_ease_2 ?_
  refine v_if_eq (pc := 5) 27 dX10_ease_5 (by decide) (fun c3 => ?_) (fun c3 => ?_)
  · replace hf := it_t c3 hf
    refine v_iconst (pc := 27) (-1 : Int32) dX10_ease_27 ci_m1 ?_
    have hf2 := Option.some.inj hf; subst hf2
    exact V_iret (pc := 28) hF dX10_ease_28
  · replace hf := it_f c3 hf
    refine v_aload_n (pc := 8) 0 dX10_ease_8 rfl ?_
    refine gf_RX10_54 (pc := 9) 0 rfl rfl dX10_ease_9 ?_
    refine v_aload_n (pc := 12) 0 dX10_ease_12 rfl ?_
    refine gf_RX10_19 (pc := 13) 0 rfl rfl dX10_ease_13 ?_
    refine v_aload_n (pc := 16) 0 dX10_ease_16 rfl ?_
    refine gf_RX10_26 (pc := 17) 0 rfl rfl dX10_ease_17 ?_
    refine v_iload_n (pc := 20) 1 dX10_ease_20 rfl ?_
    replace hf := bd_some hf; obtain ⟨r4, h5, hf⟩ := hf
    refine V_call (pc := 21) (us1 := [_, _, _, _]) [2, 1, 3] 2 (kX3_fewestStrokes (o := 8) (oa := 2) (ob := 3) rfl rfl rfl h5) rfl rfl rfl rfl rfl rfl (Nat.le_of_ble_eq_true rfl) rfl rfl rfl wm_RX10_264 md_X3_fewestStrokes (Nat.le_of_ble_eq_true rfl) (Nat.le_of_ble_eq_true rfl) rfl rfl (Nat.le_of_ble_eq_true rfl) dX10_ease_21 ?_
    refine v_goto (pc := 24) 28 dX10_ease_24 (by decide) ?_
    have hf2 := Option.some.inj hf; subst hf2
    exact V_iret (pc := 28) hF dX10_ease_28
set_option maxRecDepth 20000 in
theorem kX10_nests {G : Wc} {V0 : Ob} {V2 : Ob} {V8 : Ob} {V3 : Ob} {a : Int32} {r : Int32}  (hf : pX10_nests V0 V2 V8 V3  a = some r) : Cn yX10_nests cX10_nests 2 (some .int) 4 133 G [.ref (wA G 0 0), .int a] [(0, V0), (2, V2), (8, V8), (3, V3)] [(0, V0), (2, V2), (8, V8), (3, V3)] (some (.int r)) := by
  refine V_method [(0, .ref (wA G 0 0)), (1, .int a)] (by decide) rfl (Nat.le_of_ble_eq_true rfl) rfl (fun Γ hF => ?_)
  unfold pX10_nests at hf
  refine v_aload_n (pc := 0) 0 dX10_nests_0 rfl ?_
  refine v_iload_n (pc := 1) 1 dX10_nests_1 rfl ?_
  replace hf := bd_some hf; obtain ⟨r1, h2, hf⟩ := hf
  refine V_call (pc := 2) (us1 := [_, _, _, _]) [0, 1] 0 (kX10_isPerson  h2) rfl rfl rfl rfl rfl rfl (Nat.le_of_ble_eq_true rfl) rfl rfl rfl wm_RX10_122 md_X10_isPerson (Nat.le_of_ble_eq_true rfl) (Nat.le_of_ble_eq_true rfl) rfl rfl (Nat.le_of_ble_eq_true rfl) dX10_nests_2 ?_
  refine v_if_eq (pc := 5) 27 dX10_nests_5 (by decide) (fun c3 => ?_) (fun c3 => ?_)
  · replace hf := it_t c3 hf
    refine v_iconst (pc := 27) (-1 : Int32) dX10_nests_27 ci_m1 ?_
    have hf2 := Option.some.inj hf; subst hf2
    exact V_iret (pc := 28) hF dX10_nests_28
  · replace hf := it_f c3 hf
    refine v_aload_n (pc := 8) 0 dX10_nests_8 rfl ?_
    refine gf_RX10_54 (pc := 9) 0 rfl rfl dX10_nests_9 ?_
    refine v_aload_n (pc := 12) 0 dX10_nests_12 rfl ?_
    refine gf_RX10_19 (pc := 13) 0 rfl rfl dX10_nests_13 ?_
    refine v_aload_n (pc := 16) 0 dX10_nests_16 rfl ?_
    refine gf_RX10_26 (pc := 17) 0 rfl rfl dX10_nests_17 ?_
    refine v_iload_n (pc := 20) 1 dX10_nests_20 rfl ?_
    replace hf := bd_some hf; obtain ⟨r4, h5, hf⟩ := hf
    refine V_call (pc := 21) (us1 := [_, _, _, _]) [2, 1, 3] 2 (kX3_daysToNest (o := 8) (oa := 2) (ob := 3) rfl rfl rfl h5) rfl rfl rfl rfl rfl rfl (Nat.le_of_ble_eq_true rfl) rfl rfl rfl wm_RX10_268 md_X3_daysToNest (Nat.le_of_ble_eq_true rfl) (Nat.le_of_ble_eq_true rfl) rfl rfl (Nat.le_of_ble_eq_true rfl) dX10_nests_21 ?_
    refine v_goto (pc := 24) 28 dX10_nests_24 (by decide) ?_
    have hf2 := Option.some.inj hf; subst hf2
    exact V_iret (pc := 28) hF dX10_nests_28
set_option maxRecDepth 20000 in
theorem kX10_round {G : Wc} {V0 : Ob} {V8 : Ob} {V2 : Ob} {V3 : Ob} {a : Int32} {r : Int32 × Ob × Ob}  (hf : pX10_round V0 V8 V2 V3  a = some r) : Cn yX10_round cX10_round 2 (some .int) 6 187 G [.ref (wA G 0 0), .int a] [(0, V0), (8, V8), (2, V2), (3, V3)] [(0, r.2.1), (8, r.2.2), (2, V2), (3, V3)] (some (.int r.1)) := by
  refine V_method [(0, .ref (wA G 0 0)), (1, .int a)] (by decide) rfl (Nat.le_of_ble_eq_true rfl) rfl (fun Γ hF => ?_)
  unfold pX10_round at hf
  refine v_iload_n (pc := 0) 1 dX10_round_0 rfl ?_
  refine v_if_lt (pc := 1) 11 dX10_round_1 (by decide) (fun c1 => ?_) (fun c1 => ?_)
  · replace hf := it_t c1 hf
    refine v_iconst (pc := 11) (-1 : Int32) dX10_round_11 ci_m1 ?_
    have hf2 := Option.some.inj hf; subst hf2
    exact V_iret (pc := 12) hF dX10_round_12
  · replace hf := it_f c1 hf
    refine v_iload_n (pc := 4) 1 dX10_round_4 rfl ?_
    refine v_sipush (pc := 5) (999 : Int32) dX10_round_5 cs_999 ?_
    refine v_icmp_le (pc := 8) 13 dX10_round_8 (by decide) (fun c2 => ?_) (fun c2 => ?_)
    · replace hf := it_t c2 hf
      refine v_aload_n (pc := 13) 0 dX10_round_13 rfl ?_
      refine v_aload_n (pc := 14) 0 dX10_round_14 rfl ?_
      refine gf_RX10_54 (pc := 15) 0 rfl rfl dX10_round_15 ?_
      refine v_aload_n (pc := 18) 0 dX10_round_18 rfl ?_
      refine gf_RX10_19 (pc := 19) 0 rfl rfl dX10_round_19 ?_
      refine v_aload_n (pc := 22) 0 dX10_round_22 rfl ?_
      refine gf_RX10_26 (pc := 23) 0 rfl rfl dX10_round_23 ?_
      refine v_iload_n (pc := 26) 1 dX10_round_26 rfl ?_
      replace hf := bd_some hf; obtain ⟨r3, h4, hf⟩ := hf
      refine V_call (pc := 27) (us1 := [_, _, _, _]) [1, 2, 3] 1 (kX3_bestRound (o := 8) (oa := 2) (ob := 3) rfl rfl rfl h4) rfl rfl rfl rfl rfl rfl (Nat.le_of_ble_eq_true rfl) rfl rfl rfl wm_RX10_271 md_X3_bestRound (Nat.le_of_ble_eq_true rfl) (Nat.le_of_ble_eq_true rfl) rfl rfl (Nat.le_of_ble_eq_true rfl) dX10_round_27 ?_
      refine pf_RX10_85 (pc := 30) [_, _, _, _] 0 rfl rfl rfl dX10_round_30 ?_
      refine v_aload_n (pc := 33) 0 dX10_round_33 rfl ?_
      refine gf_RX10_85 (pc := 34) 0 rfl rfl dX10_round_34 ?_
      replace hf := bd_some hf; obtain ⟨r5, h6, hf⟩ := hf
      refine V_callS (pc := 37) (us1 := [_, _, _, _]) [] (kJ6_bitCount_0f7a4  h6) rfl rfl rfl rfl wm_RX10_274 md_J6_bitCount_0f7a4 (Nat.le_of_ble_eq_true rfl) (Nat.le_of_ble_eq_true rfl) rfl rfl (Nat.le_of_ble_eq_true rfl) dX10_round_37 ?_
      have hf2 := Option.some.inj hf; subst hf2
      exact V_iret (pc := 40) hF dX10_round_40
    · replace hf := it_f c2 hf
      refine v_iconst (pc := 11) (-1 : Int32) dX10_round_11 ci_m1 ?_
      have hf2 := Option.some.inj hf; subst hf2
      exact V_iret (pc := 12) hF dX10_round_12
set_option maxRecDepth 20000 in
theorem kX10_rounded {G : Wc} {V0 : Ob}  {r : Int32}  (hf : pX10_rounded V0   = some r) : Cn yX10_rounded cX10_rounded 1 (some .int) 1 60 G [.ref (wA G 0 0)] [(0, V0)] [(0, V0)] (some (.int r)) := by
  refine V_method [(0, .ref (wA G 0 0))] (by decide) rfl (Nat.le_of_ble_eq_true rfl) rfl (fun Γ hF => ?_)
  unfold pX10_rounded at hf
  refine v_aload_n (pc := 0) 0 dX10_rounded_0 rfl ?_
  refine gf_RX10_85 (pc := 1) 0 rfl rfl dX10_rounded_1 ?_
  have hf2 := Option.some.inj hf; subst hf2
  exact V_iret (pc := 4) hF dX10_rounded_4
set_option maxRecDepth 20000 in
theorem kX10_beds {G : Wc} {V0 : Ob} {V8 : Ob} {V2 : Ob} {V3 : Ob}  {r : Int32 × Ob × Ob}  (hf : pX10_beds V0 V8 V2 V3   = some r) : Cn yX10_beds cX10_beds 1 (some .int) 6 185 G [.ref (wA G 0 0)] [(0, V0), (8, V8), (2, V2), (3, V3)] [(0, r.2.1), (8, r.2.2), (2, V2), (3, V3)] (some (.int r.1)) := by
  refine V_method [(0, .ref (wA G 0 0))] (by decide) rfl (Nat.le_of_ble_eq_true rfl) rfl (fun Γ hF => ?_)
  unfold pX10_beds at hf
  refine v_aload_n (pc := 0) 0 dX10_beds_0 rfl ?_
  refine v_aload_n (pc := 1) 0 dX10_beds_1 rfl ?_
  refine gf_RX10_54 (pc := 2) 0 rfl rfl dX10_beds_2 ?_
  refine v_aload_n (pc := 5) 0 dX10_beds_5 rfl ?_
  refine gf_RX10_19 (pc := 6) 0 rfl rfl dX10_beds_6 ?_
  refine v_aload_n (pc := 9) 0 dX10_beds_9 rfl ?_
  refine gf_RX10_26 (pc := 10) 0 rfl rfl dX10_beds_10 ?_
  replace hf := bd_some hf; obtain ⟨r1, h2, hf⟩ := hf
  refine V_call (pc := 13) (us1 := [_, _, _, _]) [1, 2, 3] 1 (kX3_bestBeds (o := 8) (oa := 2) (ob := 3) rfl rfl rfl h2) rfl rfl rfl rfl rfl rfl (Nat.le_of_ble_eq_true rfl) rfl rfl rfl wm_RX10_279 md_X3_bestBeds (Nat.le_of_ble_eq_true rfl) (Nat.le_of_ble_eq_true rfl) rfl rfl (Nat.le_of_ble_eq_true rfl) dX10_beds_13 ?_
  refine pf_RX10_88 (pc := 16) [_, _, _, _] 0 rfl rfl rfl dX10_beds_16 ?_
  refine v_aload_n (pc := 19) 0 dX10_beds_19 rfl ?_
  refine gf_RX10_88 (pc := 20) 0 rfl rfl dX10_beds_20 ?_
  replace hf := bd_some hf; obtain ⟨r3, h4, hf⟩ := hf
  refine V_callS (pc := 23) (us1 := [_, _, _, _]) [] (kJ6_bitCount_0f7a4  h4) rfl rfl rfl rfl wm_RX10_274 md_J6_bitCount_0f7a4 (Nat.le_of_ble_eq_true rfl) (Nat.le_of_ble_eq_true rfl) rfl rfl (Nat.le_of_ble_eq_true rfl) dX10_beds_23 ?_
  have hf2 := Option.some.inj hf; subst hf2
  exact V_iret (pc := 26) hF dX10_beds_26
set_option maxRecDepth 20000 in
theorem kX10_bedded {G : Wc} {V0 : Ob}  {r : Int32}  (hf : pX10_bedded V0   = some r) : Cn yX10_bedded cX10_bedded 1 (some .int) 1 60 G [.ref (wA G 0 0)] [(0, V0)] [(0, V0)] (some (.int r)) := by
  refine V_method [(0, .ref (wA G 0 0))] (by decide) rfl (Nat.le_of_ble_eq_true rfl) rfl (fun Γ hF => ?_)
  unfold pX10_bedded at hf
  refine v_aload_n (pc := 0) 0 dX10_bedded_0 rfl ?_
  refine gf_RX10_88 (pc := 1) 0 rfl rfl dX10_bedded_1 ?_
  have hf2 := Option.some.inj hf; subst hf2
  exact V_iret (pc := 4) hF dX10_bedded_4
set_option maxRecDepth 20000 in
theorem wX10_fits_l64 {G : Wc} {Γ : Cx} {V0 : Ob} {V1 : Ob} {V2 : Ob} {V3 : Ob} {V8 : Ob} {l1 : Int32}  : ∀ (n : Nat) {l2 : Int32} {l3 : Int32} {r : Int32}, pX10_fits_l64  V0 V1 V2 V3 V8 l1 n l2 l3 = some r → V cX10_fits RX10 5 160 4 G Γ [(0, V0), (1, V1), (2, V2), (3, V3), (8, V8)] 106 [(0, .ref (wA G 0 0)), (2, .int r)] [] → V cX10_fits RX10 5 160 4 G Γ [(0, V0), (1, V1), (2, V2), (3, V3), (8, V8)] 64 [(0, .ref (wA G 0 0)), (1, .int l1), (2, .int l2), (3, .int l3)] [] := by
  intro n
  induction n with
  | zero => intro l2 l3 r hf hx; unfold pX10_fits_l64 at hf; cases hf
  | succ n ih =>
    intro l2 l3 r hf hx
    have hrec : ∀ {l2 : Int32} {l3 : Int32}, pX10_fits_l64  V0 V1 V2 V3 V8 l1 n l2 l3 = some r → V cX10_fits RX10 5 160 4 G Γ [(0, V0), (1, V1), (2, V2), (3, V3), (8, V8)] 64 [(0, .ref (wA G 0 0)), (1, .int l1), (2, .int l2), (3, .int l3)] [] := fun h => ih h hx
    clear ih
    unfold pX10_fits_l64 at hf
    refine v_iload_n (pc := 64) 3 dX10_fits_64 rfl ?_
    refine v_aload_n (pc := 65) 0 dX10_fits_65 rfl ?_
    refine gf_RX10_19 (pc := 66) 0 rfl rfl dX10_fits_66 ?_
    refine gf_RX10_286 (pc := 69) 2 rfl rfl dX10_fits_69 ?_
    refine v_icmp_ge (pc := 72) 106 dX10_fits_72 (by decide) (fun c4 => ?_) (fun c4 => ?_)
    · replace hf := it_t c4 hf
      have hf2 := Option.some.inj hf; subst hf2
      exact V_sub [0, 2] rfl hx
    · replace hf := it_f c4 hf
      refine v_aload_n (pc := 75) 0 dX10_fits_75 rfl ?_
      refine gf_RX10_26 (pc := 76) 0 rfl rfl dX10_fits_76 ?_
      refine v_iload_n (pc := 79) 3 dX10_fits_79 rfl ?_
      refine v_aload_n (pc := 80) 0 dX10_fits_80 rfl ?_
      refine gf_RX10_10 (pc := 81) 0 rfl rfl dX10_fits_81 ?_
      refine gf_RX10_283 (pc := 84) 1 rfl rfl dX10_fits_84 ?_
      refine v_iload_n (pc := 87) 1 dX10_fits_87 rfl ?_
      replace hf := bd_some hf; obtain ⟨r5, h6, hf⟩ := hf
      refine V_call (pc := 88) (us1 := [_, _, _, _, _]) [3, 1] 3 (kX6_endsWith (o := 3) (bu := 1) rfl rfl (Nat.le_of_ble_eq_true rfl) (rfl : _[1]? = _) h6) rfl rfl rfl rfl rfl rfl (Nat.le_of_ble_eq_true rfl) rfl rfl rfl wm_RX10_289 md_X6_endsWith (Nat.le_of_ble_eq_true rfl) (Nat.le_of_ble_eq_true rfl) rfl rfl (Nat.le_of_ble_eq_true rfl) dX10_fits_88 ?_
      refine v_if_eq (pc := 91) 100 dX10_fits_91 (by decide) (fun c7 => ?_) (fun c7 => ?_)
      · replace hf := it_t c7 hf
        refine v_iinc (pc := 100) 3 (l3 + (1 : Int32)) [(3, _), (0, _), (1, _), (2, _)] dX10_fits_100 rfl (congrArg (fun z => _ + z) ci_1) (Nat.le_of_ble_eq_true rfl) rfl ?_
        refine v_goto (pc := 103) 64 dX10_fits_103 (by decide) ?_
        exact V_sub [1, 2, 3, 0] rfl (hrec hf)
      · replace hf := it_f c7 hf
        refine v_iload_n (pc := 94) 2 dX10_fits_94 rfl ?_
        refine v_iconst (pc := 95) (1 : Int32) dX10_fits_95 ci_1 ?_
        refine v_iload_n (pc := 96) 3 dX10_fits_96 rfl ?_
        refine v_ishl (pc := 97) dX10_fits_97 ?_
        refine v_ior (pc := 98) dX10_fits_98 ?_
        refine v_istore_n (pc := 99) [(2, _), (0, _), (1, _), (3, _)] dX10_fits_99 (Nat.le_of_ble_eq_true rfl) rfl ?_
        refine v_iinc (pc := 100) 3 (l3 + (1 : Int32)) [(3, _), (2, _), (0, _), (1, _)] dX10_fits_100 rfl (congrArg (fun z => _ + z) ci_1) (Nat.le_of_ble_eq_true rfl) rfl ?_
        refine v_goto (pc := 103) 64 dX10_fits_103 (by decide) ?_
        exact V_sub [2, 3, 1, 0] rfl (hrec hf)
set_option maxRecDepth 20000 in
theorem wX10_fits_l31 {G : Wc} {Γ : Cx} {V0 : Ob} {V1 : Ob} {V2 : Ob} {V3 : Ob} {V8 : Ob} {l1 : Int32} {r : Int32 × Ob × Ob}  (hF : Fnl G Γ (some .int) (some (.int r.1)) (ov Γ.2.2.2 [(0, r.2.1), (1, r.2.2), (2, V2), (3, V3), (8, V8)])) : ∀ (n : Nat) {l2 : Int32}, pX10_fits_l31  V0 V1 V2 V3 V8 l1 n l2 = some r → V cX10_fits RX10 5 160 4 G Γ [(0, V0), (1, V1), (2, V2), (3, V3), (8, V8)] 31 [(0, .ref (wA G 0 0)), (1, .int l1), (2, .int l2)] [] := by
  intro n
  induction n with
  | zero => intro l2 hf; unfold pX10_fits_l31 at hf; cases hf
  | succ n ih =>
    intro l2 hf
    have hrec : ∀ {l2 : Int32}, pX10_fits_l31  V0 V1 V2 V3 V8 l1 n l2 = some r → V cX10_fits RX10 5 160 4 G Γ [(0, V0), (1, V1), (2, V2), (3, V3), (8, V8)] 31 [(0, .ref (wA G 0 0)), (1, .int l1), (2, .int l2)] [] := fun h => ih h
    clear ih
    unfold pX10_fits_l31 at hf
    refine v_iload_n (pc := 31) 2 dX10_fits_31 rfl ?_
    refine v_iload_n (pc := 32) 1 dX10_fits_32 rfl ?_
    refine v_icmp_ge (pc := 33) 60 dX10_fits_33 (by decide) (fun c3 => ?_) (fun c3 => ?_)
    · replace hf := it_t c3 hf
      refine v_iconst (pc := 60) (0 : Int32) dX10_fits_60 ci_0 ?_
      refine v_istore_n (pc := 61) [(2, _), (0, _), (1, _)] dX10_fits_61 (Nat.le_of_ble_eq_true rfl) rfl ?_
      refine v_iconst (pc := 62) (0 : Int32) dX10_fits_62 ci_0 ?_
      refine v_istore_n (pc := 63) [(3, _), (2, _), (0, _), (1, _)] dX10_fits_63 (Nat.le_of_ble_eq_true rfl) rfl ?_
      replace hf := bd_some hf; obtain ⟨r8, h9, hf⟩ := hf
      refine V_sub [2, 3, 1, 0] rfl (wX10_fits_l64  fu h9 ?_)
      refine v_iload_n (pc := 106) 1 dX10_fits_106 rfl ?_
      refine v_if_le (pc := 107) 130 dX10_fits_107 (by decide) (fun c10 => ?_) (fun c10 => ?_)
      · replace hf := it_t c10 hf
        refine v_iload_n (pc := 130) 1 dX10_fits_130 rfl ?_
        have hf2 := Option.some.inj hf; subst hf2
        exact V_iret (pc := 131) hF dX10_fits_131
      · replace hf := it_f c10 hf
        refine v_aload_n (pc := 110) 0 dX10_fits_110 rfl ?_
        refine v_aload_n (pc := 111) 0 dX10_fits_111 rfl ?_
        refine gf_RX10_54 (pc := 112) 0 rfl rfl dX10_fits_112 ?_
        refine v_aload_n (pc := 115) 0 dX10_fits_115 rfl ?_
        refine gf_RX10_19 (pc := 116) 0 rfl rfl dX10_fits_116 ?_
        refine v_aload_n (pc := 119) 0 dX10_fits_119 rfl ?_
        refine gf_RX10_26 (pc := 120) 0 rfl rfl dX10_fits_120 ?_
        refine v_iload_n (pc := 123) 1 dX10_fits_123 rfl ?_
        replace hf := bd_some hf; obtain ⟨r11, h12, hf⟩ := hf
        refine V_call (pc := 124) (us1 := [_, _, _, _, _]) [4, 2, 3] 4 (kX3_bestLayer (o := 8) (oa := 2) (ob := 3) rfl rfl rfl h12) rfl rfl rfl rfl rfl rfl (Nat.le_of_ble_eq_true rfl) rfl rfl rfl wm_RX10_293 md_X3_bestLayer (Nat.le_of_ble_eq_true rfl) (Nat.le_of_ble_eq_true rfl) rfl rfl (Nat.le_of_ble_eq_true rfl) dX10_fits_124 ?_
        refine pf_RX10_91 (pc := 127) [_, _, _, _, _] 0 rfl rfl rfl dX10_fits_127 ?_
        refine v_iload_n (pc := 130) 1 dX10_fits_130 rfl ?_
        have hf2 := Option.some.inj hf; subst hf2
        exact V_iret (pc := 131) hF dX10_fits_131
    · replace hf := it_f c3 hf
      refine v_aload_n (pc := 36) 0 dX10_fits_36 rfl ?_
      refine v_aload_n (pc := 37) 0 dX10_fits_37 rfl ?_
      refine gf_RX10_10 (pc := 38) 0 rfl rfl dX10_fits_38 ?_
      refine gf_RX10_283 (pc := 41) 1 rfl rfl dX10_fits_41 ?_
      refine v_iload_n (pc := 44) 2 dX10_fits_44 rfl ?_
      replace hf := gd_some hf; obtain ⟨g13, hf⟩ := hf
      refine al_X8_0 (pc := 45) _ 1 rfl rfl rfl g13 dX10_fits_45 ?_
      replace hf := bd_some hf; obtain ⟨r14, h15, hf⟩ := hf
      refine V_call (pc := 46) (us1 := [_, _, _, _, _]) [0, 2] 0 (kX10_isThing  h15) rfl rfl rfl rfl rfl rfl (Nat.le_of_ble_eq_true rfl) rfl rfl rfl wm_RX10_163 md_X10_isThing (Nat.le_of_ble_eq_true rfl) (Nat.le_of_ble_eq_true rfl) rfl rfl (Nat.le_of_ble_eq_true rfl) dX10_fits_46 ?_
      refine v_if_ne (pc := 49) 54 dX10_fits_49 (by decide) (fun c16 => ?_) (fun c16 => ?_)
      · replace hf := it_f c16 hf
        refine v_iinc (pc := 54) 2 (l2 + (1 : Int32)) [(2, _), (0, _), (1, _)] dX10_fits_54 rfl (congrArg (fun z => _ + z) ci_1) (Nat.le_of_ble_eq_true rfl) rfl ?_
        refine v_goto (pc := 57) 31 dX10_fits_57 (by decide) ?_
        exact V_sub [1, 2, 0] rfl (hrec hf)
      · replace hf := it_t c16 hf
        refine v_iconst (pc := 52) (-1 : Int32) dX10_fits_52 ci_m1 ?_
        have hf2 := Option.some.inj hf; subst hf2
        exact V_iret (pc := 53) hF dX10_fits_53
set_option maxRecDepth 20000 in
theorem kX10_fits {G : Wc} {V0 : Ob} {V1 : Ob} {V2 : Ob} {V3 : Ob} {V8 : Ob}  {r : Int32 × Ob × Ob}  (hf : pX10_fits V0 V1 V2 V3 V8   = some r) : Cn yX10_fits cX10_fits 4 (some .int) 5 160 G [.ref (wA G 0 0)] [(0, V0), (1, V1), (2, V2), (3, V3), (8, V8)] [(0, r.2.1), (1, r.2.2), (2, V2), (3, V3), (8, V8)] (some (.int r.1)) := by
  refine V_method [(0, .ref (wA G 0 0))] (by decide) rfl (Nat.le_of_ble_eq_true rfl) rfl (fun Γ hF => ?_)
  unfold pX10_fits at hf
  refine v_aload_n (pc := 0) 0 dX10_fits_0 rfl ?_
  refine gf_RX10_10 (pc := 1) 0 rfl rfl dX10_fits_1 ?_
  refine gf_RX10_94 (pc := 4) 1 rfl rfl dX10_fits_4 ?_
  refine v_istore_n (pc := 7) [(1, _), (0, _)] dX10_fits_7 (Nat.le_of_ble_eq_true rfl) rfl ?_
  refine v_aload_n (pc := 8) 1 dX10_fits_8 rfl ?_
  refine gf_RX10_10 (pc := 9) 0 rfl rfl dX10_fits_9 ?_
  refine v_iconst (pc := 12) (0 : Int32) dX10_fits_12 ci_0 ?_
  refine pf_RX10_94 (pc := 13) [_, _, _, _, _] 1 rfl rfl rfl dX10_fits_13 ?_
  refine v_iload_n (pc := 16) 0 dX10_fits_16 rfl ?_
  refine v_iconst (pc := 17) (1 : Int32) dX10_fits_17 ci_1 ?_
  refine v_icmp_lt (pc := 18) 27 dX10_fits_18 (by decide) (fun c1 => ?_) (fun c1 => ?_)
  · replace hf := it_t c1 hf
    refine v_iconst (pc := 27) (-1 : Int32) dX10_fits_27 ci_m1 ?_
    have hf2 := Option.some.inj hf; subst hf2
    exact V_iret (pc := 28) hF dX10_fits_28
  · replace hf := it_f c1 hf
    refine v_iload_n (pc := 21) 0 dX10_fits_21 rfl ?_
    refine v_bipush (pc := 22) (8 : Int32) dX10_fits_22 cb_8 ?_
    refine v_icmp_le (pc := 24) 29 dX10_fits_24 (by decide) (fun c2 => ?_) (fun c2 => ?_)
    · replace hf := it_t c2 hf
      refine v_iconst (pc := 29) (0 : Int32) dX10_fits_29 ci_0 ?_
      refine v_istore_n (pc := 30) [(2, _), (1, _), (0, _)] dX10_fits_30 (Nat.le_of_ble_eq_true rfl) rfl ?_
      exact V_sub [2, 1, 0] rfl (wX10_fits_l31  hF fu hf)
    · replace hf := it_f c2 hf
      refine v_iconst (pc := 27) (-1 : Int32) dX10_fits_27 ci_m1 ?_
      have hf2 := Option.some.inj hf; subst hf2
      exact V_iret (pc := 28) hF dX10_fits_28
set_option maxRecDepth 20000 in
theorem kX10_ask {G : Wc} {V0 : Ob}  {r : Int32}  (hf : pX10_ask V0   = some r) : Cn yX10_ask cX10_ask 1 (some .int) 1 60 G [.ref (wA G 0 0)] [(0, V0)] [(0, V0)] (some (.int r)) := by
  refine V_method [(0, .ref (wA G 0 0))] (by decide) rfl (Nat.le_of_ble_eq_true rfl) rfl (fun Γ hF => ?_)
  unfold pX10_ask at hf
  refine v_aload_n (pc := 0) 0 dX10_ask_0 rfl ?_
  refine gf_RX10_91 (pc := 1) 0 rfl rfl dX10_ask_1 ?_
  have hf2 := Option.some.inj hf; subst hf2
  exact V_iret (pc := 4) hF dX10_ask_4
set_option maxRecDepth 20000 in
theorem wX10_like_l14 {G : Wc} {Γ : Cx} {V0 : Ob} {V2 : Ob} {V3 : Ob} {l1 : Int32}  : ∀ (n : Nat) {l2 : Int32} {l3 : Int32} {r : Int32}, pX10_like_l14  V0 V2 V3 l1 n l2 l3 = some r → V cX10_like RX10 3 105 4 G Γ [(0, V0), (2, V2), (3, V3)] 54 [(2, .int r)] [] → V cX10_like RX10 3 105 4 G Γ [(0, V0), (2, V2), (3, V3)] 14 [(0, .ref (wA G 0 0)), (1, .int l1), (2, .int l2), (3, .int l3)] [] := by
  intro n
  induction n with
  | zero => intro l2 l3 r hf hx; unfold pX10_like_l14 at hf; cases hf
  | succ n ih =>
    intro l2 l3 r hf hx
    have hrec : ∀ {l2 : Int32} {l3 : Int32}, pX10_like_l14  V0 V2 V3 l1 n l2 l3 = some r → V cX10_like RX10 3 105 4 G Γ [(0, V0), (2, V2), (3, V3)] 14 [(0, .ref (wA G 0 0)), (1, .int l1), (2, .int l2), (3, .int l3)] [] := fun h => ih h hx
    clear ih
    unfold pX10_like_l14 at hf
    refine v_iload_n (pc := 14) 3 dX10_like_14 rfl ?_
    refine v_aload_n (pc := 15) 0 dX10_like_15 rfl ?_
    refine gf_RX10_19 (pc := 16) 0 rfl rfl dX10_like_16 ?_
    refine gf_RX10_286 (pc := 19) 1 rfl rfl dX10_like_19 ?_
    refine v_icmp_ge (pc := 22) 54 dX10_like_22 (by decide) (fun c4 => ?_) (fun c4 => ?_)
    · replace hf := it_t c4 hf
      have hf2 := Option.some.inj hf; subst hf2
      exact V_sub [2] rfl hx
    · replace hf := it_f c4 hf
      refine v_iload_n (pc := 25) 3 dX10_like_25 rfl ?_
      refine v_iload_n (pc := 26) 1 dX10_like_26 rfl ?_
      refine v_icmp_eq (pc := 27) 48 dX10_like_27 (by decide) (fun c5 => ?_) (fun c5 => ?_)
      · replace hf := it_t c5 hf
        refine v_iinc (pc := 48) 3 (l3 + (1 : Int32)) [(3, _), (0, _), (1, _), (2, _)] dX10_like_48 rfl (congrArg (fun z => _ + z) ci_1) (Nat.le_of_ble_eq_true rfl) rfl ?_
        refine v_goto (pc := 51) 14 dX10_like_51 (by decide) ?_
        exact V_sub [1, 2, 3, 0] rfl (hrec hf)
      · replace hf := it_f c5 hf
        refine v_aload_n (pc := 30) 0 dX10_like_30 rfl ?_
        refine gf_RX10_26 (pc := 31) 0 rfl rfl dX10_like_31 ?_
        refine v_iload_n (pc := 34) 1 dX10_like_34 rfl ?_
        refine v_iload_n (pc := 35) 3 dX10_like_35 rfl ?_
        replace hf := bd_some hf; obtain ⟨r6, h7, hf⟩ := hf
        refine V_call (pc := 36) (us1 := [_, _, _]) [2] 2 (kX6_alike (o := 3) rfl h7) rfl rfl rfl rfl rfl rfl (Nat.le_of_ble_eq_true rfl) rfl rfl rfl wm_RX10_296 md_X6_alike (Nat.le_of_ble_eq_true rfl) (Nat.le_of_ble_eq_true rfl) rfl rfl (Nat.le_of_ble_eq_true rfl) dX10_like_36 ?_
        refine v_if_eq (pc := 39) 48 dX10_like_39 (by decide) (fun c8 => ?_) (fun c8 => ?_)
        · replace hf := it_t c8 hf
          refine v_iinc (pc := 48) 3 (l3 + (1 : Int32)) [(3, _), (0, _), (1, _), (2, _)] dX10_like_48 rfl (congrArg (fun z => _ + z) ci_1) (Nat.le_of_ble_eq_true rfl) rfl ?_
          refine v_goto (pc := 51) 14 dX10_like_51 (by decide) ?_
          exact V_sub [1, 2, 3, 0] rfl (hrec hf)
        · replace hf := it_f c8 hf
          refine v_iload_n (pc := 42) 2 dX10_like_42 rfl ?_
          refine v_iconst (pc := 43) (1 : Int32) dX10_like_43 ci_1 ?_
          refine v_iload_n (pc := 44) 3 dX10_like_44 rfl ?_
          refine v_ishl (pc := 45) dX10_like_45 ?_
          refine v_ior (pc := 46) dX10_like_46 ?_
          refine v_istore_n (pc := 47) [(2, _), (0, _), (1, _), (3, _)] dX10_like_47 (Nat.le_of_ble_eq_true rfl) rfl ?_
          refine v_iinc (pc := 48) 3 (l3 + (1 : Int32)) [(3, _), (2, _), (0, _), (1, _)] dX10_like_48 rfl (congrArg (fun z => _ + z) ci_1) (Nat.le_of_ble_eq_true rfl) rfl ?_
          refine v_goto (pc := 51) 14 dX10_like_51 (by decide) ?_
          exact V_sub [2, 3, 1, 0] rfl (hrec hf)
set_option maxRecDepth 20000 in
theorem kX10_like {G : Wc} {V0 : Ob} {V2 : Ob} {V3 : Ob} {a : Int32} {r : Int32}  (hf : pX10_like V0 V2 V3  a = some r) : Cn yX10_like cX10_like 4 (some .int) 3 105 G [.ref (wA G 0 0), .int a] [(0, V0), (2, V2), (3, V3)] [(0, V0), (2, V2), (3, V3)] (some (.int r)) := by
  refine V_method [(0, .ref (wA G 0 0)), (1, .int a)] (by decide) rfl (Nat.le_of_ble_eq_true rfl) rfl (fun Γ hF => ?_)
  unfold pX10_like at hf
  refine v_aload_n (pc := 0) 0 dX10_like_0 rfl ?_
  refine v_iload_n (pc := 1) 1 dX10_like_1 rfl ?_
  replace hf := bd_some hf; obtain ⟨r1, h2, hf⟩ := hf
  refine V_call (pc := 2) (us1 := [_, _, _]) [0, 1] 0 (kX10_isPerson  h2) rfl rfl rfl rfl rfl rfl (Nat.le_of_ble_eq_true rfl) rfl rfl rfl wm_RX10_122 md_X10_isPerson (Nat.le_of_ble_eq_true rfl) (Nat.le_of_ble_eq_true rfl) rfl rfl (Nat.le_of_ble_eq_true rfl) dX10_like_2 ?_
  refine v_if_ne (pc := 5) 10 dX10_like_5 (by decide) (fun c3 => ?_) (fun c3 => ?_)
  · replace hf := it_f c3 hf
    refine v_iconst (pc := 10) (0 : Int32) dX10_like_10 ci_0 ?_
    refine v_istore_n (pc := 11) [(2, _), (0, _), (1, _)] dX10_like_11 (Nat.le_of_ble_eq_true rfl) rfl ?_
    refine v_iconst (pc := 12) (0 : Int32) dX10_like_12 ci_0 ?_
    refine v_istore_n (pc := 13) [(3, _), (2, _), (0, _), (1, _)] dX10_like_13 (Nat.le_of_ble_eq_true rfl) rfl ?_
    replace hf := bd_some hf; obtain ⟨r9, h10, hf⟩ := hf
    refine V_sub [2, 3, 1, 0] rfl (wX10_like_l14  fu h10 ?_)
    refine v_iload_n (pc := 54) 0 dX10_like_54 rfl ?_
    have hf2 := Option.some.inj hf; subst hf2
    exact V_iret (pc := 55) hF dX10_like_55
  · replace hf := it_t c3 hf
    refine v_iconst (pc := 8) (-1 : Int32) dX10_like_8 ci_m1 ?_
    have hf2 := Option.some.inj hf; subst hf2
    exact V_iret (pc := 9) hF dX10_like_9
set_option maxRecDepth 20000 in
theorem wX10_hardest_l6 {G : Wc} {Γ : Cx} {V0 : Ob} {V2 : Ob} {V3 : Ob}  : ∀ (n : Nat) {l1 : Int32} {l2 : Int32} {l3 : Int32} {r : Int32}, pX10_hardest_l6  V0 V2 V3 n l1 l2 l3 = some r → V cX10_hardest RX10 4 130 5 G Γ [(0, V0), (2, V2), (3, V3)] 48 [(1, .int r)] [] → V cX10_hardest RX10 4 130 5 G Γ [(0, V0), (2, V2), (3, V3)] 6 [(0, .ref (wA G 0 0)), (1, .int l1), (2, .int l2), (3, .int l3)] [] := by
  intro n
  induction n with
  | zero => intro l1 l2 l3 r hf hx; unfold pX10_hardest_l6 at hf; cases hf
  | succ n ih =>
    intro l1 l2 l3 r hf hx
    have hrec : ∀ {l1 : Int32} {l2 : Int32} {l3 : Int32}, pX10_hardest_l6  V0 V2 V3 n l1 l2 l3 = some r → V cX10_hardest RX10 4 130 5 G Γ [(0, V0), (2, V2), (3, V3)] 6 [(0, .ref (wA G 0 0)), (1, .int l1), (2, .int l2), (3, .int l3)] [] := fun h => ih h hx
    clear ih
    unfold pX10_hardest_l6 at hf
    refine v_iload_n (pc := 6) 3 dX10_hardest_6 rfl ?_
    refine v_aload_n (pc := 7) 0 dX10_hardest_7 rfl ?_
    refine gf_RX10_19 (pc := 8) 0 rfl rfl dX10_hardest_8 ?_
    refine gf_RX10_286 (pc := 11) 1 rfl rfl dX10_hardest_11 ?_
    refine v_icmp_ge (pc := 14) 48 dX10_hardest_14 (by decide) (fun c1 => ?_) (fun c1 => ?_)
    · replace hf := it_t c1 hf
      have hf2 := Option.some.inj hf; subst hf2
      exact V_sub [1] rfl hx
    · replace hf := it_f c1 hf
      refine v_aload_n (pc := 17) 0 dX10_hardest_17 rfl ?_
      refine gf_RX10_26 (pc := 18) 0 rfl rfl dX10_hardest_18 ?_
      refine v_aload_n (pc := 21) 0 dX10_hardest_21 rfl ?_
      refine gf_RX10_19 (pc := 22) 0 rfl rfl dX10_hardest_22 ?_
      refine v_iload_n (pc := 25) 3 dX10_hardest_25 rfl ?_
      replace hf := bd_some hf; obtain ⟨r2, h3, hf⟩ := hf
      refine V_call (pc := 26) (us1 := [_, _, _]) [2, 1] 2 (kX6_allHolds (o := 3) (oa := 2) rfl rfl h3) rfl rfl rfl rfl rfl rfl (Nat.le_of_ble_eq_true rfl) rfl rfl rfl wm_RX10_151 md_X6_allHolds (Nat.le_of_ble_eq_true rfl) (Nat.le_of_ble_eq_true rfl) rfl rfl (Nat.le_of_ble_eq_true rfl) dX10_hardest_26 ?_
      refine v_istore (pc := 29) [(4, _), (0, _), (1, _), (2, _), (3, _)] dX10_hardest_29 (Nat.le_of_ble_eq_true rfl) rfl ?_
      refine v_iload (pc := 31) 0 dX10_hardest_31 rfl ?_
      refine v_iload_n (pc := 33) 3 dX10_hardest_33 rfl ?_
      refine v_icmp_le (pc := 34) 42 dX10_hardest_34 (by decide) (fun c4 => ?_) (fun c4 => ?_)
      · replace hf := it_t c4 hf
        refine v_iinc (pc := 42) 4 (l3 + (1 : Int32)) [(3, _), (4, _), (0, _), (1, _), (2, _)] dX10_hardest_42 rfl (congrArg (fun z => _ + z) ci_1) (Nat.le_of_ble_eq_true rfl) rfl ?_
        refine v_goto (pc := 45) 6 dX10_hardest_45 (by decide) ?_
        exact V_sub [2, 3, 4, 0] rfl (hrec hf)
      · replace hf := it_f c4 hf
        refine v_iload (pc := 37) 0 dX10_hardest_37 rfl ?_
        refine v_istore_n (pc := 39) [(2, _), (4, _), (0, _), (1, _), (3, _)] dX10_hardest_39 (Nat.le_of_ble_eq_true rfl) rfl ?_
        refine v_iload_n (pc := 40) 4 dX10_hardest_40 rfl ?_
        refine v_istore_n (pc := 41) [(1, _), (2, _), (4, _), (0, _), (3, _)] dX10_hardest_41 (Nat.le_of_ble_eq_true rfl) rfl ?_
        refine v_iinc (pc := 42) 4 (l3 + (1 : Int32)) [(3, _), (1, _), (2, _), (4, _), (0, _)] dX10_hardest_42 rfl (congrArg (fun z => _ + z) ci_1) (Nat.le_of_ble_eq_true rfl) rfl ?_
        refine v_goto (pc := 45) 6 dX10_hardest_45 (by decide) ?_
        exact V_sub [4, 1, 2, 0] rfl (hrec hf)
set_option maxRecDepth 20000 in
theorem kX10_hardest {G : Wc} {V0 : Ob} {V2 : Ob} {V3 : Ob}  {r : Int32}  (hf : pX10_hardest V0 V2 V3   = some r) : Cn yX10_hardest cX10_hardest 5 (some .int) 4 130 G [.ref (wA G 0 0)] [(0, V0), (2, V2), (3, V3)] [(0, V0), (2, V2), (3, V3)] (some (.int r)) := by
  refine V_method [(0, .ref (wA G 0 0))] (by decide) rfl (Nat.le_of_ble_eq_true rfl) rfl (fun Γ hF => ?_)
  unfold pX10_hardest at hf
  refine v_iconst (pc := 0) (-1 : Int32) dX10_hardest_0 ci_m1 ?_
  refine v_istore_n (pc := 1) [(1, _), (0, _)] dX10_hardest_1 (Nat.le_of_ble_eq_true rfl) rfl ?_
  refine v_iconst (pc := 2) (-1 : Int32) dX10_hardest_2 ci_m1 ?_
  refine v_istore_n (pc := 3) [(2, _), (1, _), (0, _)] dX10_hardest_3 (Nat.le_of_ble_eq_true rfl) rfl ?_
  refine v_iconst (pc := 4) (0 : Int32) dX10_hardest_4 ci_0 ?_
  refine v_istore_n (pc := 5) [(3, _), (2, _), (1, _), (0, _)] dX10_hardest_5 (Nat.le_of_ble_eq_true rfl) rfl ?_
  replace hf := bd_some hf; obtain ⟨r5, h6, hf⟩ := hf
  refine V_sub [3, 2, 1, 0] rfl (wX10_hardest_l6  fu h6 ?_)
  refine v_iload_n (pc := 48) 0 dX10_hardest_48 rfl ?_
  have hf2 := Option.some.inj hf; subst hf2
  exact V_iret (pc := 49) hF dX10_hardest_49
set_option maxRecDepth 20000 in
theorem kX10_tag {G : Wc} {V0 : Ob} {V2 : Ob} {V10 : Ob} {V3 : Ob} {a : Int32} {r : Int32 × Ob}  (hf : pX10_tag V0 V2 V10 V3  a = some r) : Cn yX10_tag cX10_tag 2 (some .int) 5 154 G [.ref (wA G 0 0), .int a] [(0, V0), (2, V2), (10, V10), (3, V3)] [(0, V0), (2, V2), (10, r.2), (3, V3)] (some (.int r.1)) := by
  refine V_method [(0, .ref (wA G 0 0)), (1, .int a)] (by decide) rfl (Nat.le_of_ble_eq_true rfl) rfl (fun Γ hF => ?_)
  unfold pX10_tag at hf
  refine v_aload_n (pc := 0) 0 dX10_tag_0 rfl ?_
  refine v_iload_n (pc := 1) 1 dX10_tag_1 rfl ?_
  replace hf := bd_some hf; obtain ⟨r1, h2, hf⟩ := hf
  refine V_call (pc := 2) (us1 := [_, _, _, _]) [0, 1] 0 (kX10_isPerson  h2) rfl rfl rfl rfl rfl rfl (Nat.le_of_ble_eq_true rfl) rfl rfl rfl wm_RX10_122 md_X10_isPerson (Nat.le_of_ble_eq_true rfl) (Nat.le_of_ble_eq_true rfl) rfl rfl (Nat.le_of_ble_eq_true rfl) dX10_tag_2 ?_
  refine v_if_ne (pc := 5) 10 dX10_tag_5 (by decide) (fun c3 => ?_) (fun c3 => ?_)
  · replace hf := it_f c3 hf
    refine v_aload_n (pc := 10) 0 dX10_tag_10 rfl ?_
    refine gf_RX10_68 (pc := 11) 0 rfl rfl dX10_tag_11 ?_
    refine v_aload_n (pc := 14) 0 dX10_tag_14 rfl ?_
    refine gf_RX10_19 (pc := 15) 0 rfl rfl dX10_tag_15 ?_
    refine v_aload_n (pc := 18) 0 dX10_tag_18 rfl ?_
    refine gf_RX10_26 (pc := 19) 0 rfl rfl dX10_tag_19 ?_
    refine v_iload_n (pc := 22) 1 dX10_tag_22 rfl ?_
    replace hf := bd_some hf; obtain ⟨r4, h5, hf⟩ := hf
    refine V_call (pc := 23) (us1 := [_, _, _, _]) [2, 1, 3] 2 (kX7_write (o := 10) (oa := 2) (ob := 3) rfl rfl rfl h5) rfl rfl rfl rfl rfl rfl (Nat.le_of_ble_eq_true rfl) rfl rfl rfl wm_RX10_304 md_X7_write (Nat.le_of_ble_eq_true rfl) (Nat.le_of_ble_eq_true rfl) rfl rfl (Nat.le_of_ble_eq_true rfl) dX10_tag_23 ?_
    refine v_aload_n (pc := 26) 0 dX10_tag_26 rfl ?_
    refine gf_RX10_68 (pc := 27) 0 rfl rfl dX10_tag_27 ?_
    refine gf_RX10_308 (pc := 30) 2 rfl rfl dX10_tag_30 ?_
    have hf2 := Option.some.inj hf; subst hf2
    exact V_iret (pc := 33) hF dX10_tag_33
  · replace hf := it_t c3 hf
    refine v_iconst (pc := 8) (-1 : Int32) dX10_tag_8 ci_m1 ?_
    have hf2 := Option.some.inj hf; subst hf2
    exact V_iret (pc := 9) hF dX10_tag_9
set_option maxRecDepth 20000 in
theorem kX10_byteAt {G : Wc} {V0 : Ob} {V10 : Ob} {a : Int32} {r : Int32}  (hf : pX10_byteAt V0 V10  a = some r) : Cn yX10_byteAt cX10_byteAt 2 (some .int) 1 60 G [.ref (wA G 0 0), .int a] [(0, V0), (10, V10)] [(0, V0), (10, V10)] (some (.int r)) := by
  refine V_method [(0, .ref (wA G 0 0)), (1, .int a)] (by decide) rfl (Nat.le_of_ble_eq_true rfl) rfl (fun Γ hF => ?_)
  unfold pX10_byteAt at hf
  refine v_iload_n (pc := 0) 1 dX10_byteAt_0 rfl ?_
  refine v_if_lt (pc := 1) 15 dX10_byteAt_1 (by decide) (fun c1 => ?_) (fun c1 => ?_)
  · replace hf := it_t c1 hf
    refine v_iconst (pc := 15) (-1 : Int32) dX10_byteAt_15 ci_m1 ?_
    refine v_goto (pc := 16) 28 dX10_byteAt_16 (by decide) ?_
    have hf2 := Option.some.inj hf; subst hf2
    exact V_iret (pc := 28) hF dX10_byteAt_28
  · replace hf := it_f c1 hf
    refine v_iload_n (pc := 4) 1 dX10_byteAt_4 rfl ?_
    refine v_aload_n (pc := 5) 0 dX10_byteAt_5 rfl ?_
    refine gf_RX10_68 (pc := 6) 0 rfl rfl dX10_byteAt_6 ?_
    refine gf_RX10_308 (pc := 9) 1 rfl rfl dX10_byteAt_9 ?_
    refine v_icmp_lt (pc := 12) 19 dX10_byteAt_12 (by decide) (fun c2 => ?_) (fun c2 => ?_)
    · replace hf := it_t c2 hf
      refine v_aload_n (pc := 19) 0 dX10_byteAt_19 rfl ?_
      refine gf_RX10_68 (pc := 20) 0 rfl rfl dX10_byteAt_20 ?_
      refine gf_RX10_311 (pc := 23) 1 rfl rfl dX10_byteAt_23 ?_
      refine v_iload_n (pc := 26) 1 dX10_byteAt_26 rfl ?_
      replace hf := gd_some hf; obtain ⟨g3, hf⟩ := hf
      refine al_X7_0 (pc := 27) _ 1 rfl rfl rfl g3 dX10_byteAt_27 ?_
      have hf2 := Option.some.inj hf; subst hf2
      exact V_iret (pc := 28) hF dX10_byteAt_28
    · replace hf := it_f c2 hf
      refine v_iconst (pc := 15) (-1 : Int32) dX10_byteAt_15 ci_m1 ?_
      refine v_goto (pc := 16) 28 dX10_byteAt_16 (by decide) ?_
      have hf2 := Option.some.inj hf; subst hf2
      exact V_iret (pc := 28) hF dX10_byteAt_28
set_option maxRecDepth 20000 in
theorem kX10_drawn {G : Wc} {V0 : Ob} {V3 : Ob} {V5 : Ob} {K : (Nat → Ob)} {V2 : Ob} {a : Int32} {b : Int32} {r : Int32 × Ob × Ob × (Nat → Ob)}  (hf : pX10_drawn V0 V3 V5 K V2  a b = some r) : Cn yX10_drawn cX10_drawn 4 (some .int) 7 202 G [.ref (wA G 0 0), .int a, .int b] [(0, V0), (3, V3), (5, V5), (14, K 0), (15, K 1), (16, K 2), (17, K 3), (18, K 4), (19, K 5), (20, K 6), (21, K 7), (2, V2)] [(0, V0), (3, r.2.1), (5, r.2.2.1), (14, r.2.2.2 0), (15, r.2.2.2 1), (16, r.2.2.2 2), (17, r.2.2.2 3), (18, r.2.2.2 4), (19, r.2.2.2 5), (20, r.2.2.2 6), (21, r.2.2.2 7), (2, V2)] (some (.int r.1)) := by
  refine V_method [(0, .ref (wA G 0 0)), (1, .int a), (2, .int b)] (by decide) rfl (Nat.le_of_ble_eq_true rfl) rfl (fun Γ hF => ?_)
  unfold pX10_drawn at hf
  refine v_iload_n (pc := 0) 1 dX10_drawn_0 rfl ?_
  refine v_iconst (pc := 1) (1 : Int32) dX10_drawn_1 ci_1 ?_
  refine v_icmp_lt (pc := 2) 11 dX10_drawn_2 (by decide) (fun c1 => ?_) (fun c1 => ?_)
  · replace hf := it_t c1 hf
    refine v_iconst (pc := 11) (-1 : Int32) dX10_drawn_11 ci_m1 ?_
    have hf2 := Option.some.inj hf; subst hf2
    exact V_iret (pc := 12) hF dX10_drawn_12
  · replace hf := it_f c1 hf
    refine v_iload_n (pc := 5) 1 dX10_drawn_5 rfl ?_
    refine v_bipush (pc := 6) (60 : Int32) dX10_drawn_6 cb_60 ?_
    refine v_icmp_le (pc := 8) 13 dX10_drawn_8 (by decide) (fun c2 => ?_) (fun c2 => ?_)
    · replace hf := it_t c2 hf
      refine v_iload_n (pc := 13) 1 dX10_drawn_13 rfl ?_
      refine v_aload_n (pc := 14) 0 dX10_drawn_14 rfl ?_
      refine gf_RX10_26 (pc := 15) 0 rfl rfl dX10_drawn_15 ?_
      replace hf := bd_some hf; obtain ⟨r3, h4, hf⟩ := hf
      refine V_call (pc := 18) (us1 := [_, _, _, _, _, _, _, _, _, _, _, _]) [1] 1 (kX6_daysLeft (o := 3) rfl h4) rfl rfl rfl rfl rfl rfl (Nat.le_of_ble_eq_true rfl) rfl rfl rfl wm_RX10_247 md_X6_daysLeft (Nat.le_of_ble_eq_true rfl) (Nat.le_of_ble_eq_true rfl) rfl rfl (Nat.le_of_ble_eq_true rfl) dX10_drawn_18 ?_
      refine v_mmin (pc := 21) wm_RX10_251 (Nat.le_of_ble_eq_true rfl) (Nat.le_of_ble_eq_true rfl) (Nat.le_of_ble_eq_true rfl) dX10_drawn_21 ?_
      refine v_istore_n (pc := 24) [(3, _), (0, _), (1, _), (2, _)] dX10_drawn_24 (Nat.le_of_ble_eq_true rfl) rfl ?_
      refine v_iload_n (pc := 25) 0 dX10_drawn_25 rfl ?_
      refine v_if_le (pc := 26) 53 dX10_drawn_26 (by decide) (fun c5 => ?_) (fun c5 => ?_)
      · replace hf := it_t c5 hf
        refine v_iload_n (pc := 53) 0 dX10_drawn_53 rfl ?_
        have hf2 := Option.some.inj hf; subst hf2
        exact V_iret (pc := 54) hF dX10_drawn_54
      · replace hf := it_f c5 hf
        refine v_aload_n (pc := 29) 1 dX10_drawn_29 rfl ?_
        refine gf_RX10_40 (pc := 30) 0 rfl rfl dX10_drawn_30 ?_
        refine v_aload_n (pc := 33) 1 dX10_drawn_33 rfl ?_
        refine gf_RX10_26 (pc := 34) 0 rfl rfl dX10_drawn_34 ?_
        replace hf := bd_some hf; obtain ⟨r6, h7, hf⟩ := hf
        refine V_call (pc := 37) (us1 := [_, _, _, _, _, _, _, _, _, _, _, _]) [2, 1, 3, 4, 5, 6, 7, 8, 9, 10] 2 (kX2_keep (oa := 3) rfl h7) rfl rfl rfl rfl rfl rfl (Nat.le_of_ble_eq_true rfl) rfl rfl rfl wm_RX10_221 md_X2_keep (Nat.le_of_ble_eq_true rfl) (Nat.le_of_ble_eq_true rfl) rfl rfl (Nat.le_of_ble_eq_true rfl) dX10_drawn_37 ?_
        refine v_aload_n (pc := 40) 1 dX10_drawn_40 rfl ?_
        refine gf_RX10_26 (pc := 41) 0 rfl rfl dX10_drawn_41 ?_
        refine v_aload_n (pc := 44) 1 dX10_drawn_44 rfl ?_
        refine gf_RX10_19 (pc := 45) 0 rfl rfl dX10_drawn_45 ?_
        refine v_iload_n (pc := 48) 0 dX10_drawn_48 rfl ?_
        refine v_iload_n (pc := 49) 3 dX10_drawn_49 rfl ?_
        replace hf := bd_some hf; obtain ⟨r8, h9, hf⟩ := hf
        refine V_call (pc := 50) (us1 := [_, _, _, _, _, _, _, _, _, _, _, _]) [1, 11] 1 (kX6_letDrawnDaysGo (o := 3) (oa := 2) rfl rfl h9) rfl rfl rfl rfl rfl rfl (Nat.le_of_ble_eq_true rfl) rfl rfl rfl wm_RX10_312 md_X6_letDrawnDaysGo (Nat.le_of_ble_eq_true rfl) (Nat.le_of_ble_eq_true rfl) rfl rfl (Nat.le_of_ble_eq_true rfl) dX10_drawn_50 ?_
        refine v_iload_n (pc := 53) 0 dX10_drawn_53 rfl ?_
        have hf2 := Option.some.inj hf; subst hf2
        exact V_iret (pc := 54) hF dX10_drawn_54
    · replace hf := it_f c2 hf
      refine v_iconst (pc := 11) (-1 : Int32) dX10_drawn_11 ci_m1 ?_
      have hf2 := Option.some.inj hf; subst hf2
      exact V_iret (pc := 12) hF dX10_drawn_12
set_option maxRecDepth 20000 in
theorem wX10_odds_l27 {G : Wc} {Γ : Cx} {V0 : Ob} {V2 : Ob} {V3 : Ob} {l1 : Int32} {l2 : Int32} {l3 : Int32}  : ∀ (n : Nat) {l4 : Int32} {l5 : Int32} {V13 : Ob} {r : Int32 × Ob}, pX10_odds_l27  V0 V2 V3 l1 l2 l3 n l4 l5 V13 = some r → V cX10_odds RX10 7 202 6 G Γ [(0, V0), (2, V2), (13, r.2), (3, V3)] 91 [(4, .int r.1)] [] → V cX10_odds RX10 7 202 6 G Γ [(0, V0), (2, V2), (13, V13), (3, V3)] 27 [(0, .ref (wA G 0 0)), (1, .int l1), (2, .int l2), (3, .int l3), (4, .int l4), (5, .int l5)] [] := by
  intro n
  induction n with
  | zero => intro l4 l5 V13 r hf hx; unfold pX10_odds_l27 at hf; cases hf
  | succ n ih =>
    intro l4 l5 V13 r hf hx
    have hrec : ∀ {l4 : Int32} {l5 : Int32} {V13 : Ob}, pX10_odds_l27  V0 V2 V3 l1 l2 l3 n l4 l5 V13 = some r → V cX10_odds RX10 7 202 6 G Γ [(0, V0), (2, V2), (13, V13), (3, V3)] 27 [(0, .ref (wA G 0 0)), (1, .int l1), (2, .int l2), (3, .int l3), (4, .int l4), (5, .int l5)] [] := fun h => ih h hx
    clear ih
    unfold pX10_odds_l27 at hf
    refine v_iload (pc := 27) 5 dX10_odds_27 rfl ?_
    refine v_iload_n (pc := 29) 2 dX10_odds_29 rfl ?_
    refine v_icmp_ge (pc := 30) 91 dX10_odds_30 (by decide) (fun c6 => ?_) (fun c6 => ?_)
    · replace hf := it_t c6 hf
      have hf2 := Option.some.inj hf; subst hf2
      exact V_sub [4] rfl hx
    · replace hf := it_f c6 hf
      refine v_aload_n (pc := 33) 0 dX10_odds_33 rfl ?_
      refine gf_RX10_78 (pc := 34) 0 rfl rfl dX10_odds_34 ?_
      refine v_aload_n (pc := 37) 0 dX10_odds_37 rfl ?_
      refine gf_RX10_26 (pc := 38) 0 rfl rfl dX10_odds_38 ?_
      replace hf := bd_some hf; obtain ⟨r7, h8, hf⟩ := hf
      refine V_call (pc := 41) (us1 := [_, _, _, _]) [2, 3] 2 (kX6_copyFrom (o := 13) (oa := 3) rfl rfl h8) rfl rfl rfl rfl rfl rfl (Nat.le_of_ble_eq_true rfl) rfl rfl rfl wm_RX10_115 md_X6_copyFrom (Nat.le_of_ble_eq_true rfl) (Nat.le_of_ble_eq_true rfl) rfl rfl (Nat.le_of_ble_eq_true rfl) dX10_odds_41 ?_
      refine v_aload_n (pc := 44) 0 dX10_odds_44 rfl ?_
      refine gf_RX10_78 (pc := 45) 0 rfl rfl dX10_odds_45 ?_
      refine v_aload_n (pc := 48) 0 dX10_odds_48 rfl ?_
      refine gf_RX10_19 (pc := 49) 0 rfl rfl dX10_odds_49 ?_
      refine v_bipush (pc := 52) (10 : Int32) dX10_odds_52 cb_10 ?_
      refine v_aload_n (pc := 54) 0 dX10_odds_54 rfl ?_
      refine gf_RX10_78 (pc := 55) 0 rfl rfl dX10_odds_55 ?_
      replace hf := bd_some hf; obtain ⟨r9, h10, hf⟩ := hf
      refine V_call (pc := 58) (us1 := [_, _, _, _]) [2] 2 (kX6_daysLeft (o := 13) rfl h10) rfl rfl rfl rfl rfl rfl (Nat.le_of_ble_eq_true rfl) rfl rfl rfl wm_RX10_247 md_X6_daysLeft (Nat.le_of_ble_eq_true rfl) (Nat.le_of_ble_eq_true rfl) rfl rfl (Nat.le_of_ble_eq_true rfl) dX10_odds_58 ?_
      refine v_mmin (pc := 61) wm_RX10_251 (Nat.le_of_ble_eq_true rfl) (Nat.le_of_ble_eq_true rfl) (Nat.le_of_ble_eq_true rfl) dX10_odds_61 ?_
      refine v_iload_n (pc := 64) 3 dX10_odds_64 rfl ?_
      refine v_iload (pc := 65) 5 dX10_odds_65 rfl ?_
      refine v_iadd (pc := 67) dX10_odds_67 ?_
      replace hf := bd_some hf; obtain ⟨r11, h12, hf⟩ := hf
      refine V_call (pc := 68) (us1 := [_, _, _, _]) [2, 1] 2 (kX6_letDrawnDaysGo (o := 13) (oa := 2) rfl rfl h12) rfl rfl rfl rfl rfl rfl (Nat.le_of_ble_eq_true rfl) rfl rfl rfl wm_RX10_312 md_X6_letDrawnDaysGo (Nat.le_of_ble_eq_true rfl) (Nat.le_of_ble_eq_true rfl) rfl rfl (Nat.le_of_ble_eq_true rfl) dX10_odds_68 ?_
      refine v_aload_n (pc := 71) 0 dX10_odds_71 rfl ?_
      refine gf_RX10_78 (pc := 72) 0 rfl rfl dX10_odds_72 ?_
      refine v_iload_n (pc := 75) 1 dX10_odds_75 rfl ?_
      replace hf := bd_some hf; obtain ⟨r13, h14, hf⟩ := hf
      refine V_call (pc := 76) (us1 := [_, _, _, _]) [2] 2 (kX6_isNest (o := 13) rfl h14) rfl rfl rfl rfl rfl rfl (Nat.le_of_ble_eq_true rfl) rfl rfl rfl wm_RX10_154 md_X6_isNest (Nat.le_of_ble_eq_true rfl) (Nat.le_of_ble_eq_true rfl) rfl rfl (Nat.le_of_ble_eq_true rfl) dX10_odds_76 ?_
      refine v_if_eq (pc := 79) 85 dX10_odds_79 (by decide) (fun c15 => ?_) (fun c15 => ?_)
      · replace hf := it_t c15 hf
        refine v_iinc (pc := 85) 5 (l5 + (1 : Int32)) [(5, _), (0, _), (1, _), (2, _), (3, _), (4, _)] dX10_odds_85 rfl (congrArg (fun z => _ + z) ci_1) (Nat.le_of_ble_eq_true rfl) rfl ?_
        refine v_goto (pc := 88) 27 dX10_odds_88 (by decide) ?_
        exact V_sub [1, 2, 3, 4, 5, 0] rfl (hrec hf)
      · replace hf := it_f c15 hf
        refine v_iinc (pc := 82) 4 (l4 + (1 : Int32)) [(4, _), (0, _), (1, _), (2, _), (3, _), (5, _)] dX10_odds_82 rfl (congrArg (fun z => _ + z) ci_1) (Nat.le_of_ble_eq_true rfl) rfl ?_
        refine v_iinc (pc := 85) 5 (l5 + (1 : Int32)) [(5, _), (4, _), (0, _), (1, _), (2, _), (3, _)] dX10_odds_85 rfl (congrArg (fun z => _ + z) ci_1) (Nat.le_of_ble_eq_true rfl) rfl ?_
        refine v_goto (pc := 88) 27 dX10_odds_88 (by decide) ?_
        exact V_sub [2, 3, 4, 5, 1, 0] rfl (hrec hf)
set_option maxRecDepth 20000 in
theorem kX10_odds {G : Wc} {V0 : Ob} {V2 : Ob} {V13 : Ob} {V3 : Ob} {a : Int32} {b : Int32} {c : Int32} {r : Int32 × Ob}  (hf : pX10_odds V0 V2 V13 V3  a b c = some r) : Cn yX10_odds cX10_odds 6 (some .int) 7 202 G [.ref (wA G 0 0), .int a, .int b, .int c] [(0, V0), (2, V2), (13, V13), (3, V3)] [(0, V0), (2, V2), (13, r.2), (3, V3)] (some (.int r.1)) := by
  refine V_method [(0, .ref (wA G 0 0)), (1, .int a), (2, .int b), (3, .int c)] (by decide) rfl (Nat.le_of_ble_eq_true rfl) rfl (fun Γ hF => ?_)
  unfold pX10_odds at hf
  refine v_aload_n (pc := 0) 0 dX10_odds_0 rfl ?_
  refine v_iload_n (pc := 1) 1 dX10_odds_1 rfl ?_
  replace hf := bd_some hf; obtain ⟨r1, h2, hf⟩ := hf
  refine V_call (pc := 2) (us1 := [_, _, _, _]) [0, 1] 0 (kX10_isPerson  h2) rfl rfl rfl rfl rfl rfl (Nat.le_of_ble_eq_true rfl) rfl rfl rfl wm_RX10_122 md_X10_isPerson (Nat.le_of_ble_eq_true rfl) (Nat.le_of_ble_eq_true rfl) rfl rfl (Nat.le_of_ble_eq_true rfl) dX10_odds_2 ?_
  refine v_if_eq (pc := 5) 19 dX10_odds_5 (by decide) (fun c3 => ?_) (fun c3 => ?_)
  · replace hf := it_t c3 hf
    refine v_iconst (pc := 19) (-1 : Int32) dX10_odds_19 ci_m1 ?_
    have hf2 := Option.some.inj hf; subst hf2
    exact V_iret (pc := 20) hF dX10_odds_20
  · replace hf := it_f c3 hf
    refine v_iload_n (pc := 8) 2 dX10_odds_8 rfl ?_
    refine v_iconst (pc := 9) (1 : Int32) dX10_odds_9 ci_1 ?_
    refine v_icmp_lt (pc := 10) 19 dX10_odds_10 (by decide) (fun c4 => ?_) (fun c4 => ?_)
    · replace hf := it_t c4 hf
      refine v_iconst (pc := 19) (-1 : Int32) dX10_odds_19 ci_m1 ?_
      have hf2 := Option.some.inj hf; subst hf2
      exact V_iret (pc := 20) hF dX10_odds_20
    · replace hf := it_f c4 hf
      refine v_iload_n (pc := 13) 2 dX10_odds_13 rfl ?_
      refine v_bipush (pc := 14) (30 : Int32) dX10_odds_14 cb_30 ?_
      refine v_icmp_le (pc := 16) 21 dX10_odds_16 (by decide) (fun c5 => ?_) (fun c5 => ?_)
      · replace hf := it_t c5 hf
        refine v_iconst (pc := 21) (0 : Int32) dX10_odds_21 ci_0 ?_
        refine v_istore (pc := 22) [(4, _), (0, _), (1, _), (2, _), (3, _)] dX10_odds_22 (Nat.le_of_ble_eq_true rfl) rfl ?_
        refine v_iconst (pc := 24) (0 : Int32) dX10_odds_24 ci_0 ?_
        refine v_istore (pc := 25) [(5, _), (4, _), (0, _), (1, _), (2, _), (3, _)] dX10_odds_25 (Nat.le_of_ble_eq_true rfl) rfl ?_
        replace hf := bd_some hf; obtain ⟨r16, h17, hf⟩ := hf
        refine V_sub [2, 3, 4, 5, 1, 0] rfl (wX10_odds_l27  fu h17 ?_)
        refine v_iload (pc := 91) 0 dX10_odds_91 rfl ?_
        have hf2 := Option.some.inj hf; subst hf2
        exact V_iret (pc := 93) hF dX10_odds_93
      · replace hf := it_f c5 hf
        refine v_iconst (pc := 19) (-1 : Int32) dX10_odds_19 ci_m1 ?_
        have hf2 := Option.some.inj hf; subst hf2
        exact V_iret (pc := 20) hF dX10_odds_20
set_option maxRecDepth 20000 in
theorem wX10_book_j128 {G : Wc} {Γ : Cx} {V0 : Ob} {V9 : Ob} {V1 : Ob} {V2 : Ob} {V13 : Ob} {V3 : Ob} {V5 : Ob} {K : (Nat → Ob)} {r : Int32 × Ob × Ob × Ob × Ob × Ob × Ob × (Nat → Ob)}  (hF : Fnl G Γ (some .int) (some (.int r.1)) (ov Γ.2.2.2 [(0, r.2.1), (9, r.2.2.1), (1, r.2.2.2.1), (2, V2), (13, r.2.2.2.2.1), (3, r.2.2.2.2.2.1), (5, r.2.2.2.2.2.2.1), (14, r.2.2.2.2.2.2.2 0), (15, r.2.2.2.2.2.2.2 1), (16, r.2.2.2.2.2.2.2 2), (17, r.2.2.2.2.2.2.2 3), (18, r.2.2.2.2.2.2.2 4), (19, r.2.2.2.2.2.2.2 5), (20, r.2.2.2.2.2.2.2 6), (21, r.2.2.2.2.2.2.2 7)])) (hf : pX10_book_j128 V0 V9 V1 V2 V13 V3 V5 K = some r) : V cX10_book RX10 8 226 2 G Γ [(0, V0), (9, V9), (1, V1), (2, V2), (13, V13), (3, V3), (5, V5), (14, K 0), (15, K 1), (16, K 2), (17, K 3), (18, K 4), (19, K 5), (20, K 6), (21, K 7)] 128 [(0, .ref (wA G 0 0))] [] := by
  unfold pX10_book_j128 at hf
  refine v_aload_n (pc := 128) 0 dX10_book_128 rfl ?_
  refine gf_RX10_61 (pc := 129) 0 rfl rfl dX10_book_129 ?_
  refine gf_RX10_325 (pc := 132) 1 rfl rfl dX10_book_132 ?_
  refine v_if_ne (pc := 135) 142 dX10_book_135 (by decide) (fun c11 => ?_) (fun c11 => ?_)
  · replace hf := it_f c11 hf
    refine v_aload_n (pc := 142) 0 dX10_book_142 rfl ?_
    refine gf_RX10_61 (pc := 143) 0 rfl rfl dX10_book_143 ?_
    refine gf_RX10_322 (pc := 146) 1 rfl rfl dX10_book_146 ?_
    have hf2 := Option.some.inj hf; subst hf2
    exact V_iret (pc := 149) hF dX10_book_149
  · replace hf := it_t c11 hf
    refine v_iconst (pc := 138) (-1 : Int32) dX10_book_138 ci_m1 ?_
    refine v_goto (pc := 139) 149 dX10_book_139 (by decide) ?_
    have hf2 := Option.some.inj hf; subst hf2
    exact V_iret (pc := 149) hF dX10_book_149
set_option maxRecDepth 20000 in
theorem kX10_book {G : Wc} {V0 : Ob} {V9 : Ob} {V1 : Ob} {V2 : Ob} {V13 : Ob} {V3 : Ob} {V5 : Ob} {K : (Nat → Ob)} {a : Int32} {r : Int32 × Ob × Ob × Ob × Ob × Ob × Ob × (Nat → Ob)}  (hf : pX10_book V0 V9 V1 V2 V13 V3 V5 K  a = some r) : Cn yX10_book cX10_book 2 (some .int) 8 226 G [.ref (wA G 0 0), .int a] [(0, V0), (9, V9), (1, V1), (2, V2), (13, V13), (3, V3), (5, V5), (14, K 0), (15, K 1), (16, K 2), (17, K 3), (18, K 4), (19, K 5), (20, K 6), (21, K 7)] [(0, r.2.1), (9, r.2.2.1), (1, r.2.2.2.1), (2, V2), (13, r.2.2.2.2.1), (3, r.2.2.2.2.2.1), (5, r.2.2.2.2.2.2.1), (14, r.2.2.2.2.2.2.2 0), (15, r.2.2.2.2.2.2.2 1), (16, r.2.2.2.2.2.2.2 2), (17, r.2.2.2.2.2.2.2 3), (18, r.2.2.2.2.2.2.2 4), (19, r.2.2.2.2.2.2.2 5), (20, r.2.2.2.2.2.2.2 6), (21, r.2.2.2.2.2.2.2 7)] (some (.int r.1)) := by
  refine V_method [(0, .ref (wA G 0 0)), (1, .int a)] (by decide) rfl (Nat.le_of_ble_eq_true rfl) rfl (fun Γ hF => ?_)
  unfold pX10_book at hf
  refine v_iload_n (pc := 0) 1 dX10_book_0 rfl ?_
  refine v_if_lt (pc := 1) 9 dX10_book_1 (by decide) (fun c1 => ?_) (fun c1 => ?_)
  · replace hf := it_t c1 hf
    refine v_sipush (pc := 9) (-1000 : Int32) dX10_book_9 cs_m1000 ?_
    have hf2 := Option.some.inj hf; subst hf2
    exact V_iret (pc := 12) hF dX10_book_12
  · replace hf := it_f c1 hf
    refine v_iload_n (pc := 4) 1 dX10_book_4 rfl ?_
    refine v_iconst (pc := 5) (1 : Int32) dX10_book_5 ci_1 ?_
    refine v_icmp_le (pc := 6) 13 dX10_book_6 (by decide) (fun c2 => ?_) (fun c2 => ?_)
    · replace hf := it_t c2 hf
      refine v_aload_n (pc := 13) 0 dX10_book_13 rfl ?_
      refine gf_RX10_61 (pc := 14) 0 rfl rfl dX10_book_14 ?_
      refine v_aload_n (pc := 17) 0 dX10_book_17 rfl ?_
      refine gf_RX10_10 (pc := 18) 0 rfl rfl dX10_book_18 ?_
      refine v_aload_n (pc := 21) 0 dX10_book_21 rfl ?_
      refine gf_RX10_19 (pc := 22) 0 rfl rfl dX10_book_22 ?_
      replace hf := bd_some hf; obtain ⟨r3, h4, hf⟩ := hf
      refine V_call (pc := 25) (us1 := [_, _, _, _, _, _, _, _, _, _, _, _, _, _, _]) [1, 2, 3] 1 (kX0_readFrom (o := 9) (oa := 1) (ob := 2) rfl rfl rfl h4) rfl rfl rfl rfl rfl rfl (Nat.le_of_ble_eq_true rfl) rfl rfl rfl wm_RX10_315 md_X0_readFrom (Nat.le_of_ble_eq_true rfl) (Nat.le_of_ble_eq_true rfl) rfl rfl (Nat.le_of_ble_eq_true rfl) dX10_book_25 ?_
      refine v_aload_n (pc := 28) 0 dX10_book_28 rfl ?_
      refine gf_RX10_10 (pc := 29) 0 rfl rfl dX10_book_29 ?_
      refine v_iconst (pc := 32) (0 : Int32) dX10_book_32 ci_0 ?_
      refine pf_RX10_94 (pc := 33) [_, _, _, _, _, _, _, _, _, _, _, _, _, _, _] 2 rfl rfl rfl dX10_book_33 ?_
      refine v_aload_n (pc := 36) 0 dX10_book_36 rfl ?_
      refine v_aload_n (pc := 37) 0 dX10_book_37 rfl ?_
      refine gf_RX10_10 (pc := 38) 0 rfl rfl dX10_book_38 ?_
      refine gf_RX10_105 (pc := 41) 2 rfl rfl dX10_book_41 ?_
      refine pf_RX10_81 (pc := 44) [_, _, _, _, _, _, _, _, _, _, _, _, _, _, _] 0 rfl rfl rfl dX10_book_44 ?_
      refine v_aload_n (pc := 47) 0 dX10_book_47 rfl ?_
      refine gf_RX10_81 (pc := 48) 0 rfl rfl dX10_book_48 ?_
      refine v_if_eq (pc := 51) 65 dX10_book_51 (by decide) (fun c5 => ?_) (fun c5 => ?_)
      · replace hf := it_t c5 hf
        refine v_aload_n (pc := 65) 0 dX10_book_65 rfl ?_
        refine gf_RX10_78 (pc := 66) 0 rfl rfl dX10_book_66 ?_
        refine v_aload_n (pc := 69) 0 dX10_book_69 rfl ?_
        refine gf_RX10_26 (pc := 70) 0 rfl rfl dX10_book_70 ?_
        replace hf := bd_some hf; obtain ⟨r6, h7, hf⟩ := hf
        refine V_call (pc := 73) (us1 := [_, _, _, _, _, _, _, _, _, _, _, _, _, _, _]) [4, 5] 4 (kX6_copyFrom (o := 13) (oa := 3) rfl rfl h7) rfl rfl rfl rfl rfl rfl (Nat.le_of_ble_eq_true rfl) rfl rfl rfl wm_RX10_115 md_X6_copyFrom (Nat.le_of_ble_eq_true rfl) (Nat.le_of_ble_eq_true rfl) rfl rfl (Nat.le_of_ble_eq_true rfl) dX10_book_73 ?_
        refine v_aload_n (pc := 76) 0 dX10_book_76 rfl ?_
        refine gf_RX10_61 (pc := 77) 0 rfl rfl dX10_book_77 ?_
        refine v_aload_n (pc := 80) 0 dX10_book_80 rfl ?_
        refine gf_RX10_19 (pc := 81) 0 rfl rfl dX10_book_81 ?_
        refine v_aload_n (pc := 84) 0 dX10_book_84 rfl ?_
        refine gf_RX10_78 (pc := 85) 0 rfl rfl dX10_book_85 ?_
        replace hf := bd_some hf; obtain ⟨r8, h9, hf⟩ := hf
        refine V_call (pc := 88) (us1 := [_, _, _, _, _, _, _, _, _, _, _, _, _, _, _]) [1, 3, 4] 1 (kX0_live (o := 9) (oa := 2) (ob := 13) rfl rfl rfl h9) rfl rfl rfl rfl rfl rfl (Nat.le_of_ble_eq_true rfl) rfl rfl rfl wm_RX10_318 md_X0_live (Nat.le_of_ble_eq_true rfl) (Nat.le_of_ble_eq_true rfl) rfl rfl (Nat.le_of_ble_eq_true rfl) dX10_book_88 ?_
        refine v_iload_n (pc := 91) 1 dX10_book_91 rfl ?_
        refine v_iconst (pc := 92) (1 : Int32) dX10_book_92 ci_1 ?_
        refine v_icmp_ne (pc := 93) 128 dX10_book_93 (by decide) (fun c10 => ?_) (fun c10 => ?_)
        · replace hf := it_f c10 hf
          exact V_sub [0] rfl (wX10_book_j128  hF hf)
        · replace hf := it_t c10 hf
          refine v_aload_n (pc := 96) 0 dX10_book_96 rfl ?_
          refine gf_RX10_61 (pc := 97) 0 rfl rfl dX10_book_97 ?_
          refine gf_RX10_322 (pc := 100) 1 rfl rfl dX10_book_100 ?_
          refine v_if_le (pc := 103) 128 dX10_book_103 (by decide) (fun c12 => ?_) (fun c12 => ?_)
          · replace hf := it_t c12 hf
            exact V_sub [0] rfl (wX10_book_j128  hF hf)
          · replace hf := it_f c12 hf
            refine v_aload_n (pc := 106) 0 dX10_book_106 rfl ?_
            refine gf_RX10_40 (pc := 107) 0 rfl rfl dX10_book_107 ?_
            refine v_aload_n (pc := 110) 0 dX10_book_110 rfl ?_
            refine gf_RX10_26 (pc := 111) 0 rfl rfl dX10_book_111 ?_
            replace hf := bd_some hf; obtain ⟨r13, h14, hf⟩ := hf
            refine V_call (pc := 114) (us1 := [_, _, _, _, _, _, _, _, _, _, _, _, _, _, _]) [6, 5, 7, 8, 9, 10, 11, 12, 13, 14] 6 (kX2_keep (oa := 3) rfl h14) rfl rfl rfl rfl rfl rfl (Nat.le_of_ble_eq_true rfl) rfl rfl rfl wm_RX10_221 md_X2_keep (Nat.le_of_ble_eq_true rfl) (Nat.le_of_ble_eq_true rfl) rfl rfl (Nat.le_of_ble_eq_true rfl) dX10_book_114 ?_
            refine v_aload_n (pc := 117) 0 dX10_book_117 rfl ?_
            refine gf_RX10_26 (pc := 118) 0 rfl rfl dX10_book_118 ?_
            refine v_aload_n (pc := 121) 0 dX10_book_121 rfl ?_
            refine gf_RX10_78 (pc := 122) 0 rfl rfl dX10_book_122 ?_
            replace hf := bd_some hf; obtain ⟨r15, h16, hf⟩ := hf
            refine V_call (pc := 125) (us1 := [_, _, _, _, _, _, _, _, _, _, _, _, _, _, _]) [5, 4] 5 (kX6_copyFrom (o := 3) (oa := 13) rfl rfl h16) rfl rfl rfl rfl rfl rfl (Nat.le_of_ble_eq_true rfl) rfl rfl rfl wm_RX10_115 md_X6_copyFrom (Nat.le_of_ble_eq_true rfl) (Nat.le_of_ble_eq_true rfl) rfl rfl (Nat.le_of_ble_eq_true rfl) dX10_book_125 ?_
            exact V_sub [0] rfl (wX10_book_j128  hF hf)
      · replace hf := it_f c5 hf
        refine v_bipush (pc := 54) (-2 : Int32) dX10_book_54 cb_m2 ?_
        refine v_aload_n (pc := 56) 0 dX10_book_56 rfl ?_
        refine gf_RX10_10 (pc := 57) 0 rfl rfl dX10_book_57 ?_
        refine gf_RX10_108 (pc := 60) 2 rfl rfl dX10_book_60 ?_
        refine v_isub (pc := 63) dX10_book_63 ?_
        have hf2 := Option.some.inj hf; subst hf2
        exact V_iret (pc := 64) hF dX10_book_64
    · replace hf := it_f c2 hf
      refine v_sipush (pc := 9) (-1000 : Int32) dX10_book_9 cs_m1000 ?_
      have hf2 := Option.some.inj hf; subst hf2
      exact V_iret (pc := 12) hF dX10_book_12
set_option maxRecDepth 20000 in
theorem kX10_told {G : Wc} {V0 : Ob} {V9 : Ob} {a : Int32} {r : Int32}  (hf : pX10_told V0 V9  a = some r) : Cn yX10_told cX10_told 2 (some .int) 1 60 G [.ref (wA G 0 0), .int a] [(0, V0), (9, V9)] [(0, V0), (9, V9)] (some (.int r)) := by
  refine V_method [(0, .ref (wA G 0 0)), (1, .int a)] (by decide) rfl (Nat.le_of_ble_eq_true rfl) rfl (fun Γ hF => ?_)
  unfold pX10_told at hf
  refine v_aload_n (pc := 0) 0 dX10_told_0 rfl ?_
  refine gf_RX10_61 (pc := 1) 0 rfl rfl dX10_told_1 ?_
  refine gf_RX10_328 (pc := 4) 1 rfl rfl dX10_told_4 ?_
  refine v_if_ne (pc := 7) 12 dX10_told_7 (by decide) (fun c1 => ?_) (fun c1 => ?_)
  · replace hf := it_f c1 hf
    refine v_iload_n (pc := 12) 1 dX10_told_12 rfl ?_
    by_cases c2 : a = (0 : Int32)
    · replace hf := it_t c2 hf
      refine v_tsIn (pc := 13) (0 : Int32) 44 dX10_told_13 c2 (by decide) (by decide) rfl (by decide) ?_
      refine v_aload_n (pc := 44) 0 dX10_told_44 rfl ?_
      refine gf_RX10_61 (pc := 45) 0 rfl rfl dX10_told_45 ?_
      refine gf_RX10_325 (pc := 48) 1 rfl rfl dX10_told_48 ?_
      have hf2 := Option.some.inj hf; subst hf2
      exact V_iret (pc := 51) hF dX10_told_51
    replace hf := it_f c2 hf
    by_cases c3 : a = (1 : Int32)
    · replace hf := it_t c3 hf
      refine v_tsIn (1 : Int32) 52 dX10_told_13 c3 (by decide) (by decide) rfl (by decide) ?_
      refine v_aload_n (pc := 52) 0 dX10_told_52 rfl ?_
      refine gf_RX10_61 (pc := 53) 0 rfl rfl dX10_told_53 ?_
      refine gf_RX10_322 (pc := 56) 1 rfl rfl dX10_told_56 ?_
      have hf2 := Option.some.inj hf; subst hf2
      exact V_iret (pc := 59) hF dX10_told_59
    replace hf := it_f c3 hf
    by_cases c4 : a = (2 : Int32)
    · replace hf := it_t c4 hf
      refine v_tsIn (2 : Int32) 60 dX10_told_13 c4 (by decide) (by decide) rfl (by decide) ?_
      refine v_aload_n (pc := 60) 0 dX10_told_60 rfl ?_
      refine gf_RX10_61 (pc := 61) 0 rfl rfl dX10_told_61 ?_
      refine gf_RX10_332 (pc := 64) 1 rfl rfl dX10_told_64 ?_
      have hf2 := Option.some.inj hf; subst hf2
      exact V_iret (pc := 67) hF dX10_told_67
    replace hf := it_f c4 hf
    by_cases c5 : a = (3 : Int32)
    · replace hf := it_t c5 hf
      refine v_tsIn (3 : Int32) 68 dX10_told_13 c5 (by decide) (by decide) rfl (by decide) ?_
      refine v_aload_n (pc := 68) 0 dX10_told_68 rfl ?_
      refine gf_RX10_61 (pc := 69) 0 rfl rfl dX10_told_69 ?_
      refine gf_RX10_335 (pc := 72) 1 rfl rfl dX10_told_72 ?_
      have hf2 := Option.some.inj hf; subst hf2
      exact V_iret (pc := 75) hF dX10_told_75
    replace hf := it_f c5 hf
    refine v_tsOut 76 dX10_told_13 4 (fun k hk => match k, hk with | 0, _ => c2 | 1, _ => c3 | 2, _ => c4 | 3, _ => c5 | k + 4, h => absurd h (by omega)) (by decide) (by decide) (by decide) ?_
    refine v_iconst (pc := 76) (-1 : Int32) dX10_told_76 ci_m1 ?_
    have hf2 := Option.some.inj hf; subst hf2
    exact V_iret (pc := 77) hF dX10_told_77
  · replace hf := it_t c1 hf
    refine v_iconst (pc := 10) (-1 : Int32) dX10_told_10 ci_m1 ?_
    have hf2 := Option.some.inj hf; subst hf2
    exact V_iret (pc := 11) hF dX10_told_11
set_option maxRecDepth 20000 in
theorem kX10_sentence {G : Wc} {V0 : Ob} {V12 : Ob} {V1 : Ob} {V2 : Ob} {V4 : Ob}  {r : Int32 × Ob × Ob × Ob × Ob}  (hf : pX10_sentence V0 V12 V1 V2 V4   = some r) : Cn yX10_sentence cX10_sentence 1 (some .int) 47 1949 G [.ref (wA G 0 0)] [(0, V0), (12, V12), (1, V1), (2, V2), (4, V4)] [(0, r.2.1), (12, r.2.2.1), (1, r.2.2.2.1), (2, V2), (4, r.2.2.2.2)] (some (.int r.1)) := by
  refine V_method [(0, .ref (wA G 0 0))] (by decide) rfl (Nat.le_of_ble_eq_true rfl) rfl (fun Γ hF => ?_)
  unfold pX10_sentence at hf
  refine v_aload_n (pc := 0) 0 dX10_sentence_0 rfl ?_
  refine gf_RX10_75 (pc := 1) 0 rfl rfl dX10_sentence_1 ?_
  refine v_aload_n (pc := 4) 0 dX10_sentence_4 rfl ?_
  refine gf_RX10_10 (pc := 5) 0 rfl rfl dX10_sentence_5 ?_
  refine v_aload_n (pc := 8) 0 dX10_sentence_8 rfl ?_
  refine gf_RX10_19 (pc := 9) 0 rfl rfl dX10_sentence_9 ?_
  replace hf := bd_some hf; obtain ⟨r1, h2, hf⟩ := hf
  refine V_call (pc := 12) (us1 := [_, _, _, _, _]) [1, 2, 3] 1 (kX5_readFrom (o := 12) (oa := 1) (ob := 2) rfl rfl rfl h2) rfl rfl rfl rfl rfl rfl (Nat.le_of_ble_eq_true rfl) rfl rfl rfl wm_RX10_338 md_X5_readFrom (Nat.le_of_ble_eq_true rfl) (Nat.le_of_ble_eq_true rfl) rfl rfl (Nat.le_of_ble_eq_true rfl) dX10_sentence_12 ?_
  refine v_aload_n (pc := 15) 0 dX10_sentence_15 rfl ?_
  refine gf_RX10_10 (pc := 16) 0 rfl rfl dX10_sentence_16 ?_
  refine v_iconst (pc := 19) (0 : Int32) dX10_sentence_19 ci_0 ?_
  refine pf_RX10_94 (pc := 20) [_, _, _, _, _] 2 rfl rfl rfl dX10_sentence_20 ?_
  refine v_aload_n (pc := 23) 0 dX10_sentence_23 rfl ?_
  refine v_aload_n (pc := 24) 0 dX10_sentence_24 rfl ?_
  refine gf_RX10_10 (pc := 25) 0 rfl rfl dX10_sentence_25 ?_
  refine gf_RX10_105 (pc := 28) 2 rfl rfl dX10_sentence_28 ?_
  refine pf_RX10_81 (pc := 31) [_, _, _, _, _] 0 rfl rfl rfl dX10_sentence_31 ?_
  refine v_aload_n (pc := 34) 0 dX10_sentence_34 rfl ?_
  refine gf_RX10_81 (pc := 35) 0 rfl rfl dX10_sentence_35 ?_
  refine v_if_eq (pc := 38) 51 dX10_sentence_38 (by decide) (fun c3 => ?_) (fun c3 => ?_)
  · replace hf := it_t c3 hf
    refine v_aload_n (pc := 51) 0 dX10_sentence_51 rfl ?_
    refine gf_RX10_33 (pc := 52) 0 rfl rfl dX10_sentence_52 ?_
    refine v_aload_n (pc := 55) 0 dX10_sentence_55 rfl ?_
    refine gf_RX10_75 (pc := 56) 0 rfl rfl dX10_sentence_56 ?_
    replace hf := bd_some hf; obtain ⟨r4, h5, hf⟩ := hf
    refine V_call (pc := 59) (us1 := [_, _, _, _, _]) [4, 1] 4 (kX5_copyFrom (o := 4) (oa := 12) rfl rfl h5) rfl rfl rfl rfl rfl rfl (Nat.le_of_ble_eq_true rfl) rfl rfl rfl wm_RX10_339 md_X5_copyFrom (Nat.le_of_ble_eq_true rfl) (Nat.le_of_ble_eq_true rfl) rfl rfl (Nat.le_of_ble_eq_true rfl) dX10_sentence_59 ?_
    refine v_aload_n (pc := 62) 0 dX10_sentence_62 rfl ?_
    refine gf_RX10_33 (pc := 63) 0 rfl rfl dX10_sentence_63 ?_
    refine gf_RX10_342 (pc := 66) 4 rfl rfl dX10_sentence_66 ?_
    have hf2 := Option.some.inj hf; subst hf2
    exact V_iret (pc := 69) hF dX10_sentence_69
  · replace hf := it_f c3 hf
    refine v_iconst (pc := 41) (-1 : Int32) dX10_sentence_41 ci_m1 ?_
    refine v_aload_n (pc := 42) 0 dX10_sentence_42 rfl ?_
    refine gf_RX10_10 (pc := 43) 0 rfl rfl dX10_sentence_43 ?_
    refine gf_RX10_108 (pc := 46) 2 rfl rfl dX10_sentence_46 ?_
    refine v_isub (pc := 49) dX10_sentence_49 ?_
    have hf2 := Option.some.inj hf; subst hf2
    exact V_iret (pc := 50) hF dX10_sentence_50
set_option maxRecDepth 20000 in
theorem wX10_said_l21 {G : Wc} {Γ : Cx} {V0 : Ob} {V4 : Ob} {V2 : Ob} {V3 : Ob} {l1 : Int32} {r : Int32}  (hF : Fnl G Γ (some .int) (some (.int r)) (ov Γ.2.2.2 [(0, V0), (4, V4), (2, V2), (3, V3)])) : ∀ (n : Nat) {l2 : Int32} {l3 : Int32}, pX10_said_l21  V0 V4 V2 V3 l1 n l2 l3 = some r → V cX10_said RX10 6 179 4 G Γ [(0, V0), (4, V4), (2, V2), (3, V3)] 21 [(0, .ref (wA G 0 0)), (1, .int l1), (2, .int l2), (3, .int l3)] [] := by
  intro n
  induction n with
  | zero => intro l2 l3 hf; unfold pX10_said_l21 at hf; cases hf
  | succ n ih =>
    intro l2 l3 hf
    have hrec : ∀ {l2 : Int32} {l3 : Int32}, pX10_said_l21  V0 V4 V2 V3 l1 n l2 l3 = some r → V cX10_said RX10 6 179 4 G Γ [(0, V0), (4, V4), (2, V2), (3, V3)] 21 [(0, .ref (wA G 0 0)), (1, .int l1), (2, .int l2), (3, .int l3)] [] := fun h => ih h
    clear ih
    unfold pX10_said_l21 at hf
    refine v_iload_n (pc := 21) 3 dX10_said_21 rfl ?_
    refine v_aload_n (pc := 22) 0 dX10_said_22 rfl ?_
    refine gf_RX10_19 (pc := 23) 0 rfl rfl dX10_said_23 ?_
    refine gf_RX10_286 (pc := 26) 2 rfl rfl dX10_said_26 ?_
    refine v_icmp_ge (pc := 29) 67 dX10_said_29 (by decide) (fun c3 => ?_) (fun c3 => ?_)
    · replace hf := it_t c3 hf
      refine v_iload_n (pc := 67) 1 dX10_said_67 rfl ?_
      refine v_iconst (pc := 68) (-1 : Int32) dX10_said_68 ci_m1 ?_
      refine v_icmp_ne (pc := 69) 76 dX10_said_69 (by decide) (fun c4 => ?_) (fun c4 => ?_)
      · replace hf := it_f c4 hf
        refine v_iconst (pc := 76) (-1 : Int32) dX10_said_76 ci_m1 ?_
        have hf2 := Option.some.inj hf; subst hf2
        exact V_iret (pc := 77) hF dX10_said_77
      · replace hf := it_t c4 hf
        refine v_iload_n (pc := 72) 2 dX10_said_72 rfl ?_
        refine v_goto (pc := 73) 77 dX10_said_73 (by decide) ?_
        have hf2 := Option.some.inj hf; subst hf2
        exact V_iret (pc := 77) hF dX10_said_77
    · replace hf := it_f c3 hf
      refine v_aload_n (pc := 32) 0 dX10_said_32 rfl ?_
      refine gf_RX10_33 (pc := 33) 0 rfl rfl dX10_said_33 ?_
      refine v_aload_n (pc := 36) 0 dX10_said_36 rfl ?_
      refine gf_RX10_19 (pc := 37) 0 rfl rfl dX10_said_37 ?_
      refine v_aload_n (pc := 40) 0 dX10_said_40 rfl ?_
      refine gf_RX10_26 (pc := 41) 0 rfl rfl dX10_said_41 ?_
      refine v_iload_n (pc := 44) 3 dX10_said_44 rfl ?_
      replace hf := bd_some hf; obtain ⟨r5, h6, hf⟩ := hf
      refine V_call (pc := 45) (us1 := [_, _, _, _]) [1, 2, 3] 1 (kX5_isTrueOf (o := 4) (oa := 2) (ob := 3) rfl rfl rfl h6) rfl rfl rfl rfl rfl rfl (Nat.le_of_ble_eq_true rfl) rfl rfl rfl wm_RX10_345 md_X5_isTrueOf (Nat.le_of_ble_eq_true rfl) (Nat.le_of_ble_eq_true rfl) rfl rfl (Nat.le_of_ble_eq_true rfl) dX10_said_45 ?_
      refine v_if_eq (pc := 48) 61 dX10_said_48 (by decide) (fun c7 => ?_) (fun c7 => ?_)
      · replace hf := it_t c7 hf
        refine v_iinc (pc := 61) 3 (l3 + (1 : Int32)) [(3, _), (0, _), (1, _), (2, _)] dX10_said_61 rfl (congrArg (fun z => _ + z) ci_1) (Nat.le_of_ble_eq_true rfl) rfl ?_
        refine v_goto (pc := 64) 21 dX10_said_64 (by decide) ?_
        exact V_sub [1, 2, 3, 0] rfl (hrec hf)
      · replace hf := it_f c7 hf
        refine v_iload_n (pc := 51) 2 dX10_said_51 rfl ?_
        refine v_iload_n (pc := 52) 1 dX10_said_52 rfl ?_
        refine v_icmp_ne (pc := 53) 58 dX10_said_53 (by decide) (fun c8 => ?_) (fun c8 => ?_)
        · replace hf := it_f c8 hf
          refine v_iinc (pc := 58) 2 (l2 + (1 : Int32)) [(2, _), (0, _), (1, _), (3, _)] dX10_said_58 rfl (congrArg (fun z => _ + z) ci_1) (Nat.le_of_ble_eq_true rfl) rfl ?_
          refine v_iinc (pc := 61) 3 (l3 + (1 : Int32)) [(3, _), (2, _), (0, _), (1, _)] dX10_said_61 rfl (congrArg (fun z => _ + z) ci_1) (Nat.le_of_ble_eq_true rfl) rfl ?_
          refine v_goto (pc := 64) 21 dX10_said_64 (by decide) ?_
          exact V_sub [2, 3, 1, 0] rfl (hrec hf)
        · replace hf := it_t c8 hf
          refine v_iload_n (pc := 56) 3 dX10_said_56 rfl ?_
          have hf2 := Option.some.inj hf; subst hf2
          exact V_iret (pc := 57) hF dX10_said_57
set_option maxRecDepth 20000 in
theorem kX10_said {G : Wc} {V0 : Ob} {V4 : Ob} {V2 : Ob} {V3 : Ob} {a : Int32} {r : Int32}  (hf : pX10_said V0 V4 V2 V3  a = some r) : Cn yX10_said cX10_said 4 (some .int) 6 179 G [.ref (wA G 0 0), .int a] [(0, V0), (4, V4), (2, V2), (3, V3)] [(0, V0), (4, V4), (2, V2), (3, V3)] (some (.int r)) := by
  refine V_method [(0, .ref (wA G 0 0)), (1, .int a)] (by decide) rfl (Nat.le_of_ble_eq_true rfl) rfl (fun Γ hF => ?_)
  unfold pX10_said at hf
  refine v_aload_n (pc := 0) 0 dX10_said_0 rfl ?_
  refine gf_RX10_33 (pc := 1) 0 rfl rfl dX10_said_1 ?_
  refine gf_RX10_342 (pc := 4) 1 rfl rfl dX10_said_4 ?_
  refine v_if_eq (pc := 7) 15 dX10_said_7 (by decide) (fun c1 => ?_) (fun c1 => ?_)
  · replace hf := it_t c1 hf
    refine v_iconst (pc := 15) (-1 : Int32) dX10_said_15 ci_m1 ?_
    have hf2 := Option.some.inj hf; subst hf2
    exact V_iret (pc := 16) hF dX10_said_16
  · replace hf := it_f c1 hf
    refine v_iload_n (pc := 10) 1 dX10_said_10 rfl ?_
    refine v_iconst (pc := 11) (-1 : Int32) dX10_said_11 ci_m1 ?_
    refine v_icmp_ge (pc := 12) 17 dX10_said_12 (by decide) (fun c2 => ?_) (fun c2 => ?_)
    · replace hf := it_t c2 hf
      refine v_iconst (pc := 17) (0 : Int32) dX10_said_17 ci_0 ?_
      refine v_istore_n (pc := 18) [(2, _), (0, _), (1, _)] dX10_said_18 (Nat.le_of_ble_eq_true rfl) rfl ?_
      refine v_iconst (pc := 19) (0 : Int32) dX10_said_19 ci_0 ?_
      refine v_istore_n (pc := 20) [(3, _), (2, _), (0, _), (1, _)] dX10_said_20 (Nat.le_of_ble_eq_true rfl) rfl ?_
      exact V_sub [2, 3, 1, 0] rfl (wX10_said_l21  hF fu hf)
    · replace hf := it_f c2 hf
      refine v_iconst (pc := 15) (-1 : Int32) dX10_said_15 ci_m1 ?_
      have hf2 := Option.some.inj hf; subst hf2
      exact V_iret (pc := 16) hF dX10_said_16
