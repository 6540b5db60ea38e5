set_option maxRecDepth 20000 in
theorem kX11_stroke {G : Wc} {o : Nat} {S : Ob} {a : Int32} {b : Int32} {r : Int32 × Ob} (hk0 : kd o = 10) (hf : pX11_stroke S  a b = some r) : Cn yX11_stroke cX11_stroke 4 (some .int) 5 153 G [.ref (wA G o 0), .int a, .int b] [(o, S)] [(o, r.2)] (some (.int r.1)) := by
  refine V_method [(0, .ref (wA G o 0)), (1, .int a), (2, .int b)] (by decide) rfl (Nat.le_of_ble_eq_true rfl) rfl (fun Γ hF => ?_)
  unfold pX11_stroke at hf
  refine v_aload_n (pc := 0) 0 dX11_stroke_0 rfl ?_
  refine v_iconst (pc := 1) (0 : Int32) dX11_stroke_1 ci_0 ?_
  refine pf_RX11_1 (pc := 2) [_] 0 rfl hk0 rfl dX11_stroke_2 ?_
  refine v_aload_n (pc := 5) 0 dX11_stroke_5 rfl ?_
  refine v_iload_n (pc := 6) 1 dX11_stroke_6 rfl ?_
  replace hf := bd_some hf; obtain ⟨r1, h2, hf⟩ := hf
  refine V_call (pc := 7) (us1 := [_]) [0] 0 (kX11_isPerson (o := o) hk0 h2) rfl rfl rfl rfl rfl hk0 (Nat.le_of_ble_eq_true rfl) rfl rfl rfl wm_RX11_254 md_X11_isPerson (Nat.le_of_ble_eq_true rfl) (Nat.le_of_ble_eq_true rfl) rfl rfl (Nat.le_of_ble_eq_true rfl) dX11_stroke_7 ?_
  refine v_if_eq (pc := 10) 23 dX11_stroke_10 (by decide) (fun c3 => ?_) (fun c3 => ?_)
  · replace hf := it_t c3 hf
    refine v_iconst (pc := 23) (-1 : Int32) dX11_stroke_23 ci_m1 ?_
    have hf2 := Option.some.inj hf; subst hf2
    exact V_iret (pc := 24) hF dX11_stroke_24
  · replace hf := it_f c3 hf
    refine v_iload_n (pc := 13) 2 dX11_stroke_13 rfl ?_
    refine v_iconst (pc := 14) (1 : Int32) dX11_stroke_14 ci_1 ?_
    refine v_bipush (pc := 15) (20 : Int32) dX11_stroke_15 cb_20 ?_
    replace hf := bd_some hf; obtain ⟨r4, h5, hf⟩ := hf
    refine V_callS (pc := 17) (us1 := [_]) [] (kX11_isIn  h5) rfl rfl rfl rfl wm_RX11_176 md_X11_isIn (Nat.le_of_ble_eq_true rfl) (Nat.le_of_ble_eq_true rfl) rfl rfl (Nat.le_of_ble_eq_true rfl) dX11_stroke_17 ?_
    refine v_if_ne (pc := 20) 25 dX11_stroke_20 (by decide) (fun c6 => ?_) (fun c6 => ?_)
    · replace hf := it_f c6 hf
      refine v_aload_n (pc := 25) 0 dX11_stroke_25 rfl ?_
      refine v_iload_n (pc := 26) 1 dX11_stroke_26 rfl ?_
      refine v_iload_n (pc := 27) 2 dX11_stroke_27 rfl ?_
      replace hf := bd_some hf; obtain ⟨r7, h8, hf⟩ := hf
      refine V_call (pc := 28) (us1 := [_]) [0] 0 (kX11_whyStroke (o := o) hk0 h8) rfl rfl rfl rfl rfl hk0 (Nat.le_of_ble_eq_true rfl) rfl rfl rfl wm_RX11_306 md_X11_whyStroke (Nat.le_of_ble_eq_true rfl) (Nat.le_of_ble_eq_true rfl) rfl rfl (Nat.le_of_ble_eq_true rfl) dX11_stroke_28 ?_
      refine v_istore_n (pc := 31) [(3, _), (0, _), (1, _), (2, _)] dX11_stroke_31 (Nat.le_of_ble_eq_true rfl) rfl ?_
      refine v_iload_n (pc := 32) 0 dX11_stroke_32 rfl ?_
      refine v_if_le (pc := 33) 38 dX11_stroke_33 (by decide) (fun c9 => ?_) (fun c9 => ?_)
      · replace hf := it_t c9 hf
        refine v_aload_n (pc := 38) 1 dX11_stroke_38 rfl ?_
        replace hf := bd_some hf; obtain ⟨r10, h11, hf⟩ := hf
        refine V_call (pc := 39) (us1 := [_]) [0] 0 (kX11_keep (o := o) hk0 h11) rfl rfl rfl rfl rfl hk0 (Nat.le_of_ble_eq_true rfl) rfl rfl rfl wm_RX11_309 md_X11_keep (Nat.le_of_ble_eq_true rfl) (Nat.le_of_ble_eq_true rfl) rfl rfl (Nat.le_of_ble_eq_true rfl) dX11_stroke_39 ?_
        refine v_aload_n (pc := 42) 1 dX11_stroke_42 rfl ?_
        refine v_iload_n (pc := 43) 2 dX11_stroke_43 rfl ?_
        refine v_iload_n (pc := 44) 3 dX11_stroke_44 rfl ?_
        replace hf := bd_some hf; obtain ⟨r12, h13, hf⟩ := hf
        refine V_call (pc := 45) (us1 := [_]) [0] 0 (kX11_strokes (o := o) hk0 h13) rfl rfl rfl rfl rfl hk0 (Nat.le_of_ble_eq_true rfl) rfl rfl rfl wm_RX11_312 md_X11_strokes (Nat.le_of_ble_eq_true rfl) (Nat.le_of_ble_eq_true rfl) rfl rfl (Nat.le_of_ble_eq_true rfl) dX11_stroke_45 ?_
        refine v_iconst (pc := 48) (0 : Int32) dX11_stroke_48 ci_0 ?_
        have hf2 := Option.some.inj hf; subst hf2
        exact V_iret (pc := 49) hF dX11_stroke_49
      · replace hf := it_f c9 hf
        refine v_iload_n (pc := 36) 0 dX11_stroke_36 rfl ?_
        have hf2 := Option.some.inj hf; subst hf2
        exact V_iret (pc := 37) hF dX11_stroke_37
    · replace hf := it_t c6 hf
      refine v_iconst (pc := 23) (-1 : Int32) dX11_stroke_23 ci_m1 ?_
      have hf2 := Option.some.inj hf; subst hf2
      exact V_iret (pc := 24) hF dX11_stroke_24
set_option maxRecDepth 20000 in
theorem kX11_cut {G : Wc} {o : Nat} {S : Ob} {a : Int32} {r : Int32 × Ob} (hk0 : kd o = 10) (hf : pX11_cut S  a = some r) : Cn yX11_cut cX11_cut 2 (some .int) 5 151 G [.ref (wA G o 0), .int a] [(o, S)] [(o, r.2)] (some (.int r.1)) := by
  refine V_method [(0, .ref (wA G o 0)), (1, .int a)] (by decide) rfl (Nat.le_of_ble_eq_true rfl) rfl (fun Γ hF => ?_)
  unfold pX11_cut at hf
  refine v_aload_n (pc := 0) 0 dX11_cut_0 rfl ?_
  refine v_iconst (pc := 1) (0 : Int32) dX11_cut_1 ci_0 ?_
  refine pf_RX11_1 (pc := 2) [_] 0 rfl hk0 rfl dX11_cut_2 ?_
  refine v_aload_n (pc := 5) 0 dX11_cut_5 rfl ?_
  refine v_iload_n (pc := 6) 1 dX11_cut_6 rfl ?_
  replace hf := bd_some hf; obtain ⟨r1, h2, hf⟩ := hf
  refine V_call (pc := 7) (us1 := [_]) [0] 0 (kX11_isPerson (o := o) hk0 h2) rfl rfl rfl rfl rfl hk0 (Nat.le_of_ble_eq_true rfl) rfl rfl rfl wm_RX11_254 md_X11_isPerson (Nat.le_of_ble_eq_true rfl) (Nat.le_of_ble_eq_true rfl) rfl rfl (Nat.le_of_ble_eq_true rfl) dX11_cut_7 ?_
  refine v_if_ne (pc := 10) 15 dX11_cut_10 (by decide) (fun c3 => ?_) (fun c3 => ?_)
  · replace hf := it_f c3 hf
    refine v_aload_n (pc := 15) 0 dX11_cut_15 rfl ?_
    refine gf_RX11_33 (pc := 16) 0 rfl hk0 dX11_cut_16 ?_
    refine v_bipush (pc := 19) (125 : Int32) dX11_cut_19 cb_125 ?_
    refine v_iload_n (pc := 21) 1 dX11_cut_21 rfl ?_
    refine v_iadd (pc := 22) dX11_cut_22 ?_
    replace hf := gd_some hf; obtain ⟨g4, hf⟩ := hf
    refine al_X11_6 (pc := 23) _ 0 rfl hk0 rfl g4 dX11_cut_23 ?_
    refine v_if_ne (pc := 24) 29 dX11_cut_24 (by decide) (fun c5 => ?_) (fun c5 => ?_)
    · replace hf := it_f c5 hf
      refine v_aload_n (pc := 29) 0 dX11_cut_29 rfl ?_
      replace hf := bd_some hf; obtain ⟨r6, h7, hf⟩ := hf
      refine V_call (pc := 30) (us1 := [_]) [0] 0 (kX11_keep (o := o) hk0 h7) rfl rfl rfl rfl rfl hk0 (Nat.le_of_ble_eq_true rfl) rfl rfl rfl wm_RX11_309 md_X11_keep (Nat.le_of_ble_eq_true rfl) (Nat.le_of_ble_eq_true rfl) rfl rfl (Nat.le_of_ble_eq_true rfl) dX11_cut_30 ?_
      refine v_aload_n (pc := 33) 0 dX11_cut_33 rfl ?_
      refine v_iload_n (pc := 34) 1 dX11_cut_34 rfl ?_
      replace hf := bd_some hf; obtain ⟨r8, h9, hf⟩ := hf
      refine V_call (pc := 35) (us1 := [_]) [0] 0 (kX11_cuts (o := o) hk0 h9) rfl rfl rfl rfl rfl hk0 (Nat.le_of_ble_eq_true rfl) rfl rfl rfl wm_RX11_315 md_X11_cuts (Nat.le_of_ble_eq_true rfl) (Nat.le_of_ble_eq_true rfl) rfl rfl (Nat.le_of_ble_eq_true rfl) dX11_cut_35 ?_
      refine v_iconst (pc := 38) (0 : Int32) dX11_cut_38 ci_0 ?_
      have hf2 := Option.some.inj hf; subst hf2
      exact V_iret (pc := 39) hF dX11_cut_39
    · replace hf := it_t c5 hf
      refine v_iconst (pc := 27) (1 : Int32) dX11_cut_27 ci_1 ?_
      have hf2 := Option.some.inj hf; subst hf2
      exact V_iret (pc := 28) hF dX11_cut_28
  · replace hf := it_t c3 hf
    refine v_iconst (pc := 13) (-1 : Int32) dX11_cut_13 ci_m1 ?_
    have hf2 := Option.some.inj hf; subst hf2
    exact V_iret (pc := 14) hF dX11_cut_14
set_option maxRecDepth 20000 in
theorem kX11_snag {G : Wc} {o : Nat} {S : Ob} {a : Int32} {b : Int32} {r : Int32 × Ob} (hk0 : kd o = 10) (hf : pX11_snag S  a b = some r) : Cn yX11_snag cX11_snag 3 (some .int) 3 103 G [.ref (wA G o 0), .int a, .int b] [(o, S)] [(o, r.2)] (some (.int r.1)) := by
  refine V_method [(0, .ref (wA G o 0)), (1, .int a), (2, .int b)] (by decide) rfl (Nat.le_of_ble_eq_true rfl) rfl (fun Γ hF => ?_)
  unfold pX11_snag at hf
  refine v_aload_n (pc := 0) 0 dX11_snag_0 rfl ?_
  refine v_iconst (pc := 1) (0 : Int32) dX11_snag_1 ci_0 ?_
  refine pf_RX11_1 (pc := 2) [_] 0 rfl hk0 rfl dX11_snag_2 ?_
  refine v_aload_n (pc := 5) 0 dX11_snag_5 rfl ?_
  refine v_iload_n (pc := 6) 1 dX11_snag_6 rfl ?_
  replace hf := bd_some hf; obtain ⟨r1, h2, hf⟩ := hf
  refine V_call (pc := 7) (us1 := [_]) [0] 0 (kX11_isPerson (o := o) hk0 h2) rfl rfl rfl rfl rfl hk0 (Nat.le_of_ble_eq_true rfl) rfl rfl rfl wm_RX11_254 md_X11_isPerson (Nat.le_of_ble_eq_true rfl) (Nat.le_of_ble_eq_true rfl) rfl rfl (Nat.le_of_ble_eq_true rfl) dX11_snag_7 ?_
  refine v_if_eq (pc := 10) 21 dX11_snag_10 (by decide) (fun c3 => ?_) (fun c3 => ?_)
  · replace hf := it_t c3 hf
    refine v_iconst (pc := 21) (-1 : Int32) dX11_snag_21 ci_m1 ?_
    have hf2 := Option.some.inj hf; subst hf2
    exact V_iret (pc := 22) hF dX11_snag_22
  · replace hf := it_f c3 hf
    refine v_aload_n (pc := 13) 0 dX11_snag_13 rfl ?_
    refine v_iload_n (pc := 14) 2 dX11_snag_14 rfl ?_
    replace hf := bd_some hf; obtain ⟨r4, h5, hf⟩ := hf
    refine V_call (pc := 15) (us1 := [_]) [0] 0 (kX11_isThing (o := o) hk0 h5) rfl rfl rfl rfl rfl hk0 (Nat.le_of_ble_eq_true rfl) rfl rfl rfl wm_RX11_274 md_X11_isThing (Nat.le_of_ble_eq_true rfl) (Nat.le_of_ble_eq_true rfl) rfl rfl (Nat.le_of_ble_eq_true rfl) dX11_snag_15 ?_
    refine v_if_ne (pc := 18) 23 dX11_snag_18 (by decide) (fun c6 => ?_) (fun c6 => ?_)
    · replace hf := it_f c6 hf
      refine v_aload_n (pc := 23) 0 dX11_snag_23 rfl ?_
      refine v_iload_n (pc := 24) 1 dX11_snag_24 rfl ?_
      replace hf := bd_some hf; obtain ⟨r7, h8, hf⟩ := hf
      refine V_call (pc := 25) (us1 := [_]) [0] 0 (kX11_isNest (o := o) hk0 h8) rfl rfl rfl rfl rfl hk0 (Nat.le_of_ble_eq_true rfl) rfl rfl rfl wm_RX11_271 md_X11_isNest (Nat.le_of_ble_eq_true rfl) (Nat.le_of_ble_eq_true rfl) rfl rfl (Nat.le_of_ble_eq_true rfl) dX11_snag_25 ?_
      refine v_if_eq (pc := 28) 33 dX11_snag_28 (by decide) (fun c9 => ?_) (fun c9 => ?_)
      · replace hf := it_t c9 hf
        refine v_aload_n (pc := 33) 0 dX11_snag_33 rfl ?_
        replace hf := bd_some hf; obtain ⟨r10, h11, hf⟩ := hf
        refine V_call (pc := 34) (us1 := [_]) [0] 0 (kX11_keep (o := o) hk0 h11) rfl rfl rfl rfl rfl hk0 (Nat.le_of_ble_eq_true rfl) rfl rfl rfl wm_RX11_309 md_X11_keep (Nat.le_of_ble_eq_true rfl) (Nat.le_of_ble_eq_true rfl) rfl rfl (Nat.le_of_ble_eq_true rfl) dX11_snag_34 ?_
        refine v_aload_n (pc := 37) 0 dX11_snag_37 rfl ?_
        refine v_iload_n (pc := 38) 1 dX11_snag_38 rfl ?_
        refine v_iload_n (pc := 39) 2 dX11_snag_39 rfl ?_
        replace hf := bd_some hf; obtain ⟨r12, h13, hf⟩ := hf
        refine V_call (pc := 40) (us1 := [_]) [0] 0 (kX11_catches (o := o) hk0 h13) rfl rfl rfl rfl rfl hk0 (Nat.le_of_ble_eq_true rfl) rfl rfl rfl wm_RX11_299 md_X11_catches (Nat.le_of_ble_eq_true rfl) (Nat.le_of_ble_eq_true rfl) rfl rfl (Nat.le_of_ble_eq_true rfl) dX11_snag_40 ?_
        refine v_iconst (pc := 43) (0 : Int32) dX11_snag_43 ci_0 ?_
        have hf2 := Option.some.inj hf; subst hf2
        exact V_iret (pc := 44) hF dX11_snag_44
      · replace hf := it_f c9 hf
        refine v_iconst (pc := 31) (1 : Int32) dX11_snag_31 ci_1 ?_
        have hf2 := Option.some.inj hf; subst hf2
        exact V_iret (pc := 32) hF dX11_snag_32
    · replace hf := it_t c6 hf
      refine v_iconst (pc := 21) (-1 : Int32) dX11_snag_21 ci_m1 ?_
      have hf2 := Option.some.inj hf; subst hf2
      exact V_iret (pc := 22) hF dX11_snag_22
set_option maxRecDepth 20000 in
theorem kX11_stuff {G : Wc} {o : Nat} {S : Ob} {a : Int32} {b : Int32} {r : Int32 × Ob} (hk0 : kd o = 10) (hf : pX11_stuff S  a b = some r) : Cn yX11_stuff cX11_stuff 3 (some .int) 3 103 G [.ref (wA G o 0), .int a, .int b] [(o, S)] [(o, r.2)] (some (.int r.1)) := by
  refine V_method [(0, .ref (wA G o 0)), (1, .int a), (2, .int b)] (by decide) rfl (Nat.le_of_ble_eq_true rfl) rfl (fun Γ hF => ?_)
  unfold pX11_stuff at hf
  refine v_aload_n (pc := 0) 0 dX11_stuff_0 rfl ?_
  refine v_iconst (pc := 1) (0 : Int32) dX11_stuff_1 ci_0 ?_
  refine pf_RX11_1 (pc := 2) [_] 0 rfl hk0 rfl dX11_stuff_2 ?_
  refine v_aload_n (pc := 5) 0 dX11_stuff_5 rfl ?_
  refine v_iload_n (pc := 6) 1 dX11_stuff_6 rfl ?_
  replace hf := bd_some hf; obtain ⟨r1, h2, hf⟩ := hf
  refine V_call (pc := 7) (us1 := [_]) [0] 0 (kX11_isBed (o := o) hk0 h2) rfl rfl rfl rfl rfl hk0 (Nat.le_of_ble_eq_true rfl) rfl rfl rfl wm_RX11_283 md_X11_isBed (Nat.le_of_ble_eq_true rfl) (Nat.le_of_ble_eq_true rfl) rfl rfl (Nat.le_of_ble_eq_true rfl) dX11_stuff_7 ?_
  refine v_if_eq (pc := 10) 21 dX11_stuff_10 (by decide) (fun c3 => ?_) (fun c3 => ?_)
  · replace hf := it_t c3 hf
    refine v_iconst (pc := 21) (-1 : Int32) dX11_stuff_21 ci_m1 ?_
    have hf2 := Option.some.inj hf; subst hf2
    exact V_iret (pc := 22) hF dX11_stuff_22
  · replace hf := it_f c3 hf
    refine v_aload_n (pc := 13) 0 dX11_stuff_13 rfl ?_
    refine v_iload_n (pc := 14) 2 dX11_stuff_14 rfl ?_
    replace hf := bd_some hf; obtain ⟨r4, h5, hf⟩ := hf
    refine V_call (pc := 15) (us1 := [_]) [0] 0 (kX11_isThing (o := o) hk0 h5) rfl rfl rfl rfl rfl hk0 (Nat.le_of_ble_eq_true rfl) rfl rfl rfl wm_RX11_274 md_X11_isThing (Nat.le_of_ble_eq_true rfl) (Nat.le_of_ble_eq_true rfl) rfl rfl (Nat.le_of_ble_eq_true rfl) dX11_stuff_15 ?_
    refine v_if_ne (pc := 18) 23 dX11_stuff_18 (by decide) (fun c6 => ?_) (fun c6 => ?_)
    · replace hf := it_f c6 hf
      refine v_aload_n (pc := 23) 0 dX11_stuff_23 rfl ?_
      refine gf_RX11_33 (pc := 24) 0 rfl hk0 dX11_stuff_24 ?_
      refine v_sipush (pc := 27) (185 : Int32) dX11_stuff_27 cs_185 ?_
      refine v_iload_n (pc := 30) 2 dX11_stuff_30 rfl ?_
      refine v_iadd (pc := 31) dX11_stuff_31 ?_
      replace hf := gd_some hf; obtain ⟨g7, hf⟩ := hf
      refine al_X11_6 (pc := 32) _ 0 rfl hk0 rfl g7 dX11_stuff_32 ?_
      refine v_if_ne (pc := 33) 38 dX11_stuff_33 (by decide) (fun c8 => ?_) (fun c8 => ?_)
      · replace hf := it_f c8 hf
        refine v_aload_n (pc := 38) 0 dX11_stuff_38 rfl ?_
        replace hf := bd_some hf; obtain ⟨r9, h10, hf⟩ := hf
        refine V_call (pc := 39) (us1 := [_]) [0] 0 (kX11_keep (o := o) hk0 h10) rfl rfl rfl rfl rfl hk0 (Nat.le_of_ble_eq_true rfl) rfl rfl rfl wm_RX11_309 md_X11_keep (Nat.le_of_ble_eq_true rfl) (Nat.le_of_ble_eq_true rfl) rfl rfl (Nat.le_of_ble_eq_true rfl) dX11_stuff_39 ?_
        refine v_aload_n (pc := 42) 0 dX11_stuff_42 rfl ?_
        refine v_iload_n (pc := 43) 1 dX11_stuff_43 rfl ?_
        refine v_iload_n (pc := 44) 2 dX11_stuff_44 rfl ?_
        replace hf := bd_some hf; obtain ⟨r11, h12, hf⟩ := hf
        refine V_call (pc := 45) (us1 := [_]) [0] 0 (kX11_stuffs (o := o) hk0 h12) rfl rfl rfl rfl rfl hk0 (Nat.le_of_ble_eq_true rfl) rfl rfl rfl wm_RX11_318 md_X11_stuffs (Nat.le_of_ble_eq_true rfl) (Nat.le_of_ble_eq_true rfl) rfl rfl (Nat.le_of_ble_eq_true rfl) dX11_stuff_45 ?_
        refine v_iconst (pc := 48) (0 : Int32) dX11_stuff_48 ci_0 ?_
        have hf2 := Option.some.inj hf; subst hf2
        exact V_iret (pc := 49) hF dX11_stuff_49
      · replace hf := it_t c8 hf
        refine v_iconst (pc := 36) (1 : Int32) dX11_stuff_36 ci_1 ?_
        have hf2 := Option.some.inj hf; subst hf2
        exact V_iret (pc := 37) hF dX11_stuff_37
    · replace hf := it_t c6 hf
      refine v_iconst (pc := 21) (-1 : Int32) dX11_stuff_21 ci_m1 ?_
      have hf2 := Option.some.inj hf; subst hf2
      exact V_iret (pc := 22) hF dX11_stuff_22
set_option maxRecDepth 20000 in
theorem kX11_days {G : Wc} {o : Nat} {S : Ob} {a : Int32} {r : Int32 × Ob} (hk0 : kd o = 10) (hf : pX11_days S  a = some r) : Cn yX11_days cX11_days 2 (some .int) 4 125 G [.ref (wA G o 0), .int a] [(o, S)] [(o, r.2)] (some (.int r.1)) := by
  refine V_method [(0, .ref (wA G o 0)), (1, .int a)] (by decide) rfl (Nat.le_of_ble_eq_true rfl) rfl (fun Γ hF => ?_)
  unfold pX11_days at hf
  refine v_aload_n (pc := 0) 0 dX11_days_0 rfl ?_
  refine v_iconst (pc := 1) (0 : Int32) dX11_days_1 ci_0 ?_
  refine pf_RX11_1 (pc := 2) [_] 0 rfl hk0 rfl dX11_days_2 ?_
  refine v_iload_n (pc := 5) 1 dX11_days_5 rfl ?_
  refine v_iconst (pc := 6) (1 : Int32) dX11_days_6 ci_1 ?_
  refine v_bipush (pc := 7) (60 : Int32) dX11_days_7 cb_60 ?_
  replace hf := bd_some hf; obtain ⟨r1, h2, hf⟩ := hf
  refine V_callS (pc := 9) (us1 := [_]) [] (kX11_isIn  h2) rfl rfl rfl rfl wm_RX11_176 md_X11_isIn (Nat.le_of_ble_eq_true rfl) (Nat.le_of_ble_eq_true rfl) rfl rfl (Nat.le_of_ble_eq_true rfl) dX11_days_9 ?_
  refine v_if_ne (pc := 12) 17 dX11_days_12 (by decide) (fun c3 => ?_) (fun c3 => ?_)
  · replace hf := it_f c3 hf
    refine v_aload_n (pc := 17) 0 dX11_days_17 rfl ?_
    refine gf_RX11_33 (pc := 18) 0 rfl hk0 dX11_days_18 ?_
    refine v_bipush (pc := 21) (121 : Int32) dX11_days_21 cb_121 ?_
    refine al_X11_6 (pc := 23) 121 0 rfl hk0 rfl ib_121_390 dX11_days_23 ?_
    refine v_sipush (pc := 24) (400 : Int32) dX11_days_24 cs_400 ?_
    refine v_icmp_ne (pc := 27) 32 dX11_days_27 (by decide) (fun c4 => ?_) (fun c4 => ?_)
    · replace hf := it_f c4 hf
      refine v_aload_n (pc := 32) 0 dX11_days_32 rfl ?_
      replace hf := bd_some hf; obtain ⟨r5, h6, hf⟩ := hf
      refine V_call (pc := 33) (us1 := [_]) [0] 0 (kX11_keep (o := o) hk0 h6) rfl rfl rfl rfl rfl hk0 (Nat.le_of_ble_eq_true rfl) rfl rfl rfl wm_RX11_309 md_X11_keep (Nat.le_of_ble_eq_true rfl) (Nat.le_of_ble_eq_true rfl) rfl rfl (Nat.le_of_ble_eq_true rfl) dX11_days_33 ?_
      refine v_aload_n (pc := 36) 0 dX11_days_36 rfl ?_
      refine v_iload_n (pc := 37) 1 dX11_days_37 rfl ?_
      replace hf := bd_some hf; obtain ⟨r7, h8, hf⟩ := hf
      refine V_call (pc := 38) (us1 := [_]) [0] 0 (kX11_goesOn (o := o) hk0 h8) rfl rfl rfl rfl rfl hk0 (Nat.le_of_ble_eq_true rfl) rfl rfl rfl wm_RX11_321 md_X11_goesOn (Nat.le_of_ble_eq_true rfl) (Nat.le_of_ble_eq_true rfl) rfl rfl (Nat.le_of_ble_eq_true rfl) dX11_days_38 ?_
      have hf2 := Option.some.inj hf; subst hf2
      exact V_iret (pc := 41) hF dX11_days_41
    · replace hf := it_t c4 hf
      refine v_iconst (pc := 30) (0 : Int32) dX11_days_30 ci_0 ?_
      have hf2 := Option.some.inj hf; subst hf2
      exact V_iret (pc := 31) hF dX11_days_31
  · replace hf := it_t c3 hf
    refine v_iconst (pc := 15) (-1 : Int32) dX11_days_15 ci_m1 ?_
    have hf2 := Option.some.inj hf; subst hf2
    exact V_iret (pc := 16) hF dX11_days_16
set_option maxRecDepth 20000 in
theorem wX11_undo_l26 {G : Wc} {Γ : Cx} {o : Nat}  (hk0 : kd o = 10) : ∀ (n : Nat) {l1 : Int32} {S : Ob} {r : Ob}, pX11_undo_l26   n l1 S = some r → V cX11_undo RX11 1 60 2 G Γ [(o, r)] 61 [(0, .ref (wA G o 0))] [] → V cX11_undo RX11 1 60 2 G Γ [(o, S)] 26 [(0, .ref (wA G o 0)), (1, .int l1)] [] := by
  intro n
  induction n with
  | zero => intro l1 S r hf hx; unfold pX11_undo_l26 at hf; cases hf
  | succ n ih =>
    intro l1 S r hf hx
    have hrec : ∀ {l1 : Int32} {S : Ob}, pX11_undo_l26   n l1 S = some r → V cX11_undo RX11 1 60 2 G Γ [(o, S)] 26 [(0, .ref (wA G o 0)), (1, .int l1)] [] := fun h => ih h hx
    clear ih
    unfold pX11_undo_l26 at hf
    refine v_iload_n (pc := 26) 1 dX11_undo_26 rfl ?_
    refine v_bipush (pc := 27) (88 : Int32) dX11_undo_27 cb_88 ?_
    refine v_icmp_ge (pc := 29) 61 dX11_undo_29 (by decide) (fun c2 => ?_) (fun c2 => ?_)
    · replace hf := it_t c2 hf
      have hf2 := Option.some.inj hf; subst hf2
      exact V_sub [0] rfl hx
    · replace hf := it_f c2 hf
      refine v_aload_n (pc := 32) 0 dX11_undo_32 rfl ?_
      refine gf_RX11_33 (pc := 33) 0 rfl hk0 dX11_undo_33 ?_
      refine v_bipush (pc := 36) (121 : Int32) dX11_undo_36 cb_121 ?_
      refine v_iload_n (pc := 38) 1 dX11_undo_38 rfl ?_
      refine v_iadd (pc := 39) dX11_undo_39 ?_
      refine v_aload_n (pc := 40) 0 dX11_undo_40 rfl ?_
      refine gf_RX11_50 (pc := 41) 0 rfl hk0 dX11_undo_41 ?_
      refine v_bipush (pc := 44) (88 : Int32) dX11_undo_44 cb_88 ?_
      refine v_aload_n (pc := 46) 0 dX11_undo_46 rfl ?_
      refine gf_RX11_242 (pc := 47) 0 rfl hk0 dX11_undo_47 ?_
      refine v_imul (pc := 50) dX11_undo_50 ?_
      refine v_iload_n (pc := 51) 1 dX11_undo_51 rfl ?_
      refine v_iadd (pc := 52) dX11_undo_52 ?_
      replace hf := gd_some hf; obtain ⟨g3, hf⟩ := hf
      refine al_X11_21 (pc := 53) _ 0 rfl hk0 rfl g3 dX11_undo_53 ?_
      replace hf := gd_some hf; obtain ⟨g4, hf⟩ := hf
      refine as_X11_6 (pc := 54) [_] _ 0 rfl hk0 rfl g4 rfl dX11_undo_54 ?_
      refine v_iinc (pc := 55) 1 (l1 + (1 : Int32)) [(1, _), (0, _)] dX11_undo_55 rfl (congrArg (fun z => _ + z) ci_1) (Nat.le_of_ble_eq_true rfl) rfl ?_
      refine v_goto (pc := 58) 26 dX11_undo_58 (by decide) ?_
      exact V_sub [1, 0] rfl (hrec hf)
set_option maxRecDepth 20000 in
theorem kX11_undo {G : Wc} {o : Nat} {S : Ob}  {r : Int32 × Ob} (hk0 : kd o = 10) (hf : pX11_undo S   = some r) : Cn yX11_undo cX11_undo 2 (some .int) 1 60 G [.ref (wA G o 0)] [(o, S)] [(o, r.2)] (some (.int r.1)) := by
  refine V_method [(0, .ref (wA G o 0))] (by decide) rfl (Nat.le_of_ble_eq_true rfl) rfl (fun Γ hF => ?_)
  unfold pX11_undo at hf
  refine v_aload_n (pc := 0) 0 dX11_undo_0 rfl ?_
  refine v_iconst (pc := 1) (0 : Int32) dX11_undo_1 ci_0 ?_
  refine pf_RX11_1 (pc := 2) [_] 0 rfl hk0 rfl dX11_undo_2 ?_
  refine v_aload_n (pc := 5) 0 dX11_undo_5 rfl ?_
  refine gf_RX11_242 (pc := 6) 0 rfl hk0 dX11_undo_6 ?_
  refine v_if_ne (pc := 9) 14 dX11_undo_9 (by decide) (fun c1 => ?_) (fun c1 => ?_)
  · replace hf := it_f c1 hf
    refine v_aload_n (pc := 14) 0 dX11_undo_14 rfl ?_
    refine v_dup (pc := 15) dX11_undo_15 rfl ?_
    refine gf_RX11_242 (pc := 16) 0 rfl hk0 dX11_undo_16 ?_
    refine v_iconst (pc := 19) (1 : Int32) dX11_undo_19 ci_1 ?_
    refine v_isub (pc := 20) dX11_undo_20 ?_
    refine pf_RX11_242 (pc := 21) [_] 0 rfl hk0 rfl dX11_undo_21 ?_
    refine v_iconst (pc := 24) (0 : Int32) dX11_undo_24 ci_0 ?_
    refine v_istore_n (pc := 25) [(1, _), (0, _)] dX11_undo_25 (Nat.le_of_ble_eq_true rfl) rfl ?_
    replace hf := bd_some hf; obtain ⟨r5, h6, hf⟩ := hf
    refine V_sub [1, 0] rfl (wX11_undo_l26 hk0 fu h6 ?_)
    refine v_aload_n (pc := 61) 0 dX11_undo_61 rfl ?_
    refine gf_RX11_242 (pc := 62) 0 rfl hk0 dX11_undo_62 ?_
    have hf2 := Option.some.inj hf; subst hf2
    exact V_iret (pc := 65) hF dX11_undo_65
  · replace hf := it_t c1 hf
    refine v_iconst (pc := 12) (-1 : Int32) dX11_undo_12 ci_m1 ?_
    have hf2 := Option.some.inj hf; subst hf2
    exact V_iret (pc := 13) hF dX11_undo_13
set_option maxRecDepth 20000 in
theorem wX11_tries_l2 {G : Wc} {Γ : Cx} {o : Nat}  (hk0 : kd o = 10) : ∀ (n : Nat) {l1 : Int32} {S : Ob} {r : Ob}, pX11_tries_l2   n l1 S = some r → V cX11_tries RX11 1 60 2 G Γ [(o, r)] 29 [] [] → V cX11_tries RX11 1 60 2 G Γ [(o, S)] 2 [(0, .ref (wA G o 0)), (1, .int l1)] [] := by
  intro n
  induction n with
  | zero => intro l1 S r hf hx; unfold pX11_tries_l2 at hf; cases hf
  | succ n ih =>
    intro l1 S r hf hx
    have hrec : ∀ {l1 : Int32} {S : Ob}, pX11_tries_l2   n l1 S = some r → V cX11_tries RX11 1 60 2 G Γ [(o, S)] 2 [(0, .ref (wA G o 0)), (1, .int l1)] [] := fun h => ih h hx
    clear ih
    unfold pX11_tries_l2 at hf
    refine v_iload_n (pc := 2) 1 dX11_tries_2 rfl ?_
    refine v_bipush (pc := 3) (88 : Int32) dX11_tries_3 cb_88 ?_
    refine v_icmp_ge (pc := 5) 29 dX11_tries_5 (by decide) (fun c1 => ?_) (fun c1 => ?_)
    · replace hf := it_t c1 hf
      have hf2 := Option.some.inj hf; subst hf2
      exact V_sub [] rfl hx
    · replace hf := it_f c1 hf
      refine v_aload_n (pc := 8) 0 dX11_tries_8 rfl ?_
      refine gf_RX11_53 (pc := 9) 0 rfl hk0 dX11_tries_9 ?_
      refine v_iload_n (pc := 12) 1 dX11_tries_12 rfl ?_
      refine v_aload_n (pc := 13) 0 dX11_tries_13 rfl ?_
      refine gf_RX11_33 (pc := 14) 0 rfl hk0 dX11_tries_14 ?_
      refine v_bipush (pc := 17) (121 : Int32) dX11_tries_17 cb_121 ?_
      refine v_iload_n (pc := 19) 1 dX11_tries_19 rfl ?_
      refine v_iadd (pc := 20) dX11_tries_20 ?_
      replace hf := gd_some hf; obtain ⟨g2, hf⟩ := hf
      refine al_X11_6 (pc := 21) _ 0 rfl hk0 rfl g2 dX11_tries_21 ?_
      replace hf := gd_some hf; obtain ⟨g3, hf⟩ := hf
      refine as_X11_22 (pc := 22) [_] _ 0 rfl hk0 rfl g3 rfl dX11_tries_22 ?_
      refine v_iinc (pc := 23) 1 (l1 + (1 : Int32)) [(1, _), (0, _)] dX11_tries_23 rfl (congrArg (fun z => _ + z) ci_1) (Nat.le_of_ble_eq_true rfl) rfl ?_
      refine v_goto (pc := 26) 2 dX11_tries_26 (by decide) ?_
      exact V_sub [1, 0] rfl (hrec hf)
set_option maxRecDepth 20000 in
theorem kX11_tries {G : Wc} {o : Nat} {S : Ob}  {r : Ob} (hk0 : kd o = 10) (hf : pX11_tries S   = some r) : Cn yX11_tries cX11_tries 2 (none) 1 60 G [.ref (wA G o 0)] [(o, S)] [(o, r)] none := by
  refine V_method [(0, .ref (wA G o 0))] (by decide) rfl (Nat.le_of_ble_eq_true rfl) rfl (fun Γ hF => ?_)
  unfold pX11_tries at hf
  refine v_iconst (pc := 0) (0 : Int32) dX11_tries_0 ci_0 ?_
  refine v_istore_n (pc := 1) [(1, _), (0, _)] dX11_tries_1 (Nat.le_of_ble_eq_true rfl) rfl ?_
  replace hf := bd_some hf; obtain ⟨r4, h5, hf⟩ := hf
  refine V_sub [1, 0] rfl (wX11_tries_l2 hk0 fu h5 ?_)
  have hf2 := Option.some.inj hf; subst hf2
  exact V_vret (pc := 29) hF dX11_tries_29
set_option maxRecDepth 20000 in
theorem wX11_back_l2 {G : Wc} {Γ : Cx} {o : Nat}  (hk0 : kd o = 10) : ∀ (n : Nat) {l1 : Int32} {S : Ob} {r : Ob}, pX11_back_l2   n l1 S = some r → V cX11_back RX11 1 60 2 G Γ [(o, r)] 29 [] [] → V cX11_back RX11 1 60 2 G Γ [(o, S)] 2 [(0, .ref (wA G o 0)), (1, .int l1)] [] := by
  intro n
  induction n with
  | zero => intro l1 S r hf hx; unfold pX11_back_l2 at hf; cases hf
  | succ n ih =>
    intro l1 S r hf hx
    have hrec : ∀ {l1 : Int32} {S : Ob}, pX11_back_l2   n l1 S = some r → V cX11_back RX11 1 60 2 G Γ [(o, S)] 2 [(0, .ref (wA G o 0)), (1, .int l1)] [] := fun h => ih h hx
    clear ih
    unfold pX11_back_l2 at hf
    refine v_iload_n (pc := 2) 1 dX11_back_2 rfl ?_
    refine v_bipush (pc := 3) (88 : Int32) dX11_back_3 cb_88 ?_
    refine v_icmp_ge (pc := 5) 29 dX11_back_5 (by decide) (fun c1 => ?_) (fun c1 => ?_)
    · replace hf := it_t c1 hf
      have hf2 := Option.some.inj hf; subst hf2
      exact V_sub [] rfl hx
    · replace hf := it_f c1 hf
      refine v_aload_n (pc := 8) 0 dX11_back_8 rfl ?_
      refine gf_RX11_33 (pc := 9) 0 rfl hk0 dX11_back_9 ?_
      refine v_bipush (pc := 12) (121 : Int32) dX11_back_12 cb_121 ?_
      refine v_iload_n (pc := 14) 1 dX11_back_14 rfl ?_
      refine v_iadd (pc := 15) dX11_back_15 ?_
      refine v_aload_n (pc := 16) 0 dX11_back_16 rfl ?_
      refine gf_RX11_53 (pc := 17) 0 rfl hk0 dX11_back_17 ?_
      refine v_iload_n (pc := 20) 1 dX11_back_20 rfl ?_
      replace hf := gd_some hf; obtain ⟨g2, hf⟩ := hf
      refine al_X11_22 (pc := 21) _ 0 rfl hk0 rfl g2 dX11_back_21 ?_
      replace hf := gd_some hf; obtain ⟨g3, hf⟩ := hf
      refine as_X11_6 (pc := 22) [_] _ 0 rfl hk0 rfl g3 rfl dX11_back_22 ?_
      refine v_iinc (pc := 23) 1 (l1 + (1 : Int32)) [(1, _), (0, _)] dX11_back_23 rfl (congrArg (fun z => _ + z) ci_1) (Nat.le_of_ble_eq_true rfl) rfl ?_
      refine v_goto (pc := 26) 2 dX11_back_26 (by decide) ?_
      exact V_sub [1, 0] rfl (hrec hf)
set_option maxRecDepth 20000 in
theorem kX11_back {G : Wc} {o : Nat} {S : Ob}  {r : Ob} (hk0 : kd o = 10) (hf : pX11_back S   = some r) : Cn yX11_back cX11_back 2 (none) 1 60 G [.ref (wA G o 0)] [(o, S)] [(o, r)] none := by
  refine V_method [(0, .ref (wA G o 0))] (by decide) rfl (Nat.le_of_ble_eq_true rfl) rfl (fun Γ hF => ?_)
  unfold pX11_back at hf
  refine v_iconst (pc := 0) (0 : Int32) dX11_back_0 ci_0 ?_
  refine v_istore_n (pc := 1) [(1, _), (0, _)] dX11_back_1 (Nat.le_of_ble_eq_true rfl) rfl ?_
  replace hf := bd_some hf; obtain ⟨r4, h5, hf⟩ := hf
  refine V_sub [1, 0] rfl (wX11_back_l2 hk0 fu h5 ?_)
  have hf2 := Option.some.inj hf; subst hf2
  exact V_vret (pc := 29) hF dX11_back_29
set_option maxRecDepth 20000 in
theorem wX11_easeBy_j105 {G : Wc} {Γ : Cx} {o : Nat} {S : Ob} {l1 : Int32} {l2 : Int32} {l3 : Int32} {l4 : Int32} {l5 : Int32} {r : Int32} (hk0 : kd o = 10) {rec : Int32 → Int32 → Int32 → Option (Int32)} (hrec : ∀ {l2 : Int32} {l3 : Int32} {l4 : Int32}, rec l2 l3 l4 = some r → V cX11_easeBy RX11 4 127 6 G Γ [(o, S)] 53 [(0, .ref (wA G o 0)), (1, .int l1), (2, .int l2), (3, .int l3), (4, .int l4)] []) (hF : Fnl G Γ (some .int) (some (.int r)) (ov Γ.2.2.2 [(o, S)])) (hf : pX11_easeBy_j105 rec S l1 l2 l3 l4 l5 = some r) : V cX11_easeBy RX11 4 127 6 G Γ [(o, S)] 105 [(0, .ref (wA G o 0)), (1, .int l1), (2, .int l2), (3, .int l3), (4, .int l4), (5, .int l5)] [] := by
  unfold pX11_easeBy_j105 at hf
  refine v_iload_n (pc := 105) 3 dX11_easeBy_105 rfl ?_
  refine v_iload (pc := 106) 5 dX11_easeBy_106 rfl ?_
  refine v_isub (pc := 108) dX11_easeBy_108 ?_
  refine v_istore_n (pc := 109) [(3, _), (0, _), (1, _), (2, _), (4, _), (5, _)] dX11_easeBy_109 (Nat.le_of_ble_eq_true rfl) rfl ?_
  refine v_iload (pc := 110) 4 dX11_easeBy_110 rfl ?_
  refine v_aload_n (pc := 112) 1 dX11_easeBy_112 rfl ?_
  refine v_iload_n (pc := 113) 2 dX11_easeBy_113 rfl ?_
  refine v_iload (pc := 114) 4 dX11_easeBy_114 rfl ?_
  replace hf := bd_some hf; obtain ⟨r12, h13, hf⟩ := hf
  refine V_call (pc := 116) (us1 := [_]) [0] 0 (kX11_knotAt (o := o) hk0 h13) rfl rfl rfl rfl rfl hk0 (Nat.le_of_ble_eq_true rfl) rfl rfl rfl wm_RX11_248 md_X11_knotAt (Nat.le_of_ble_eq_true rfl) (Nat.le_of_ble_eq_true rfl) rfl rfl (Nat.le_of_ble_eq_true rfl) dX11_easeBy_116 ?_
  refine v_iadd (pc := 119) dX11_easeBy_119 ?_
  refine v_istore (pc := 120) [(4, _), (3, _), (0, _), (1, _), (2, _), (5, _)] dX11_easeBy_120 (Nat.le_of_ble_eq_true rfl) rfl ?_
  refine v_goto (pc := 122) 53 dX11_easeBy_122 (by decide) ?_
  exact V_sub [2, 3, 4, 1, 0] rfl (hrec hf)
set_option maxRecDepth 20000 in
theorem wX11_easeBy_l53 {G : Wc} {Γ : Cx} {o : Nat} {S : Ob} {l1 : Int32} {r : Int32} (hk0 : kd o = 10) (hF : Fnl G Γ (some .int) (some (.int r)) (ov Γ.2.2.2 [(o, S)])) : ∀ (n : Nat) {l2 : Int32} {l3 : Int32} {l4 : Int32}, pX11_easeBy_l53  S l1 n l2 l3 l4 = some r → V cX11_easeBy RX11 4 127 6 G Γ [(o, S)] 53 [(0, .ref (wA G o 0)), (1, .int l1), (2, .int l2), (3, .int l3), (4, .int l4)] [] := by
  intro n
  induction n with
  | zero => intro l2 l3 l4 hf; unfold pX11_easeBy_l53 at hf; cases hf
  | succ n ih =>
    intro l2 l3 l4 hf
    have hrec : ∀ {l2 : Int32} {l3 : Int32} {l4 : Int32}, pX11_easeBy_l53  S l1 n l2 l3 l4 = some r → V cX11_easeBy RX11 4 127 6 G Γ [(o, S)] 53 [(0, .ref (wA G o 0)), (1, .int l1), (2, .int l2), (3, .int l3), (4, .int l4)] [] := fun h => ih h
    clear ih
    unfold pX11_easeBy_l53 at hf
    refine v_iload (pc := 53) 4 dX11_easeBy_53 rfl ?_
    refine v_aload_n (pc := 55) 0 dX11_easeBy_55 rfl ?_
    refine gf_RX11_33 (pc := 56) 0 rfl hk0 dX11_easeBy_56 ?_
    refine v_bipush (pc := 59) (125 : Int32) dX11_easeBy_59 cb_125 ?_
    refine v_iload_n (pc := 61) 1 dX11_easeBy_61 rfl ?_
    refine v_iadd (pc := 62) dX11_easeBy_62 ?_
    replace hf := gd_some hf; obtain ⟨g6, hf⟩ := hf
    refine al_X11_6 (pc := 63) _ 0 rfl hk0 rfl g6 dX11_easeBy_63 ?_
    refine v_icmp_ge (pc := 64) 125 dX11_easeBy_64 (by decide) (fun c7 => ?_) (fun c7 => ?_)
    · replace hf := it_t c7 hf
      refine v_iload_n (pc := 125) 2 dX11_easeBy_125 rfl ?_
      have hf2 := Option.some.inj hf; subst hf2
      exact V_iret (pc := 126) hF dX11_easeBy_126
    · replace hf := it_f c7 hf
      refine v_aload_n (pc := 67) 0 dX11_easeBy_67 rfl ?_
      refine v_iload_n (pc := 68) 1 dX11_easeBy_68 rfl ?_
      refine v_iload (pc := 69) 4 dX11_easeBy_69 rfl ?_
      replace hf := bd_some hf; obtain ⟨r8, h9, hf⟩ := hf
      refine V_call (pc := 71) (us1 := [_]) [0] 0 (kX11_knotHolds (o := o) hk0 h9) rfl rfl rfl rfl rfl hk0 (Nat.le_of_ble_eq_true rfl) rfl rfl rfl wm_RX11_265 md_X11_knotHolds (Nat.le_of_ble_eq_true rfl) (Nat.le_of_ble_eq_true rfl) rfl rfl (Nat.le_of_ble_eq_true rfl) dX11_easeBy_71 ?_
      refine v_istore (pc := 74) [(5, _), (0, _), (1, _), (2, _), (3, _), (4, _)] dX11_easeBy_74 (Nat.le_of_ble_eq_true rfl) rfl ?_
      refine v_iload (pc := 76) 0 dX11_easeBy_76 rfl ?_
      refine v_aload_n (pc := 78) 1 dX11_easeBy_78 rfl ?_
      refine gf_RX11_33 (pc := 79) 0 rfl hk0 dX11_easeBy_79 ?_
      refine v_iconst (pc := 82) (4 : Int32) dX11_easeBy_82 ci_4 ?_
      refine al_X11_6 (pc := 83) 4 0 rfl hk0 rfl ib_4_390 dX11_easeBy_83 ?_
      refine v_icmp_le (pc := 84) 89 dX11_easeBy_84 (by decide) (fun c10 => ?_) (fun c10 => ?_)
      · replace hf := it_t c10 hf
        refine v_iload (pc := 89) 0 dX11_easeBy_89 rfl ?_
        refine v_iload_n (pc := 91) 4 dX11_easeBy_91 rfl ?_
        refine v_icmp_le (pc := 92) 105 dX11_easeBy_92 (by decide) (fun c11 => ?_) (fun c11 => ?_)
        · replace hf := it_t c11 hf
          exact V_sub [1, 2, 3, 4, 5, 0] rfl (wX11_easeBy_j105 hk0 hrec hF hf)
        · replace hf := it_f c11 hf
          refine v_iinc (pc := 95) 3 (l2 + (1 : Int32)) [(2, _), (5, _), (0, _), (1, _), (3, _), (4, _)] dX11_easeBy_95 rfl (congrArg (fun z => _ + z) ci_1) (Nat.le_of_ble_eq_true rfl) rfl ?_
          refine v_aload_n (pc := 98) 2 dX11_easeBy_98 rfl ?_
          refine gf_RX11_33 (pc := 99) 0 rfl hk0 dX11_easeBy_99 ?_
          refine v_iconst (pc := 102) (4 : Int32) dX11_easeBy_102 ci_4 ?_
          refine al_X11_6 (pc := 103) 4 0 rfl hk0 rfl ib_4_390 dX11_easeBy_103 ?_
          refine v_istore_n (pc := 104) [(3, _), (2, _), (5, _), (0, _), (1, _), (4, _)] dX11_easeBy_104 (Nat.le_of_ble_eq_true rfl) rfl ?_
          exact V_sub [3, 4, 1, 0, 5, 2] rfl (wX11_easeBy_j105 hk0 hrec hF hf)
      · replace hf := it_f c10 hf
        refine v_iconst (pc := 87) (-1 : Int32) dX11_easeBy_87 ci_m1 ?_
        have hf2 := Option.some.inj hf; subst hf2
        exact V_iret (pc := 88) hF dX11_easeBy_88
set_option maxRecDepth 20000 in
theorem kX11_easeBy {G : Wc} {o : Nat} {S : Ob} {a : Int32} {r : Int32} (hk0 : kd o = 10) (hf : pX11_easeBy S  a = some r) : Cn yX11_easeBy cX11_easeBy 6 (some .int) 4 127 G [.ref (wA G o 0), .int a] [(o, S)] [(o, S)] (some (.int r)) := by
  refine V_method [(0, .ref (wA G o 0)), (1, .int a)] (by decide) rfl (Nat.le_of_ble_eq_true rfl) rfl (fun Γ hF => ?_)
  unfold pX11_easeBy at hf
  refine v_aload_n (pc := 0) 0 dX11_easeBy_0 rfl ?_
  refine gf_RX11_33 (pc := 1) 0 rfl hk0 dX11_easeBy_1 ?_
  refine v_sipush (pc := 4) (179 : Int32) dX11_easeBy_4 cs_179 ?_
  refine v_iload_n (pc := 7) 1 dX11_easeBy_7 rfl ?_
  refine v_iadd (pc := 8) dX11_easeBy_8 ?_
  replace hf := gd_some hf; obtain ⟨g1, hf⟩ := hf
  refine al_X11_6 (pc := 9) _ 0 rfl hk0 rfl g1 dX11_easeBy_9 ?_
  refine v_aload_n (pc := 10) 0 dX11_easeBy_10 rfl ?_
  refine v_iload_n (pc := 11) 1 dX11_easeBy_11 rfl ?_
  replace hf := bd_some hf; obtain ⟨r2, h3, hf⟩ := hf
  refine V_call (pc := 12) (us1 := [_]) [0] 0 (kX11_holdsOf (o := o) hk0 h3) rfl rfl rfl rfl rfl hk0 (Nat.le_of_ble_eq_true rfl) rfl rfl rfl wm_RX11_268 md_X11_holdsOf (Nat.le_of_ble_eq_true rfl) (Nat.le_of_ble_eq_true rfl) rfl rfl (Nat.le_of_ble_eq_true rfl) dX11_easeBy_12 ?_
  refine v_iadd (pc := 15) dX11_easeBy_15 ?_
  refine v_aload_n (pc := 16) 0 dX11_easeBy_16 rfl ?_
  refine gf_RX11_33 (pc := 17) 0 rfl hk0 dX11_easeBy_17 ?_
  refine v_bipush (pc := 20) (21 : Int32) dX11_easeBy_20 cb_21 ?_
  refine v_iload_n (pc := 22) 1 dX11_easeBy_22 rfl ?_
  refine v_iadd (pc := 23) dX11_easeBy_23 ?_
  replace hf := gd_some hf; obtain ⟨g4, hf⟩ := hf
  refine al_X11_6 (pc := 24) _ 0 rfl hk0 rfl g4 dX11_easeBy_24 ?_
  refine v_icmp_le (pc := 25) 46 dX11_easeBy_25 (by decide) (fun c5 => ?_) (fun c5 => ?_)
  · replace hf := it_t c5 hf
    refine v_iconst (pc := 46) (0 : Int32) dX11_easeBy_46 ci_0 ?_
    refine v_istore_n (pc := 47) [(2, _), (0, _), (1, _)] dX11_easeBy_47 (Nat.le_of_ble_eq_true rfl) rfl ?_
    refine v_iconst (pc := 48) (0 : Int32) dX11_easeBy_48 ci_0 ?_
    refine v_istore_n (pc := 49) [(3, _), (2, _), (0, _), (1, _)] dX11_easeBy_49 (Nat.le_of_ble_eq_true rfl) rfl ?_
    refine v_iconst (pc := 50) (0 : Int32) dX11_easeBy_50 ci_0 ?_
    refine v_istore (pc := 51) [(4, _), (3, _), (2, _), (0, _), (1, _)] dX11_easeBy_51 (Nat.le_of_ble_eq_true rfl) rfl ?_
    exact V_sub [3, 4, 2, 1, 0] rfl (wX11_easeBy_l53 hk0 hF fu hf)
  · replace hf := it_f c5 hf
    refine v_aload_n (pc := 28) 0 dX11_easeBy_28 rfl ?_
    refine gf_RX11_33 (pc := 29) 0 rfl hk0 dX11_easeBy_29 ?_
    refine v_bipush (pc := 32) (125 : Int32) dX11_easeBy_32 cb_125 ?_
    refine v_iload_n (pc := 34) 1 dX11_easeBy_34 rfl ?_
    refine v_iadd (pc := 35) dX11_easeBy_35 ?_
    replace hf := gd_some hf; obtain ⟨g14, hf⟩ := hf
    refine al_X11_6 (pc := 36) _ 0 rfl hk0 rfl g14 dX11_easeBy_36 ?_
    refine v_if_ne (pc := 37) 44 dX11_easeBy_37 (by decide) (fun c15 => ?_) (fun c15 => ?_)
    · replace hf := it_f c15 hf
      refine v_iconst (pc := 44) (-1 : Int32) dX11_easeBy_44 ci_m1 ?_
      have hf2 := Option.some.inj hf; subst hf2
      exact V_iret (pc := 45) hF dX11_easeBy_45
    · replace hf := it_t c15 hf
      refine v_iconst (pc := 40) (0 : Int32) dX11_easeBy_40 ci_0 ?_
      refine v_goto (pc := 41) 45 dX11_easeBy_41 (by decide) ?_
      have hf2 := Option.some.inj hf; subst hf2
      exact V_iret (pc := 45) hF dX11_easeBy_45
set_option maxRecDepth 20000 in
theorem kX11_ease {G : Wc} {o : Nat} {S : Ob} {a : Int32} {r : Int32 × Ob} (hk0 : kd o = 10) (hf : pX11_ease S  a = some r) : Cn yX11_ease cX11_ease 2 (some .int) 5 152 G [.ref (wA G o 0), .int a] [(o, S)] [(o, r.2)] (some (.int r.1)) := by
  refine V_method [(0, .ref (wA G o 0)), (1, .int a)] (by decide) rfl (Nat.le_of_ble_eq_true rfl) rfl (fun Γ hF => ?_)
  unfold pX11_ease at hf
  refine v_aload_n (pc := 0) 0 dX11_ease_0 rfl ?_
  refine v_iconst (pc := 1) (0 : Int32) dX11_ease_1 ci_0 ?_
  refine pf_RX11_1 (pc := 2) [_] 0 rfl hk0 rfl dX11_ease_2 ?_
  refine v_aload_n (pc := 5) 0 dX11_ease_5 rfl ?_
  refine v_iload_n (pc := 6) 1 dX11_ease_6 rfl ?_
  replace hf := bd_some hf; obtain ⟨r1, h2, hf⟩ := hf
  refine V_call (pc := 7) (us1 := [_]) [0] 0 (kX11_isPerson (o := o) hk0 h2) rfl rfl rfl rfl rfl hk0 (Nat.le_of_ble_eq_true rfl) rfl rfl rfl wm_RX11_254 md_X11_isPerson (Nat.le_of_ble_eq_true rfl) (Nat.le_of_ble_eq_true rfl) rfl rfl (Nat.le_of_ble_eq_true rfl) dX11_ease_7 ?_
  refine v_if_eq (pc := 10) 21 dX11_ease_10 (by decide) (fun c3 => ?_) (fun c3 => ?_)
  · replace hf := it_t c3 hf
    refine v_iconst (pc := 21) (-1 : Int32) dX11_ease_21 ci_m1 ?_
    have hf2 := Option.some.inj hf; subst hf2
    exact V_iret (pc := 22) hF dX11_ease_22
  · replace hf := it_f c3 hf
    refine v_aload_n (pc := 13) 0 dX11_ease_13 rfl ?_
    refine v_iload_n (pc := 14) 1 dX11_ease_14 rfl ?_
    replace hf := bd_some hf; obtain ⟨r4, h5, hf⟩ := hf
    refine V_call (pc := 15) (us1 := [_]) [0] 0 (kX11_easeBy (o := o) hk0 h5) rfl rfl rfl rfl rfl hk0 (Nat.le_of_ble_eq_true rfl) rfl rfl rfl wm_RX11_324 md_X11_easeBy (Nat.le_of_ble_eq_true rfl) (Nat.le_of_ble_eq_true rfl) rfl rfl (Nat.le_of_ble_eq_true rfl) dX11_ease_15 ?_
    refine v_goto (pc := 18) 22 dX11_ease_18 (by decide) ?_
    have hf2 := Option.some.inj hf; subst hf2
    exact V_iret (pc := 22) hF dX11_ease_22
set_option maxRecDepth 20000 in
theorem wX11_nests_j43 {G : Wc} {Γ : Cx} {o : Nat} {S : Ob} {l1 : Int32} {l2 : Int32} {l3 : Int32} {r : Int32 × Ob} (hk0 : kd o = 10) {rec : Int32 → Int32 → Ob → Option (Int32 × Ob)} (hrec : ∀ {l2 : Int32} {l3 : Int32} {S : Ob}, rec l2 l3 S = some r → V cX11_nests RX11 3 103 4 G Γ [(o, S)] 23 [(0, .ref (wA G o 0)), (1, .int l1), (2, .int l2), (3, .int l3)] []) (hx : V cX11_nests RX11 3 103 4 G Γ [(o, r.2)] 53 [(0, .ref (wA G o 0)), (2, .int r.1)] []) (hf : pX11_nests_j43 rec S l1 l2 l3 = some r) : V cX11_nests RX11 3 103 4 G Γ [(o, S)] 43 [(0, .ref (wA G o 0)), (1, .int l1), (2, .int l2), (3, .int l3)] [] := by
  unfold pX11_nests_j43 at hf
  refine v_aload_n (pc := 43) 0 dX11_nests_43 rfl ?_
  replace hf := bd_some hf; obtain ⟨r11, h12, hf⟩ := hf
  refine V_call (pc := 44) (us1 := [_]) [0] 0 (kX11_day (o := o) hk0 h12) rfl rfl rfl rfl rfl hk0 (Nat.le_of_ble_eq_true rfl) rfl rfl rfl wm_RX11_303 md_X11_day (Nat.le_of_ble_eq_true rfl) (Nat.le_of_ble_eq_true rfl) rfl rfl (Nat.le_of_ble_eq_true rfl) dX11_nests_44 ?_
  refine v_iinc (pc := 47) 3 (l3 + (1 : Int32)) [(3, _), (0, _), (1, _), (2, _)] dX11_nests_47 rfl (congrArg (fun z => _ + z) ci_1) (Nat.le_of_ble_eq_true rfl) rfl ?_
  refine v_goto (pc := 50) 23 dX11_nests_50 (by decide) ?_
  exact V_sub [1, 2, 3, 0] rfl (hrec hf)
set_option maxRecDepth 20000 in
theorem wX11_nests_l23 {G : Wc} {Γ : Cx} {o : Nat} {l1 : Int32} (hk0 : kd o = 10) : ∀ (n : Nat) {l2 : Int32} {l3 : Int32} {S : Ob} {r : Int32 × Ob}, pX11_nests_l23  l1 n l2 l3 S = some r → V cX11_nests RX11 3 103 4 G Γ [(o, r.2)] 53 [(0, .ref (wA G o 0)), (2, .int r.1)] [] → V cX11_nests RX11 3 103 4 G Γ [(o, S)] 23 [(0, .ref (wA G o 0)), (1, .int l1), (2, .int l2), (3, .int l3)] [] := by
  intro n
  induction n with
  | zero => intro l2 l3 S r hf hx; unfold pX11_nests_l23 at hf; cases hf
  | succ n ih =>
    intro l2 l3 S r hf hx
    have hrec : ∀ {l2 : Int32} {l3 : Int32} {S : Ob}, pX11_nests_l23  l1 n l2 l3 S = some r → V cX11_nests RX11 3 103 4 G Γ [(o, S)] 23 [(0, .ref (wA G o 0)), (1, .int l1), (2, .int l2), (3, .int l3)] [] := fun h => ih h hx
    clear ih
    unfold pX11_nests_l23 at hf
    refine v_iload_n (pc := 23) 3 dX11_nests_23 rfl ?_
    refine v_bipush (pc := 24) (99 : Int32) dX11_nests_24 cb_99 ?_
    refine v_icmp_gt (pc := 26) 53 dX11_nests_26 (by decide) (fun c6 => ?_) (fun c6 => ?_)
    · replace hf := it_t c6 hf
      have hf2 := Option.some.inj hf; subst hf2
      exact V_sub [0, 2] rfl hx
    · replace hf := it_f c6 hf
      refine v_iload_n (pc := 29) 2 dX11_nests_29 rfl ?_
      refine v_if_ge (pc := 30) 53 dX11_nests_30 (by decide) (fun c7 => ?_) (fun c7 => ?_)
      · replace hf := it_t c7 hf
        have hf2 := Option.some.inj hf; subst hf2
        exact V_sub [0, 2] rfl hx
      · replace hf := it_f c7 hf
        refine v_aload_n (pc := 33) 0 dX11_nests_33 rfl ?_
        refine v_iload_n (pc := 34) 1 dX11_nests_34 rfl ?_
        replace hf := bd_some hf; obtain ⟨r8, h9, hf⟩ := hf
        refine V_call (pc := 35) (us1 := [_]) [0] 0 (kX11_isNest (o := o) hk0 h9) rfl rfl rfl rfl rfl hk0 (Nat.le_of_ble_eq_true rfl) rfl rfl rfl wm_RX11_271 md_X11_isNest (Nat.le_of_ble_eq_true rfl) (Nat.le_of_ble_eq_true rfl) rfl rfl (Nat.le_of_ble_eq_true rfl) dX11_nests_35 ?_
        refine v_if_eq (pc := 38) 43 dX11_nests_38 (by decide) (fun c10 => ?_) (fun c10 => ?_)
        · replace hf := it_t c10 hf
          exact V_sub [0, 1, 2, 3] rfl (wX11_nests_j43 hk0 hrec hx hf)
        · replace hf := it_f c10 hf
          refine v_iload_n (pc := 41) 3 dX11_nests_41 rfl ?_
          refine v_istore_n (pc := 42) [(2, _), (0, _), (1, _), (3, _)] dX11_nests_42 (Nat.le_of_ble_eq_true rfl) rfl ?_
          exact V_sub [1, 2, 0, 3] rfl (wX11_nests_j43 hk0 hrec hx hf)
set_option maxRecDepth 20000 in
theorem kX11_nests {G : Wc} {o : Nat} {S : Ob} {a : Int32} {r : Int32 × Ob} (hk0 : kd o = 10) (hf : pX11_nests S  a = some r) : Cn yX11_nests cX11_nests 4 (some .int) 3 103 G [.ref (wA G o 0), .int a] [(o, S)] [(o, r.2)] (some (.int r.1)) := by
  refine V_method [(0, .ref (wA G o 0)), (1, .int a)] (by decide) rfl (Nat.le_of_ble_eq_true rfl) rfl (fun Γ hF => ?_)
  unfold pX11_nests at hf
  refine v_aload_n (pc := 0) 0 dX11_nests_0 rfl ?_
  refine v_iconst (pc := 1) (0 : Int32) dX11_nests_1 ci_0 ?_
  refine pf_RX11_1 (pc := 2) [_] 0 rfl hk0 rfl dX11_nests_2 ?_
  refine v_aload_n (pc := 5) 0 dX11_nests_5 rfl ?_
  refine v_iload_n (pc := 6) 1 dX11_nests_6 rfl ?_
  replace hf := bd_some hf; obtain ⟨r1, h2, hf⟩ := hf
  refine V_call (pc := 7) (us1 := [_]) [0] 0 (kX11_isPerson (o := o) hk0 h2) rfl rfl rfl rfl rfl hk0 (Nat.le_of_ble_eq_true rfl) rfl rfl rfl wm_RX11_254 md_X11_isPerson (Nat.le_of_ble_eq_true rfl) (Nat.le_of_ble_eq_true rfl) rfl rfl (Nat.le_of_ble_eq_true rfl) dX11_nests_7 ?_
  refine v_if_ne (pc := 10) 15 dX11_nests_10 (by decide) (fun c3 => ?_) (fun c3 => ?_)
  · replace hf := it_f c3 hf
    refine v_aload_n (pc := 15) 0 dX11_nests_15 rfl ?_
    replace hf := bd_some hf; obtain ⟨r4, h5, hf⟩ := hf
    refine V_call (pc := 16) (us1 := [_]) [0] 0 (kX11_tries (o := o) hk0 h5) rfl rfl rfl rfl rfl hk0 (Nat.le_of_ble_eq_true rfl) rfl rfl rfl wm_RX11_327 md_X11_tries (Nat.le_of_ble_eq_true rfl) (Nat.le_of_ble_eq_true rfl) rfl rfl (Nat.le_of_ble_eq_true rfl) dX11_nests_16 ?_
    refine v_iconst (pc := 19) (-1 : Int32) dX11_nests_19 ci_m1 ?_
    refine v_istore_n (pc := 20) [(2, _), (0, _), (1, _)] dX11_nests_20 (Nat.le_of_ble_eq_true rfl) rfl ?_
    refine v_iconst (pc := 21) (0 : Int32) dX11_nests_21 ci_0 ?_
    refine v_istore_n (pc := 22) [(3, _), (2, _), (0, _), (1, _)] dX11_nests_22 (Nat.le_of_ble_eq_true rfl) rfl ?_
    replace hf := bd_some hf; obtain ⟨r13, h14, hf⟩ := hf
    refine V_sub [2, 3, 1, 0] rfl (wX11_nests_l23 hk0 fu h14 ?_)
    refine v_aload_n (pc := 53) 0 dX11_nests_53 rfl ?_
    replace hf := bd_some hf; obtain ⟨r15, h16, hf⟩ := hf
    refine V_call (pc := 54) (us1 := [_]) [0] 0 (kX11_back (o := o) hk0 h16) rfl rfl rfl rfl rfl hk0 (Nat.le_of_ble_eq_true rfl) rfl rfl rfl wm_RX11_330 md_X11_back (Nat.le_of_ble_eq_true rfl) (Nat.le_of_ble_eq_true rfl) rfl rfl (Nat.le_of_ble_eq_true rfl) dX11_nests_54 ?_
    refine v_iload_n (pc := 57) 1 dX11_nests_57 rfl ?_
    have hf2 := Option.some.inj hf; subst hf2
    exact V_iret (pc := 58) hF dX11_nests_58
  · replace hf := it_t c3 hf
    refine v_iconst (pc := 13) (-1 : Int32) dX11_nests_13 ci_m1 ?_
    have hf2 := Option.some.inj hf; subst hf2
    exact V_iret (pc := 14) hF dX11_nests_14
set_option maxRecDepth 20000 in
theorem wX11_round_j90 {G : Wc} {Γ : Cx} {o : Nat} {S : Ob} {l1 : Int32} {l2 : Int32} {l3 : Int32} {l4 : Int32} {l5 : Int32} {l6 : Int32} {l7 : Int32} {s0 : Int32} {r : Int32 × Int32} (hk0 : kd o = 10) {rec : Int32 → Int32 → Int32 → Option (Int32 × Int32)} (hrec : ∀ {l5 : Int32} {l6 : Int32} {l7 : Int32}, rec l5 l6 l7 = some r → V cX11_round RX11 5 152 8 G Γ [(o, S)] 47 [(0, .ref (wA G o 0)), (1, .int l1), (2, .int l2), (3, .int l3), (4, .int l4), (5, .int l5), (6, .int l6), (7, .int l7)] []) (hx : V cX11_round RX11 5 152 8 G Γ [(o, S)] 109 [(0, .ref (wA G o 0)), (1, .int l1), (2, .int l2), (3, .int l3), (4, .int l4), (5, .int r.1), (6, .int r.2)] []) (hf : pX11_round_j90 rec S l1 l2 l3 l4 l5 l6 l7 s0 = some r) : V cX11_round RX11 5 152 8 G Γ [(o, S)] 90 [(0, .ref (wA G o 0)), (1, .int l1), (2, .int l2), (3, .int l3), (4, .int l4), (5, .int l5), (6, .int l6), (7, .int l7)] [.int s0] := by
  unfold pX11_round_j90 at hf
  refine v_istore (pc := 90) [(6, _), (0, _), (1, _), (2, _), (3, _), (4, _), (5, _), (7, _)] dX11_round_90 (Nat.le_of_ble_eq_true rfl) rfl ?_
  refine v_iload (pc := 92) 6 dX11_round_92 rfl ?_
  refine v_aload_n (pc := 94) 1 dX11_round_94 rfl ?_
  refine v_iload (pc := 95) 7 dX11_round_95 rfl ?_
  replace hf := bd_some hf; obtain ⟨r10, h11, hf⟩ := hf
  refine V_call (pc := 97) (us1 := [_]) [0] 0 (kX11_holdsOf (o := o) hk0 h11) rfl rfl rfl rfl rfl hk0 (Nat.le_of_ble_eq_true rfl) rfl rfl rfl wm_RX11_268 md_X11_holdsOf (Nat.le_of_ble_eq_true rfl) (Nat.le_of_ble_eq_true rfl) rfl rfl (Nat.le_of_ble_eq_true rfl) dX11_round_97 ?_
  refine v_iadd (pc := 100) dX11_round_100 ?_
  refine v_istore (pc := 101) [(5, _), (6, _), (0, _), (1, _), (2, _), (3, _), (4, _), (7, _)] dX11_round_101 (Nat.le_of_ble_eq_true rfl) rfl ?_
  refine v_iinc (pc := 103) 7 (l7 + (1 : Int32)) [(7, _), (5, _), (6, _), (0, _), (1, _), (2, _), (3, _), (4, _)] dX11_round_103 rfl (congrArg (fun z => _ + z) ci_1) (Nat.le_of_ble_eq_true rfl) rfl ?_
  refine v_goto (pc := 106) 47 dX11_round_106 (by decide) ?_
  exact V_sub [3, 4, 5, 6, 7, 1, 2, 0] rfl (hrec hf)
set_option maxRecDepth 20000 in
theorem wX11_round_j89 {G : Wc} {Γ : Cx} {o : Nat} {S : Ob} {l1 : Int32} {l2 : Int32} {l3 : Int32} {l4 : Int32} {l5 : Int32} {l6 : Int32} {l7 : Int32} {r : Int32 × Int32} (hk0 : kd o = 10) {rec : Int32 → Int32 → Int32 → Option (Int32 × Int32)} (hrec : ∀ {l5 : Int32} {l6 : Int32} {l7 : Int32}, rec l5 l6 l7 = some r → V cX11_round RX11 5 152 8 G Γ [(o, S)] 47 [(0, .ref (wA G o 0)), (1, .int l1), (2, .int l2), (3, .int l3), (4, .int l4), (5, .int l5), (6, .int l6), (7, .int l7)] []) (hx : V cX11_round RX11 5 152 8 G Γ [(o, S)] 109 [(0, .ref (wA G o 0)), (1, .int l1), (2, .int l2), (3, .int l3), (4, .int l4), (5, .int r.1), (6, .int r.2)] []) (hf : pX11_round_j89 rec S l1 l2 l3 l4 l5 l6 l7 = some r) : V cX11_round RX11 5 152 8 G Γ [(o, S)] 89 [(0, .ref (wA G o 0)), (1, .int l1), (2, .int l2), (3, .int l3), (4, .int l4), (5, .int l5), (6, .int l6), (7, .int l7)] [] := by
  unfold pX11_round_j89 at hf
  refine v_iconst (pc := 89) (0 : Int32) dX11_round_89 ci_0 ?_
  exact V_sub [0, 1, 2, 3, 4, 5, 6, 7] rfl (wX11_round_j90 hk0 hrec hx hf)
set_option maxRecDepth 20000 in
theorem wX11_round_l47 {G : Wc} {Γ : Cx} {o : Nat} {S : Ob} {l1 : Int32} {l2 : Int32} {l3 : Int32} {l4 : Int32} (hk0 : kd o = 10) : ∀ (n : Nat) {l5 : Int32} {l6 : Int32} {l7 : Int32} {r : Int32 × Int32}, pX11_round_l47  S l1 l2 l3 l4 n l5 l6 l7 = some r → V cX11_round RX11 5 152 8 G Γ [(o, S)] 109 [(0, .ref (wA G o 0)), (1, .int l1), (2, .int l2), (3, .int l3), (4, .int l4), (5, .int r.1), (6, .int r.2)] [] → V cX11_round RX11 5 152 8 G Γ [(o, S)] 47 [(0, .ref (wA G o 0)), (1, .int l1), (2, .int l2), (3, .int l3), (4, .int l4), (5, .int l5), (6, .int l6), (7, .int l7)] [] := by
  intro n
  induction n with
  | zero => intro l5 l6 l7 r hf hx; unfold pX11_round_l47 at hf; cases hf
  | succ n ih =>
    intro l5 l6 l7 r hf hx
    have hrec : ∀ {l5 : Int32} {l6 : Int32} {l7 : Int32}, pX11_round_l47  S l1 l2 l3 l4 n l5 l6 l7 = some r → V cX11_round RX11 5 152 8 G Γ [(o, S)] 47 [(0, .ref (wA G o 0)), (1, .int l1), (2, .int l2), (3, .int l3), (4, .int l4), (5, .int l5), (6, .int l6), (7, .int l7)] [] := fun h => ih h hx
    clear ih
    unfold pX11_round_l47 at hf
    refine v_iload (pc := 47) 7 dX11_round_47 rfl ?_
    refine v_aload_n (pc := 49) 0 dX11_round_49 rfl ?_
    refine gf_RX11_33 (pc := 50) 0 rfl hk0 dX11_round_50 ?_
    refine v_iconst (pc := 53) (1 : Int32) dX11_round_53 ci_1 ?_
    refine al_X11_6 (pc := 54) 1 0 rfl hk0 rfl ib_1_390 dX11_round_54 ?_
    refine v_icmp_ge (pc := 55) 109 dX11_round_55 (by decide) (fun c5 => ?_) (fun c5 => ?_)
    · replace hf := it_t c5 hf
      have hf2 := Option.some.inj hf; subst hf2
      exact V_sub [0, 1, 2, 3, 4, 5, 6] rfl hx
    · replace hf := it_f c5 hf
      refine v_iload (pc := 58) 4 dX11_round_58 rfl ?_
      refine v_iload (pc := 60) 7 dX11_round_60 rfl ?_
      replace hf := bd_some hf; obtain ⟨r6, h7, hf⟩ := hf
      refine V_callS (pc := 62) (us1 := [_]) [] (kX11_bitOf  h7) rfl rfl rfl rfl wm_RX11_333 md_X11_bitOf (Nat.le_of_ble_eq_true rfl) (Nat.le_of_ble_eq_true rfl) rfl rfl (Nat.le_of_ble_eq_true rfl) dX11_round_62 ?_
      refine v_if_ne (pc := 65) 71 dX11_round_65 (by decide) (fun c8 => ?_) (fun c8 => ?_)
      · replace hf := it_f c8 hf
        refine v_iload (pc := 71) 6 dX11_round_71 rfl ?_
        refine v_if_eq (pc := 73) 89 dX11_round_73 (by decide) (fun c9 => ?_) (fun c9 => ?_)
        · replace hf := it_t c9 hf
          exact V_sub [0, 1, 2, 3, 4, 5, 6, 7] rfl (wX11_round_j89 hk0 hrec hx hf)
        · replace hf := it_f c9 hf
          refine v_aload_n (pc := 76) 0 dX11_round_76 rfl ?_
          refine v_iload (pc := 77) 7 dX11_round_77 rfl ?_
          replace hf := bd_some hf; obtain ⟨r12, h13, hf⟩ := hf
          refine V_call (pc := 79) (us1 := [_]) [0] 0 (kX11_easeBy (o := o) hk0 h13) rfl rfl rfl rfl rfl hk0 (Nat.le_of_ble_eq_true rfl) rfl rfl rfl wm_RX11_324 md_X11_easeBy (Nat.le_of_ble_eq_true rfl) (Nat.le_of_ble_eq_true rfl) rfl rfl (Nat.le_of_ble_eq_true rfl) dX11_round_79 ?_
          refine v_if_le (pc := 82) 89 dX11_round_82 (by decide) (fun c14 => ?_) (fun c14 => ?_)
          · replace hf := it_t c14 hf
            exact V_sub [0, 1, 2, 3, 4, 5, 6, 7] rfl (wX11_round_j89 hk0 hrec hx hf)
          · replace hf := it_f c14 hf
            refine v_iconst (pc := 85) (1 : Int32) dX11_round_85 ci_1 ?_
            refine v_goto (pc := 86) 90 dX11_round_86 (by decide) ?_
            exact V_sub [0, 1, 2, 3, 4, 5, 6, 7] rfl (wX11_round_j90 hk0 hrec hx hf)
      · replace hf := it_t c8 hf
        refine v_goto (pc := 68) 103 dX11_round_68 (by decide) ?_
        refine v_iinc (pc := 103) 7 (l7 + (1 : Int32)) [(7, _), (0, _), (1, _), (2, _), (3, _), (4, _), (5, _), (6, _)] dX11_round_103 rfl (congrArg (fun z => _ + z) ci_1) (Nat.le_of_ble_eq_true rfl) rfl ?_
        refine v_goto (pc := 106) 47 dX11_round_106 (by decide) ?_
        exact V_sub [1, 2, 3, 4, 5, 6, 7, 0] rfl (hrec hf)
set_option maxRecDepth 20000 in
theorem wX11_round_j153 {G : Wc} {Γ : Cx} {o : Nat} {S : Ob} {l1 : Int32} {l2 : Int32} {l4 : Int32} {l5 : Int32} {r : Int32} (hk0 : kd o = 10) {rec : Int32 → Int32 → Int32 → Option (Int32)} (hrec : ∀ {l2 : Int32} {l3 : Int32} {l4 : Int32}, rec l2 l3 l4 = some r → V cX11_round RX11 5 152 8 G Γ [(o, S)] 25 [(0, .ref (wA G o 0)), (1, .int l1), (2, .int l2), (3, .int l3), (4, .int l4)] []) (hx : V cX11_round RX11 5 152 8 G Γ [(o, S)] 165 [(0, .ref (wA G o 0)), (2, .int r)] []) (hf : pX11_round_j153 rec S l1 l2 l4 l5 = some r) : V cX11_round RX11 5 152 8 G Γ [(o, S)] 153 [(0, .ref (wA G o 0)), (1, .int l1), (2, .int l2), (4, .int l4), (5, .int l5)] [] := by
  unfold pX11_round_j153 at hf
  refine v_iload (pc := 153) 3 dX11_round_153 rfl ?_
  refine v_istore_n (pc := 155) [(2, _), (0, _), (1, _), (4, _), (5, _)] dX11_round_155 (Nat.le_of_ble_eq_true rfl) rfl ?_
  refine v_iload (pc := 156) 4 dX11_round_156 rfl ?_
  refine v_istore_n (pc := 158) [(3, _), (2, _), (0, _), (1, _), (4, _), (5, _)] dX11_round_158 (Nat.le_of_ble_eq_true rfl) rfl ?_
  refine v_iinc (pc := 159) 4 (l4 + (1 : Int32)) [(4, _), (3, _), (2, _), (0, _), (1, _), (5, _)] dX11_round_159 rfl (congrArg (fun z => _ + z) ci_1) (Nat.le_of_ble_eq_true rfl) rfl ?_
  refine v_goto (pc := 162) 25 dX11_round_162 (by decide) ?_
  exact V_sub [3, 4, 2, 1, 0] rfl (hrec hf)
set_option maxRecDepth 20000 in
theorem wX11_round_l25 {G : Wc} {Γ : Cx} {o : Nat} {S : Ob} {l1 : Int32} (hk0 : kd o = 10) : ∀ (n : Nat) {l2 : Int32} {l3 : Int32} {l4 : Int32} {r : Int32}, pX11_round_l25  S l1 n l2 l3 l4 = some r → V cX11_round RX11 5 152 8 G Γ [(o, S)] 165 [(0, .ref (wA G o 0)), (2, .int r)] [] → V cX11_round RX11 5 152 8 G Γ [(o, S)] 25 [(0, .ref (wA G o 0)), (1, .int l1), (2, .int l2), (3, .int l3), (4, .int l4)] [] := by
  intro n
  induction n with
  | zero => intro l2 l3 l4 r hf hx; unfold pX11_round_l25 at hf; cases hf
  | succ n ih =>
    intro l2 l3 l4 r hf hx
    have hrec : ∀ {l2 : Int32} {l3 : Int32} {l4 : Int32}, pX11_round_l25  S l1 n l2 l3 l4 = some r → V cX11_round RX11 5 152 8 G Γ [(o, S)] 25 [(0, .ref (wA G o 0)), (1, .int l1), (2, .int l2), (3, .int l3), (4, .int l4)] [] := fun h => ih h hx
    clear ih
    unfold pX11_round_l25 at hf
    refine v_iload (pc := 25) 4 dX11_round_25 rfl ?_
    refine v_iconst (pc := 27) (1 : Int32) dX11_round_27 ci_1 ?_
    refine v_aload_n (pc := 28) 0 dX11_round_28 rfl ?_
    refine gf_RX11_33 (pc := 29) 0 rfl hk0 dX11_round_29 ?_
    refine v_iconst (pc := 32) (1 : Int32) dX11_round_32 ci_1 ?_
    refine al_X11_6 (pc := 33) 1 0 rfl hk0 rfl ib_1_390 dX11_round_33 ?_
    refine v_ishl (pc := 34) dX11_round_34 ?_
    refine v_icmp_ge (pc := 35) 165 dX11_round_35 (by decide) (fun c4 => ?_) (fun c4 => ?_)
    · replace hf := it_t c4 hf
      have hf2 := Option.some.inj hf; subst hf2
      exact V_sub [0, 2] rfl hx
    · replace hf := it_f c4 hf
      refine v_iconst (pc := 38) (0 : Int32) dX11_round_38 ci_0 ?_
      refine v_istore (pc := 39) [(5, _), (0, _), (1, _), (2, _), (3, _), (4, _)] dX11_round_39 (Nat.le_of_ble_eq_true rfl) rfl ?_
      refine v_iconst (pc := 41) (1 : Int32) dX11_round_41 ci_1 ?_
      refine v_istore (pc := 42) [(6, _), (5, _), (0, _), (1, _), (2, _), (3, _), (4, _)] dX11_round_42 (Nat.le_of_ble_eq_true rfl) rfl ?_
      refine v_iconst (pc := 44) (0 : Int32) dX11_round_44 ci_0 ?_
      refine v_istore (pc := 45) [(7, _), (6, _), (5, _), (0, _), (1, _), (2, _), (3, _), (4, _)] dX11_round_45 (Nat.le_of_ble_eq_true rfl) rfl ?_
      replace hf := bd_some hf; obtain ⟨r15, h16, hf⟩ := hf
      refine V_sub [3, 4, 5, 6, 7, 2, 1, 0] rfl (wX11_round_l47 hk0 fu h16 ?_)
      refine v_iload (pc := 109) 6 dX11_round_109 rfl ?_
      refine v_if_eq (pc := 111) 159 dX11_round_111 (by decide) (fun c17 => ?_) (fun c17 => ?_)
      · replace hf := it_t c17 hf
        refine v_iinc (pc := 159) 4 (l4 + (1 : Int32)) [(4, _), (0, _), (1, _), (2, _), (3, _), (5, _), (6, _)] dX11_round_159 rfl (congrArg (fun z => _ + z) ci_1) (Nat.le_of_ble_eq_true rfl) rfl ?_
        refine v_goto (pc := 162) 25 dX11_round_162 (by decide) ?_
        exact V_sub [1, 2, 3, 4, 0] rfl (hrec hf)
      · replace hf := it_f c17 hf
        refine v_iload (pc := 114) 5 dX11_round_114 rfl ?_
        refine v_iload_n (pc := 116) 1 dX11_round_116 rfl ?_
        refine v_icmp_gt (pc := 117) 159 dX11_round_117 (by decide) (fun c18 => ?_) (fun c18 => ?_)
        · replace hf := it_t c18 hf
          refine v_iinc (pc := 159) 4 (l4 + (1 : Int32)) [(4, _), (0, _), (1, _), (2, _), (3, _), (5, _), (6, _)] dX11_round_159 rfl (congrArg (fun z => _ + z) ci_1) (Nat.le_of_ble_eq_true rfl) rfl ?_
          refine v_goto (pc := 162) 25 dX11_round_162 (by decide) ?_
          exact V_sub [1, 2, 3, 4, 0] rfl (hrec hf)
        · replace hf := it_f c18 hf
          refine v_iload (pc := 120) 4 dX11_round_120 rfl ?_
          replace hf := bd_some hf; obtain ⟨r19, h20, hf⟩ := hf
          refine V_callS (pc := 122) (us1 := [_]) [] (kX11_bits  h20) rfl rfl rfl rfl wm_RX11_336 md_X11_bits (Nat.le_of_ble_eq_true rfl) (Nat.le_of_ble_eq_true rfl) rfl rfl (Nat.le_of_ble_eq_true rfl) dX11_round_122 ?_
          refine v_iload_n (pc := 125) 2 dX11_round_125 rfl ?_
          replace hf := bd_some hf; obtain ⟨r21, h22, hf⟩ := hf
          refine V_callS (pc := 126) (us1 := [_]) [] (kX11_bits  h22) rfl rfl rfl rfl wm_RX11_336 md_X11_bits (Nat.le_of_ble_eq_true rfl) (Nat.le_of_ble_eq_true rfl) rfl rfl (Nat.le_of_ble_eq_true rfl) dX11_round_126 ?_
          refine v_icmp_lt (pc := 129) 159 dX11_round_129 (by decide) (fun c23 => ?_) (fun c23 => ?_)
          · replace hf := it_t c23 hf
            refine v_iinc (pc := 159) 4 (l4 + (1 : Int32)) [(4, _), (0, _), (1, _), (2, _), (3, _), (5, _), (6, _)] dX11_round_159 rfl (congrArg (fun z => _ + z) ci_1) (Nat.le_of_ble_eq_true rfl) rfl ?_
            refine v_goto (pc := 162) 25 dX11_round_162 (by decide) ?_
            exact V_sub [1, 2, 3, 4, 0] rfl (hrec hf)
          · replace hf := it_f c23 hf
            refine v_iload (pc := 132) 4 dX11_round_132 rfl ?_
            replace hf := bd_some hf; obtain ⟨r24, h25, hf⟩ := hf
            refine V_callS (pc := 134) (us1 := [_]) [] (kX11_bits  h25) rfl rfl rfl rfl wm_RX11_336 md_X11_bits (Nat.le_of_ble_eq_true rfl) (Nat.le_of_ble_eq_true rfl) rfl rfl (Nat.le_of_ble_eq_true rfl) dX11_round_134 ?_
            refine v_iload_n (pc := 137) 2 dX11_round_137 rfl ?_
            replace hf := bd_some hf; obtain ⟨r26, h27, hf⟩ := hf
            refine V_callS (pc := 138) (us1 := [_]) [] (kX11_bits  h27) rfl rfl rfl rfl wm_RX11_336 md_X11_bits (Nat.le_of_ble_eq_true rfl) (Nat.le_of_ble_eq_true rfl) rfl rfl (Nat.le_of_ble_eq_true rfl) dX11_round_138 ?_
            refine v_icmp_ne (pc := 141) 153 dX11_round_141 (by decide) (fun c28 => ?_) (fun c28 => ?_)
            · replace hf := it_f c28 hf
              exact V_sub [0, 1, 2, 4, 5] rfl (wX11_round_j153 hk0 hrec hx hf)
            · replace hf := it_t c28 hf
              refine v_iload (pc := 144) 5 dX11_round_144 rfl ?_
              refine v_iload_n (pc := 146) 3 dX11_round_146 rfl ?_
              refine v_icmp_lt (pc := 147) 153 dX11_round_147 (by decide) (fun c29 => ?_) (fun c29 => ?_)
              · replace hf := it_t c29 hf
                exact V_sub [0, 1, 2, 4, 5] rfl (wX11_round_j153 hk0 hrec hx hf)
              · replace hf := it_f c29 hf
                refine v_goto (pc := 150) 159 dX11_round_150 (by decide) ?_
                refine v_iinc (pc := 159) 4 (l4 + (1 : Int32)) [(4, _), (0, _), (1, _), (2, _), (3, _), (5, _), (6, _)] dX11_round_159 rfl (congrArg (fun z => _ + z) ci_1) (Nat.le_of_ble_eq_true rfl) rfl ?_
                refine v_goto (pc := 162) 25 dX11_round_162 (by decide) ?_
                exact V_sub [1, 2, 3, 4, 0] rfl (hrec hf)
set_option maxRecDepth 20000 in
theorem kX11_round {G : Wc} {o : Nat} {S : Ob} {a : Int32} {r : Int32 × Ob} (hk0 : kd o = 10) (hf : pX11_round S  a = some r) : Cn yX11_round cX11_round 8 (some .int) 5 152 G [.ref (wA G o 0), .int a] [(o, S)] [(o, r.2)] (some (.int r.1)) := by
  refine V_method [(0, .ref (wA G o 0)), (1, .int a)] (by decide) rfl (Nat.le_of_ble_eq_true rfl) rfl (fun Γ hF => ?_)
  unfold pX11_round at hf
  refine v_aload_n (pc := 0) 0 dX11_round_0 rfl ?_
  refine v_iconst (pc := 1) (0 : Int32) dX11_round_1 ci_0 ?_
  refine pf_RX11_1 (pc := 2) [_] 0 rfl hk0 rfl dX11_round_2 ?_
  refine v_iload_n (pc := 5) 1 dX11_round_5 rfl ?_
  refine v_iconst (pc := 6) (0 : Int32) dX11_round_6 ci_0 ?_
  refine v_sipush (pc := 7) (999 : Int32) dX11_round_7 cs_999 ?_
  replace hf := bd_some hf; obtain ⟨r1, h2, hf⟩ := hf
  refine V_callS (pc := 10) (us1 := [_]) [] (kX11_isIn  h2) rfl rfl rfl rfl wm_RX11_176 md_X11_isIn (Nat.le_of_ble_eq_true rfl) (Nat.le_of_ble_eq_true rfl) rfl rfl (Nat.le_of_ble_eq_true rfl) dX11_round_10 ?_
  refine v_if_ne (pc := 13) 18 dX11_round_13 (by decide) (fun c3 => ?_) (fun c3 => ?_)
  · replace hf := it_f c3 hf
    refine v_iconst (pc := 18) (0 : Int32) dX11_round_18 ci_0 ?_
    refine v_istore_n (pc := 19) [(2, _), (0, _), (1, _)] dX11_round_19 (Nat.le_of_ble_eq_true rfl) rfl ?_
    refine v_iconst (pc := 20) (0 : Int32) dX11_round_20 ci_0 ?_
    refine v_istore_n (pc := 21) [(3, _), (2, _), (0, _), (1, _)] dX11_round_21 (Nat.le_of_ble_eq_true rfl) rfl ?_
    refine v_iconst (pc := 22) (1 : Int32) dX11_round_22 ci_1 ?_
    refine v_istore (pc := 23) [(4, _), (3, _), (2, _), (0, _), (1, _)] dX11_round_23 (Nat.le_of_ble_eq_true rfl) rfl ?_
    replace hf := bd_some hf; obtain ⟨r30, h31, hf⟩ := hf
    refine V_sub [3, 4, 2, 1, 0] rfl (wX11_round_l25 hk0 fu h31 ?_)
    refine v_aload_n (pc := 165) 0 dX11_round_165 rfl ?_
    refine v_iconst (pc := 166) (1 : Int32) dX11_round_166 ci_1 ?_
    refine pf_RX11_339 (pc := 167) [_] 0 rfl hk0 rfl rfl dX11_round_167 ?_
    refine v_aload_n (pc := 170) 0 dX11_round_170 rfl ?_
    refine v_iload_n (pc := 171) 1 dX11_round_171 rfl ?_
    refine pf_RX11_342 (pc := 172) [_] 0 rfl hk0 rfl dX11_round_172 ?_
    refine v_iload_n (pc := 175) 1 dX11_round_175 rfl ?_
    replace hf := bd_some hf; obtain ⟨r32, h33, hf⟩ := hf
    refine V_callS (pc := 176) (us1 := [_]) [] (kX11_bits  h33) rfl rfl rfl rfl wm_RX11_336 md_X11_bits (Nat.le_of_ble_eq_true rfl) (Nat.le_of_ble_eq_true rfl) rfl rfl (Nat.le_of_ble_eq_true rfl) dX11_round_176 ?_
    have hf2 := Option.some.inj hf; subst hf2
    exact V_iret (pc := 179) hF dX11_round_179
  · replace hf := it_t c3 hf
    refine v_iconst (pc := 16) (-1 : Int32) dX11_round_16 ci_m1 ?_
    have hf2 := Option.some.inj hf; subst hf2
    exact V_iret (pc := 17) hF dX11_round_17
set_option maxRecDepth 20000 in
theorem kX11_rounded {G : Wc} {o : Nat} {S : Ob}  {r : Int32 × Ob} (hk0 : kd o = 10) (hf : pX11_rounded S   = some r) : Cn yX11_rounded cX11_rounded 1 (some .int) 1 60 G [.ref (wA G o 0)] [(o, S)] [(o, r.2)] (some (.int r.1)) := by
  refine V_method [(0, .ref (wA G o 0))] (by decide) rfl (Nat.le_of_ble_eq_true rfl) rfl (fun Γ hF => ?_)
  unfold pX11_rounded at hf
  refine v_aload_n (pc := 0) 0 dX11_rounded_0 rfl ?_
  refine v_iconst (pc := 1) (0 : Int32) dX11_rounded_1 ci_0 ?_
  refine pf_RX11_1 (pc := 2) [_] 0 rfl hk0 rfl dX11_rounded_2 ?_
  refine v_aload_n (pc := 5) 0 dX11_rounded_5 rfl ?_
  refine gf_RX11_339 (pc := 6) 0 rfl hk0 dX11_rounded_6 ?_
  refine v_if_eq (pc := 9) 19 dX11_rounded_9 (by decide) (fun c1 => ?_) (fun c1 => ?_)
  · replace hf := it_t c1 hf
    refine v_iconst (pc := 19) (-1 : Int32) dX11_rounded_19 ci_m1 ?_
    have hf2 := Option.some.inj hf; subst hf2
    exact V_iret (pc := 20) hF dX11_rounded_20
  · replace hf := it_f c1 hf
    refine v_aload_n (pc := 12) 0 dX11_rounded_12 rfl ?_
    refine gf_RX11_342 (pc := 13) 0 rfl hk0 dX11_rounded_13 ?_
    refine v_goto (pc := 16) 20 dX11_rounded_16 (by decide) ?_
    have hf2 := Option.some.inj hf; subst hf2
    exact V_iret (pc := 20) hF dX11_rounded_20
set_option maxRecDepth 20000 in
theorem wX11_laysBag_l12 {G : Wc} {Γ : Cx} {o : Nat} {l2 : Int32} (hk0 : kd o = 10) : ∀ (n : Nat) {l1 : Int32} {l3 : Int32} {S : Ob} {r : Int32 × Ob}, pX11_laysBag_l12  l2 n l1 l3 S = some r → V cX11_laysBag RX11 2 81 4 G Γ [(o, r.2)] 50 [(0, .ref (wA G o 0)), (1, .int r.1), (2, .int l2)] [] → V cX11_laysBag RX11 2 81 4 G Γ [(o, S)] 12 [(0, .ref (wA G o 0)), (1, .int l1), (2, .int l2), (3, .int l3)] [] := by
  intro n
  induction n with
  | zero => intro l1 l3 S r hf hx; unfold pX11_laysBag_l12 at hf; cases hf
  | succ n ih =>
    intro l1 l3 S r hf hx
    have hrec : ∀ {l1 : Int32} {l3 : Int32} {S : Ob}, pX11_laysBag_l12  l2 n l1 l3 S = some r → V cX11_laysBag RX11 2 81 4 G Γ [(o, S)] 12 [(0, .ref (wA G o 0)), (1, .int l1), (2, .int l2), (3, .int l3)] [] := fun h => ih h hx
    clear ih
    unfold pX11_laysBag_l12 at hf
    refine v_iload_n (pc := 12) 3 dX11_laysBag_12 rfl ?_
    refine v_aload_n (pc := 13) 0 dX11_laysBag_13 rfl ?_
    refine gf_RX11_33 (pc := 14) 0 rfl hk0 dX11_laysBag_14 ?_
    refine v_sipush (pc := 17) (185 : Int32) dX11_laysBag_17 cs_185 ?_
    refine v_iload_n (pc := 20) 2 dX11_laysBag_20 rfl ?_
    refine v_iadd (pc := 21) dX11_laysBag_21 ?_
    replace hf := gd_some hf; obtain ⟨g2, hf⟩ := hf
    refine al_X11_6 (pc := 22) _ 0 rfl hk0 rfl g2 dX11_laysBag_22 ?_
    refine v_icmp_ge (pc := 23) 50 dX11_laysBag_23 (by decide) (fun c3 => ?_) (fun c3 => ?_)
    · replace hf := it_t c3 hf
      have hf2 := Option.some.inj hf; subst hf2
      exact V_sub [0, 1, 2] rfl hx
    · replace hf := it_f c3 hf
      refine v_aload_n (pc := 26) 0 dX11_laysBag_26 rfl ?_
      refine gf_RX11_63 (pc := 27) 0 rfl hk0 dX11_laysBag_27 ?_
      refine v_iload_n (pc := 30) 1 dX11_laysBag_30 rfl ?_
      refine v_aload_n (pc := 31) 0 dX11_laysBag_31 rfl ?_
      refine gf_RX11_33 (pc := 32) 0 rfl hk0 dX11_laysBag_32 ?_
      refine v_bipush (pc := 35) (13 : Int32) dX11_laysBag_35 cb_13 ?_
      refine v_iload_n (pc := 37) 2 dX11_laysBag_37 rfl ?_
      refine v_iadd (pc := 38) dX11_laysBag_38 ?_
      replace hf := gd_some hf; obtain ⟨g4, hf⟩ := hf
      refine al_X11_6 (pc := 39) _ 0 rfl hk0 rfl g4 dX11_laysBag_39 ?_
      replace hf := gd_some hf; obtain ⟨g5, hf⟩ := hf
      refine as_X11_28 (pc := 40) [_] _ 0 rfl hk0 rfl g5 rfl dX11_laysBag_40 ?_
      refine v_iinc (pc := 41) 1 (l1 + (1 : Int32)) [(1, _), (0, _), (2, _), (3, _)] dX11_laysBag_41 rfl (congrArg (fun z => _ + z) ci_1) (Nat.le_of_ble_eq_true rfl) rfl ?_
      refine v_iinc (pc := 44) 3 (l3 + (1 : Int32)) [(3, _), (1, _), (0, _), (2, _)] dX11_laysBag_44 rfl (congrArg (fun z => _ + z) ci_1) (Nat.le_of_ble_eq_true rfl) rfl ?_
      refine v_goto (pc := 47) 12 dX11_laysBag_47 (by decide) ?_
      exact V_sub [2, 1, 3, 0] rfl (hrec hf)
set_option maxRecDepth 20000 in
theorem wX11_laysBag_l4 {G : Wc} {Γ : Cx} {o : Nat}  (hk0 : kd o = 10) : ∀ (n : Nat) {l1 : Int32} {l2 : Int32} {S : Ob} {r : Int32 × Ob}, pX11_laysBag_l4   n l1 l2 S = some r → V cX11_laysBag RX11 2 81 4 G Γ [(o, r.2)] 56 [(0, .ref (wA G o 0)), (1, .int r.1)] [] → V cX11_laysBag RX11 2 81 4 G Γ [(o, S)] 4 [(0, .ref (wA G o 0)), (1, .int l1), (2, .int l2)] [] := by
  intro n
  induction n with
  | zero => intro l1 l2 S r hf hx; unfold pX11_laysBag_l4 at hf; cases hf
  | succ n ih =>
    intro l1 l2 S r hf hx
    have hrec : ∀ {l1 : Int32} {l2 : Int32} {S : Ob}, pX11_laysBag_l4   n l1 l2 S = some r → V cX11_laysBag RX11 2 81 4 G Γ [(o, S)] 4 [(0, .ref (wA G o 0)), (1, .int l1), (2, .int l2)] [] := fun h => ih h hx
    clear ih
    unfold pX11_laysBag_l4 at hf
    refine v_iload_n (pc := 4) 2 dX11_laysBag_4 rfl ?_
    refine v_bipush (pc := 5) (8 : Int32) dX11_laysBag_5 cb_8 ?_
    refine v_icmp_ge (pc := 7) 56 dX11_laysBag_7 (by decide) (fun c1 => ?_) (fun c1 => ?_)
    · replace hf := it_t c1 hf
      have hf2 := Option.some.inj hf; subst hf2
      exact V_sub [0, 1] rfl hx
    · replace hf := it_f c1 hf
      refine v_iconst (pc := 10) (0 : Int32) dX11_laysBag_10 ci_0 ?_
      refine v_istore_n (pc := 11) [(3, _), (0, _), (1, _), (2, _)] dX11_laysBag_11 (Nat.le_of_ble_eq_true rfl) rfl ?_
      replace hf := bd_some hf; obtain ⟨r6, h7, hf⟩ := hf
      refine V_sub [1, 2, 3, 0] rfl (wX11_laysBag_l12 hk0 fu h7 ?_)
      refine v_iinc (pc := 50) 2 (l2 + (1 : Int32)) [(2, _), (0, _), (1, _)] dX11_laysBag_50 rfl (congrArg (fun z => _ + z) ci_1) (Nat.le_of_ble_eq_true rfl) rfl ?_
      refine v_goto (pc := 53) 4 dX11_laysBag_53 (by decide) ?_
      exact V_sub [1, 2, 0] rfl (hrec hf)
set_option maxRecDepth 20000 in
theorem wX11_laysBag_l74 {G : Wc} {Γ : Cx} {o : Nat} {l1 : Int32} {l2 : Int32} (hk0 : kd o = 10) : ∀ (n : Nat) {l3 : Int32} {S : Ob} {r : Ob}, pX11_laysBag_l74  l1 l2 n l3 S = some r → V cX11_laysBag RX11 2 81 4 G Γ [(o, r)] 112 [(0, .ref (wA G o 0)), (1, .int l1), (2, .int l2)] [] → V cX11_laysBag RX11 2 81 4 G Γ [(o, S)] 74 [(0, .ref (wA G o 0)), (1, .int l1), (2, .int l2), (3, .int l3)] [] := by
  intro n
  induction n with
  | zero => intro l3 S r hf hx; unfold pX11_laysBag_l74 at hf; cases hf
  | succ n ih =>
    intro l3 S r hf hx
    have hrec : ∀ {l3 : Int32} {S : Ob}, pX11_laysBag_l74  l1 l2 n l3 S = some r → V cX11_laysBag RX11 2 81 4 G Γ [(o, S)] 74 [(0, .ref (wA G o 0)), (1, .int l1), (2, .int l2), (3, .int l3)] [] := fun h => ih h hx
    clear ih
    unfold pX11_laysBag_l74 at hf
    refine v_iload_n (pc := 74) 3 dX11_laysBag_74 rfl ?_
    refine v_iload_n (pc := 75) 1 dX11_laysBag_75 rfl ?_
    refine v_icmp_ge (pc := 76) 112 dX11_laysBag_76 (by decide) (fun c12 => ?_) (fun c12 => ?_)
    · replace hf := it_t c12 hf
      have hf2 := Option.some.inj hf; subst hf2
      exact V_sub [0, 1, 2] rfl hx
    · replace hf := it_f c12 hf
      refine v_aload_n (pc := 79) 0 dX11_laysBag_79 rfl ?_
      refine gf_RX11_60 (pc := 80) 0 rfl hk0 dX11_laysBag_80 ?_
      refine v_iload_n (pc := 83) 2 dX11_laysBag_83 rfl ?_
      refine v_dup2 (pc := 84) dX11_laysBag_84 rfl rfl ?_
      replace hf := gd_some hf; obtain ⟨g13, hf⟩ := hf
      refine al_X11_27 (pc := 85) _ 0 rfl hk0 rfl g13 dX11_laysBag_85 ?_
      refine v_iload_n (pc := 86) 2 dX11_laysBag_86 rfl ?_
      refine v_iload_n (pc := 87) 3 dX11_laysBag_87 rfl ?_
      replace hf := bd_some hf; obtain ⟨r14, h15, hf⟩ := hf
      refine V_callS (pc := 88) (us1 := [_]) [] (kX11_bitOf  h15) rfl rfl rfl rfl wm_RX11_333 md_X11_bitOf (Nat.le_of_ble_eq_true rfl) (Nat.le_of_ble_eq_true rfl) rfl rfl (Nat.le_of_ble_eq_true rfl) dX11_laysBag_88 ?_
      refine v_if_eq (pc := 91) 103 dX11_laysBag_91 (by decide) (fun c16 => ?_) (fun c16 => ?_)
      · replace hf := it_t c16 hf
        refine v_iconst (pc := 103) (0 : Int32) dX11_laysBag_103 ci_0 ?_
        refine v_iadd (pc := 104) dX11_laysBag_104 ?_
        replace hf := gd_some hf; obtain ⟨g17, hf⟩ := hf
        refine as_X11_27 (pc := 105) [_] _ 0 rfl hk0 rfl g17 rfl dX11_laysBag_105 ?_
        refine v_iinc (pc := 106) 3 (l3 + (1 : Int32)) [(3, _), (0, _), (1, _), (2, _)] dX11_laysBag_106 rfl (congrArg (fun z => _ + z) ci_1) (Nat.le_of_ble_eq_true rfl) rfl ?_
        refine v_goto (pc := 109) 74 dX11_laysBag_109 (by decide) ?_
        exact V_sub [1, 2, 3, 0] rfl (hrec hf)
      · replace hf := it_f c16 hf
        refine v_aload_n (pc := 94) 0 dX11_laysBag_94 rfl ?_
        refine gf_RX11_63 (pc := 95) 0 rfl hk0 dX11_laysBag_95 ?_
        refine v_iload_n (pc := 98) 3 dX11_laysBag_98 rfl ?_
        replace hf := gd_some hf; obtain ⟨g18, hf⟩ := hf
        refine al_X11_28 (pc := 99) _ 0 rfl hk0 rfl g18 dX11_laysBag_99 ?_
        refine v_goto (pc := 100) 104 dX11_laysBag_100 (by decide) ?_
        refine v_iadd (pc := 104) dX11_laysBag_104 ?_
        replace hf := gd_some hf; obtain ⟨g19, hf⟩ := hf
        refine as_X11_27 (pc := 105) [_] _ 0 rfl hk0 rfl g19 rfl dX11_laysBag_105 ?_
        refine v_iinc (pc := 106) 3 (l3 + (1 : Int32)) [(3, _), (0, _), (1, _), (2, _)] dX11_laysBag_106 rfl (congrArg (fun z => _ + z) ci_1) (Nat.le_of_ble_eq_true rfl) rfl ?_
        refine v_goto (pc := 109) 74 dX11_laysBag_109 (by decide) ?_
        exact V_sub [1, 2, 3, 0] rfl (hrec hf)
set_option maxRecDepth 20000 in
theorem wX11_laysBag_l58 {G : Wc} {Γ : Cx} {o : Nat} {l1 : Int32} (hk0 : kd o = 10) : ∀ (n : Nat) {l2 : Int32} {S : Ob} {r : Ob}, pX11_laysBag_l58  l1 n l2 S = some r → V cX11_laysBag RX11 2 81 4 G Γ [(o, r)] 118 [(1, .int l1)] [] → V cX11_laysBag RX11 2 81 4 G Γ [(o, S)] 58 [(0, .ref (wA G o 0)), (1, .int l1), (2, .int l2)] [] := by
  intro n
  induction n with
  | zero => intro l2 S r hf hx; unfold pX11_laysBag_l58 at hf; cases hf
  | succ n ih =>
    intro l2 S r hf hx
    have hrec : ∀ {l2 : Int32} {S : Ob}, pX11_laysBag_l58  l1 n l2 S = some r → V cX11_laysBag RX11 2 81 4 G Γ [(o, S)] 58 [(0, .ref (wA G o 0)), (1, .int l1), (2, .int l2)] [] := fun h => ih h hx
    clear ih
    unfold pX11_laysBag_l58 at hf
    refine v_iload_n (pc := 58) 2 dX11_laysBag_58 rfl ?_
    refine v_iconst (pc := 59) (1 : Int32) dX11_laysBag_59 ci_1 ?_
    refine v_iload_n (pc := 60) 1 dX11_laysBag_60 rfl ?_
    refine v_ishl (pc := 61) dX11_laysBag_61 ?_
    refine v_icmp_ge (pc := 62) 118 dX11_laysBag_62 (by decide) (fun c10 => ?_) (fun c10 => ?_)
    · replace hf := it_t c10 hf
      have hf2 := Option.some.inj hf; subst hf2
      exact V_sub [1] rfl hx
    · replace hf := it_f c10 hf
      refine v_aload_n (pc := 65) 0 dX11_laysBag_65 rfl ?_
      refine gf_RX11_60 (pc := 66) 0 rfl hk0 dX11_laysBag_66 ?_
      refine v_iload_n (pc := 69) 2 dX11_laysBag_69 rfl ?_
      refine v_iconst (pc := 70) (0 : Int32) dX11_laysBag_70 ci_0 ?_
      replace hf := gd_some hf; obtain ⟨g11, hf⟩ := hf
      refine as_X11_27 (pc := 71) [_] _ 0 rfl hk0 rfl g11 rfl dX11_laysBag_71 ?_
      refine v_iconst (pc := 72) (0 : Int32) dX11_laysBag_72 ci_0 ?_
      refine v_istore_n (pc := 73) [(3, _), (0, _), (1, _), (2, _)] dX11_laysBag_73 (Nat.le_of_ble_eq_true rfl) rfl ?_
      replace hf := bd_some hf; obtain ⟨r20, h21, hf⟩ := hf
      refine V_sub [1, 2, 3, 0] rfl (wX11_laysBag_l74 hk0 fu h21 ?_)
      refine v_iinc (pc := 112) 2 (l2 + (1 : Int32)) [(2, _), (0, _), (1, _)] dX11_laysBag_112 rfl (congrArg (fun z => _ + z) ci_1) (Nat.le_of_ble_eq_true rfl) rfl ?_
      refine v_goto (pc := 115) 58 dX11_laysBag_115 (by decide) ?_
      exact V_sub [1, 2, 0] rfl (hrec hf)
set_option maxRecDepth 20000 in
theorem kX11_laysBag {G : Wc} {o : Nat} {S : Ob}  {r : Int32 × Ob} (hk0 : kd o = 10) (hf : pX11_laysBag S   = some r) : Cn yX11_laysBag cX11_laysBag 4 (some .int) 2 81 G [.ref (wA G o 0)] [(o, S)] [(o, r.2)] (some (.int r.1)) := by
  refine V_method [(0, .ref (wA G o 0))] (by decide) rfl (Nat.le_of_ble_eq_true rfl) rfl (fun Γ hF => ?_)
  unfold pX11_laysBag at hf
  refine v_iconst (pc := 0) (0 : Int32) dX11_laysBag_0 ci_0 ?_
  refine v_istore_n (pc := 1) [(1, _), (0, _)] dX11_laysBag_1 (Nat.le_of_ble_eq_true rfl) rfl ?_
  refine v_iconst (pc := 2) (0 : Int32) dX11_laysBag_2 ci_0 ?_
  refine v_istore_n (pc := 3) [(2, _), (1, _), (0, _)] dX11_laysBag_3 (Nat.le_of_ble_eq_true rfl) rfl ?_
  replace hf := bd_some hf; obtain ⟨r8, h9, hf⟩ := hf
  refine V_sub [2, 1, 0] rfl (wX11_laysBag_l4 hk0 fu h9 ?_)
  refine v_iconst (pc := 56) (0 : Int32) dX11_laysBag_56 ci_0 ?_
  refine v_istore_n (pc := 57) [(2, _), (0, _), (1, _)] dX11_laysBag_57 (Nat.le_of_ble_eq_true rfl) rfl ?_
  replace hf := bd_some hf; obtain ⟨r22, h23, hf⟩ := hf
  refine V_sub [1, 2, 0] rfl (wX11_laysBag_l58 hk0 fu h23 ?_)
  refine v_iload_n (pc := 118) 0 dX11_laysBag_118 rfl ?_
  have hf2 := Option.some.inj hf; subst hf2
  exact V_iret (pc := 119) hF dX11_laysBag_119
