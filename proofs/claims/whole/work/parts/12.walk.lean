set_option maxRecDepth 20000 in
theorem wX6_knotBelow_l12 {G : Wc} {Γ : Cx} {o : Nat} {S : Ob} {l1 : Int32} {l2 : Int32} {l4 : Int32} (hk0 : kd o = 6) : ∀ (n : Nat) {l3 : Int32} {r : Int32}, pX6_knotBelow_l12 S l1 l2 l4 n l3 = some r → V cX6_knotBelow RX6 1 60 5 G Γ [(o, S)] 52 [(3, .int r)] [] → V cX6_knotBelow RX6 1 60 5 G Γ [(o, S)] 12 [(0, .ref (wA G o 0)), (1, .int l1), (2, .int l2), (3, .int l3), (4, .int l4)] [] := by
  intro n
  induction n with
  | zero => intro l3 r hf hx; unfold pX6_knotBelow_l12 at hf; cases hf
  | succ n ih =>
    intro l3 r hf hx
    have hrec : ∀ {l3 : Int32}, pX6_knotBelow_l12 S l1 l2 l4 n l3 = some r → V cX6_knotBelow RX6 1 60 5 G Γ [(o, S)] 12 [(0, .ref (wA G o 0)), (1, .int l1), (2, .int l2), (3, .int l3), (4, .int l4)] [] := fun h => ih h hx
    clear ih
    unfold pX6_knotBelow_l12 at hf
    refine v_iload_n (pc := 12) 3 dX6_knotBelow_12 rfl ?_
    refine v_iload_n (pc := 13) 2 dX6_knotBelow_13 rfl ?_
    refine v_icmp_ge (pc := 14) 52 dX6_knotBelow_14 (by decide) (fun c1 => ?_) (fun c1 => ?_)
    · replace hf := it_t c1 hf
      cases hf
      exact V_sub [3] rfl hx
    · replace hf := it_f c1 hf
      refine v_iload_n (pc := 17) 2 dX6_knotBelow_17 rfl ?_
      refine v_aload_n (pc := 18) 0 dX6_knotBelow_18 rfl ?_
      refine gf_RX6_15 (pc := 19) 0 rfl hk0 dX6_knotBelow_19 ?_
      refine v_iload_n (pc := 22) 1 dX6_knotBelow_22 rfl ?_
      replace hf := gd_some hf; obtain ⟨g2, hf⟩ := hf
      refine al_X6_1 (pc := 23) _ 0 rfl hk0 rfl g2 dX6_knotBelow_23 ?_
      refine v_icmp_gt (pc := 24) 52 dX6_knotBelow_24 (by decide) (fun c3 => ?_) (fun c3 => ?_)
      · replace hf := it_t c3 hf
        cases hf
        exact V_sub [3] rfl hx
      · replace hf := it_f c3 hf
        refine v_aload_n (pc := 27) 0 dX6_knotBelow_27 rfl ?_
        refine gf_RX6_9 (pc := 28) 0 rfl hk0 dX6_knotBelow_28 ?_
        refine v_iload (pc := 31) 4 dX6_knotBelow_31 rfl ?_
        refine v_iload_n (pc := 33) 3 dX6_knotBelow_33 rfl ?_
        refine v_isub (pc := 34) dX6_knotBelow_34 ?_
        replace hf := gd_some hf; obtain ⟨g4, hf⟩ := hf
        refine al_X6_0 (pc := 35) _ 0 rfl hk0 rfl g4 dX6_knotBelow_35 ?_
        refine v_aload_n (pc := 36) 0 dX6_knotBelow_36 rfl ?_
        refine gf_RX6_9 (pc := 37) 0 rfl hk0 dX6_knotBelow_37 ?_
        refine v_iload (pc := 40) 4 dX6_knotBelow_40 rfl ?_
        replace hf := gd_some hf; obtain ⟨g5, hf⟩ := hf
        refine al_X6_0 (pc := 42) _ 0 rfl hk0 rfl g5 dX6_knotBelow_42 ?_
        refine v_icmp_ne (pc := 43) 52 dX6_knotBelow_43 (by decide) (fun c6 => ?_) (fun c6 => ?_)
        · replace hf := it_f c6 hf
          cases hf
          exact V_sub [3] rfl hx
        · replace hf := it_t c6 hf
          refine v_iinc (pc := 46) 3 (l3 + (1 : Int32)) [(3, _), (0, _), (1, _), (2, _), (4, _)] dX6_knotBelow_46 rfl (congrArg (fun z => _ + z) ci_1) (Nat.le_of_ble_eq_true rfl) rfl ?_
          refine v_goto (pc := 49) 12 dX6_knotBelow_49 (by decide) ?_
          exact V_sub [1, 2, 3, 0, 4] rfl (hrec hf)
set_option maxRecDepth 20000 in
theorem kX6_knotBelow {G : Wc} {o : Nat} {S : Ob} {a : Int32} {b : Int32} {r : Int32} (hk0 : kd o = 6) (hf : pX6_knotBelow S  a b = some r) : Cn yX6_knotBelow cX6_knotBelow 5 (some .int) 1 60 G [.ref (wA G o 0), .int a, .int b] [(o, S)] [(o, S)] (some (.int r)) := by
  refine V_method [(0, .ref (wA G o 0)), (1, .int a), (2, .int b)] (by decide) rfl (Nat.le_of_ble_eq_true rfl) rfl (fun Γ hF => ?_)
  unfold pX6_knotBelow at hf
  refine v_iconst (pc := 0) (0 : Int32) dX6_knotBelow_0 ci_0 ?_
  refine v_istore_n (pc := 1) [(3, _), (0, _), (1, _), (2, _)] dX6_knotBelow_1 (Nat.le_of_ble_eq_true rfl) rfl ?_
  refine v_iload_n (pc := 2) 2 dX6_knotBelow_2 rfl ?_
  refine v_bipush (pc := 3) (8 : Int32) dX6_knotBelow_3 cb_8 ?_
  refine v_imul (pc := 5) dX6_knotBelow_5 ?_
  refine v_iload_n (pc := 6) 3 dX6_knotBelow_6 rfl ?_
  refine v_iadd (pc := 7) dX6_knotBelow_7 ?_
  refine v_iconst (pc := 8) (1 : Int32) dX6_knotBelow_8 ci_1 ?_
  refine v_isub (pc := 9) dX6_knotBelow_9 ?_
  refine v_istore (pc := 10) [(4, _), (3, _), (0, _), (1, _), (2, _)] dX6_knotBelow_10 (Nat.le_of_ble_eq_true rfl) rfl ?_
  replace hf := bd_some hf; obtain ⟨r7, h8, hf⟩ := hf
  refine V_sub [2, 3, 4, 1, 0] rfl (wX6_knotBelow_l12 hk0 fu h8 ?_)
  refine v_iload_n (pc := 52) 0 dX6_knotBelow_52 rfl ?_
  cases hf
  exact V_iret (pc := 53) hF dX6_knotBelow_53
set_option maxRecDepth 20000 in
theorem kX6_layerAt {G : Wc} {o : Nat} {S : Ob} {a : Int32} {b : Int32} {r : Int32} (hk0 : kd o = 6) (hf : pX6_layerAt S  a b = some r) : Cn yX6_layerAt cX6_layerAt 3 (some .int) 1 60 G [.ref (wA G o 0), .int a, .int b] [(o, S)] [(o, S)] (some (.int r)) := by
  refine V_method [(0, .ref (wA G o 0)), (1, .int a), (2, .int b)] (by decide) rfl (Nat.le_of_ble_eq_true rfl) rfl (fun Γ hF => ?_)
  unfold pX6_layerAt at hf
  refine v_iload_n (pc := 0) 2 dX6_layerAt_0 rfl ?_
  refine v_if_lt (pc := 1) 14 dX6_layerAt_1 (by decide) (fun c1 => ?_) (fun c1 => ?_)
  · replace hf := it_t c1 hf
    refine v_iconst (pc := 14) (-1 : Int32) dX6_layerAt_14 ci_m1 ?_
    refine v_goto (pc := 15) 29 dX6_layerAt_15 (by decide) ?_
    cases hf
    exact V_iret (pc := 29) hF dX6_layerAt_29
  · replace hf := it_f c1 hf
    refine v_iload_n (pc := 4) 2 dX6_layerAt_4 rfl ?_
    refine v_aload_n (pc := 5) 0 dX6_layerAt_5 rfl ?_
    refine gf_RX6_15 (pc := 6) 0 rfl hk0 dX6_layerAt_6 ?_
    refine v_iload_n (pc := 9) 1 dX6_layerAt_9 rfl ?_
    replace hf := gd_some hf; obtain ⟨g2, hf⟩ := hf
    refine al_X6_1 (pc := 10) _ 0 rfl hk0 rfl g2 dX6_layerAt_10 ?_
    refine v_icmp_lt (pc := 11) 18 dX6_layerAt_11 (by decide) (fun c3 => ?_) (fun c3 => ?_)
    · replace hf := it_t c3 hf
      refine v_aload_n (pc := 18) 0 dX6_layerAt_18 rfl ?_
      refine gf_RX6_9 (pc := 19) 0 rfl hk0 dX6_layerAt_19 ?_
      refine v_iload_n (pc := 22) 1 dX6_layerAt_22 rfl ?_
      refine v_bipush (pc := 23) (8 : Int32) dX6_layerAt_23 cb_8 ?_
      refine v_imul (pc := 25) dX6_layerAt_25 ?_
      refine v_iload_n (pc := 26) 2 dX6_layerAt_26 rfl ?_
      refine v_iadd (pc := 27) dX6_layerAt_27 ?_
      replace hf := gd_some hf; obtain ⟨g4, hf⟩ := hf
      refine al_X6_0 (pc := 28) _ 0 rfl hk0 rfl g4 dX6_layerAt_28 ?_
      cases hf
      exact V_iret (pc := 29) hF dX6_layerAt_29
    · replace hf := it_f c3 hf
      refine v_iconst (pc := 14) (-1 : Int32) dX6_layerAt_14 ci_m1 ?_
      refine v_goto (pc := 15) 29 dX6_layerAt_15 (by decide) ?_
      cases hf
      exact V_iret (pc := 29) hF dX6_layerAt_29
set_option maxRecDepth 20000 in
theorem kX6_holdAt {G : Wc} {o oa : Nat} {S : Ob} {Sa : Ob} {b : Int32} {c : Int32} {r : Int32} (hk0 : kd o = 6) (hk1 : kd oa = 4) (hf : pX6_holdAt S Sa  b c = some r) : Cn yX6_holdAt cX6_holdAt 5 (some .int) 2 82 G [.ref (wA G o 0), .ref (wA G oa 0), .int b, .int c] [(o, S), (oa, Sa)] [(o, S), (oa, Sa)] (some (.int r)) := by
  refine V_method [(0, .ref (wA G o 0)), (1, .ref (wA G oa 0)), (2, .int b), (3, .int c)] (by decide) rfl (Nat.le_of_ble_eq_true rfl) rfl (fun Γ hF => ?_)
  unfold pX6_holdAt at hf
  refine v_aload_n (pc := 0) 0 dX6_holdAt_0 rfl ?_
  refine v_iload_n (pc := 1) 2 dX6_holdAt_1 rfl ?_
  refine v_iload_n (pc := 2) 3 dX6_holdAt_2 rfl ?_
  replace hf := bd_some hf; obtain ⟨r1, h2, hf⟩ := hf
  refine V_call (pc := 3) (us1 := [_, _]) [0] 0 (kX6_layerAt hk0 h2) rfl rfl rfl rfl rfl hk0 (Nat.le_of_ble_eq_true rfl) rfl rfl rfl wm_RX6_55 md_X6_layerAt (Nat.le_of_ble_eq_true rfl) (Nat.le_of_ble_eq_true rfl) rfl rfl (Nat.le_of_ble_eq_true rfl) dX6_holdAt_3 ?_
  refine v_istore (pc := 6) [(4, _), (0, _), (1, _), (2, _), (3, _)] dX6_holdAt_6 (Nat.le_of_ble_eq_true rfl) rfl ?_
  refine v_iload (pc := 8) 0 dX6_holdAt_8 rfl ?_
  refine v_if_lt (pc := 10) 20 dX6_holdAt_10 (by decide) (fun c3 => ?_) (fun c3 => ?_)
  · replace hf := it_t c3 hf
    refine v_iconst (pc := 20) (0 : Int32) dX6_holdAt_20 ci_0 ?_
    refine v_goto (pc := 21) 31 dX6_holdAt_21 (by decide) ?_
    cases hf
    exact V_iret (pc := 31) hF dX6_holdAt_31
  · replace hf := it_f c3 hf
    refine v_iload (pc := 13) 0 dX6_holdAt_13 rfl ?_
    refine v_bipush (pc := 15) (8 : Int32) dX6_holdAt_15 cb_8 ?_
    refine v_icmp_lt (pc := 17) 24 dX6_holdAt_17 (by decide) (fun c4 => ?_) (fun c4 => ?_)
    · replace hf := it_t c4 hf
      refine v_aload_n (pc := 24) 2 dX6_holdAt_24 rfl ?_
      refine gf_RX6_59 (pc := 25) 1 rfl hk1 dX6_holdAt_25 ?_
      refine v_iload (pc := 28) 0 dX6_holdAt_28 rfl ?_
      replace hf := gd_some hf; obtain ⟨g5, hf⟩ := hf
      refine al_X4_2 (pc := 30) _ 1 rfl hk1 rfl g5 dX6_holdAt_30 ?_
      cases hf
      exact V_iret (pc := 31) hF dX6_holdAt_31
    · replace hf := it_f c4 hf
      refine v_iconst (pc := 20) (0 : Int32) dX6_holdAt_20 ci_0 ?_
      refine v_goto (pc := 21) 31 dX6_holdAt_21 (by decide) ?_
      cases hf
      exact V_iret (pc := 31) hF dX6_holdAt_31
set_option maxRecDepth 20000 in
theorem kX6_outsideHolds {G : Wc} {o oa : Nat} {S : Ob} {Sa : Ob} {b : Int32} {r : Int32} (hk0 : kd o = 6) (hk1 : kd oa = 4) (hf : pX6_outsideHolds S Sa  b = some r) : Cn yX6_outsideHolds cX6_outsideHolds 3 (some .int) 3 106 G [.ref (wA G o 0), .ref (wA G oa 0), .int b] [(o, S), (oa, Sa)] [(o, S), (oa, Sa)] (some (.int r)) := by
  refine V_method [(0, .ref (wA G o 0)), (1, .ref (wA G oa 0)), (2, .int b)] (by decide) rfl (Nat.le_of_ble_eq_true rfl) rfl (fun Γ hF => ?_)
  unfold pX6_outsideHolds at hf
  refine v_aload_n (pc := 0) 0 dX6_outsideHolds_0 rfl ?_
  refine v_iload_n (pc := 1) 2 dX6_outsideHolds_1 rfl ?_
  refine v_aload_n (pc := 2) 0 dX6_outsideHolds_2 rfl ?_
  refine gf_RX6_15 (pc := 3) 0 rfl hk0 dX6_outsideHolds_3 ?_
  refine v_iload_n (pc := 6) 2 dX6_outsideHolds_6 rfl ?_
  replace hf := gd_some hf; obtain ⟨g1, hf⟩ := hf
  refine al_X6_1 (pc := 7) _ 0 rfl hk0 rfl g1 dX6_outsideHolds_7 ?_
  replace hf := bd_some hf; obtain ⟨r2, h3, hf⟩ := hf
  refine V_call (pc := 8) (us1 := [_, _]) [0] 0 (kX6_knotBelow hk0 h3) rfl rfl rfl rfl rfl hk0 (Nat.le_of_ble_eq_true rfl) rfl rfl rfl wm_RX6_64 md_X6_knotBelow (Nat.le_of_ble_eq_true rfl) (Nat.le_of_ble_eq_true rfl) rfl rfl (Nat.le_of_ble_eq_true rfl) dX6_outsideHolds_8 ?_
  refine v_aload_n (pc := 11) 0 dX6_outsideHolds_11 rfl ?_
  refine v_aload_n (pc := 12) 1 dX6_outsideHolds_12 rfl ?_
  refine v_iload_n (pc := 13) 2 dX6_outsideHolds_13 rfl ?_
  refine v_aload_n (pc := 14) 0 dX6_outsideHolds_14 rfl ?_
  refine gf_RX6_15 (pc := 15) 0 rfl hk0 dX6_outsideHolds_15 ?_
  refine v_iload_n (pc := 18) 2 dX6_outsideHolds_18 rfl ?_
  replace hf := gd_some hf; obtain ⟨g4, hf⟩ := hf
  refine al_X6_1 (pc := 19) _ 0 rfl hk0 rfl g4 dX6_outsideHolds_19 ?_
  refine v_iconst (pc := 20) (1 : Int32) dX6_outsideHolds_20 ci_1 ?_
  refine v_isub (pc := 21) dX6_outsideHolds_21 ?_
  replace hf := bd_some hf; obtain ⟨r5, h6, hf⟩ := hf
  refine V_call (pc := 22) (us1 := [_, _]) [0, 1] 0 (kX6_holdAt hk0 hk1 h6) rfl rfl rfl rfl rfl hk0 (Nat.le_of_ble_eq_true rfl) rfl rfl rfl wm_RX6_67 md_X6_holdAt (Nat.le_of_ble_eq_true rfl) (Nat.le_of_ble_eq_true rfl) rfl rfl (Nat.le_of_ble_eq_true rfl) dX6_outsideHolds_22 ?_
  refine v_imul (pc := 25) dX6_outsideHolds_25 ?_
  cases hf
  exact V_iret (pc := 26) hF dX6_outsideHolds_26
set_option maxRecDepth 20000 in
theorem kX6_layerFromOutside {G : Wc} {o : Nat} {S : Ob} {a : Int32} {b : Int32} {r : Int32} (hk0 : kd o = 6) (hf : pX6_layerFromOutside S  a b = some r) : Cn yX6_layerFromOutside cX6_layerFromOutside 3 (some .int) 2 82 G [.ref (wA G o 0), .int a, .int b] [(o, S)] [(o, S)] (some (.int r)) := by
  refine V_method [(0, .ref (wA G o 0)), (1, .int a), (2, .int b)] (by decide) rfl (Nat.le_of_ble_eq_true rfl) rfl (fun Γ hF => ?_)
  unfold pX6_layerFromOutside at hf
  refine v_aload_n (pc := 0) 0 dX6_layerFromOutside_0 rfl ?_
  refine v_iload_n (pc := 1) 1 dX6_layerFromOutside_1 rfl ?_
  refine v_aload_n (pc := 2) 0 dX6_layerFromOutside_2 rfl ?_
  refine gf_RX6_15 (pc := 3) 0 rfl hk0 dX6_layerFromOutside_3 ?_
  refine v_iload_n (pc := 6) 1 dX6_layerFromOutside_6 rfl ?_
  replace hf := gd_some hf; obtain ⟨g1, hf⟩ := hf
  refine al_X6_1 (pc := 7) _ 0 rfl hk0 rfl g1 dX6_layerFromOutside_7 ?_
  refine v_iconst (pc := 8) (1 : Int32) dX6_layerFromOutside_8 ci_1 ?_
  refine v_isub (pc := 9) dX6_layerFromOutside_9 ?_
  refine v_iload_n (pc := 10) 2 dX6_layerFromOutside_10 rfl ?_
  refine v_isub (pc := 11) dX6_layerFromOutside_11 ?_
  replace hf := bd_some hf; obtain ⟨r2, h3, hf⟩ := hf
  refine V_call (pc := 12) (us1 := [_]) [0] 0 (kX6_layerAt hk0 h3) rfl rfl rfl rfl rfl hk0 (Nat.le_of_ble_eq_true rfl) rfl rfl rfl wm_RX6_55 md_X6_layerAt (Nat.le_of_ble_eq_true rfl) (Nat.le_of_ble_eq_true rfl) rfl rfl (Nat.le_of_ble_eq_true rfl) dX6_layerFromOutside_12 ?_
  cases hf
  exact V_iret (pc := 15) hF dX6_layerFromOutside_15
set_option maxRecDepth 20000 in
theorem kX6_putOutsideKnotIntoBag {G : Wc} {o : Nat} {S : Ob} {a : Int32} {r : Ob} (hk0 : kd o = 6) (hf : pX6_putOutsideKnotIntoBag S  a = some r) : Cn yX6_putOutsideKnotIntoBag cX6_putOutsideKnotIntoBag 5 (none) 3 104 G [.ref (wA G o 0), .int a] [(o, S)] [(o, r)] none := by
  refine V_method [(0, .ref (wA G o 0)), (1, .int a)] (by decide) rfl (Nat.le_of_ble_eq_true rfl) rfl (fun Γ hF => ?_)
  unfold pX6_putOutsideKnotIntoBag at hf
  refine v_aload_n (pc := 0) 0 dX6_putOutsideKnotIntoBag_0 rfl ?_
  refine v_iload_n (pc := 1) 1 dX6_putOutsideKnotIntoBag_1 rfl ?_
  refine v_aload_n (pc := 2) 0 dX6_putOutsideKnotIntoBag_2 rfl ?_
  refine gf_RX6_15 (pc := 3) 0 rfl hk0 dX6_putOutsideKnotIntoBag_3 ?_
  refine v_iload_n (pc := 6) 1 dX6_putOutsideKnotIntoBag_6 rfl ?_
  replace hf := gd_some hf; obtain ⟨g1, hf⟩ := hf
  refine al_X6_1 (pc := 7) _ 0 rfl hk0 rfl g1 dX6_putOutsideKnotIntoBag_7 ?_
  replace hf := bd_some hf; obtain ⟨r2, h3, hf⟩ := hf
  refine V_call (pc := 8) (us1 := [_]) [0] 0 (kX6_knotBelow hk0 h3) rfl rfl rfl rfl rfl hk0 (Nat.le_of_ble_eq_true rfl) rfl rfl rfl wm_RX6_64 md_X6_knotBelow (Nat.le_of_ble_eq_true rfl) (Nat.le_of_ble_eq_true rfl) rfl rfl (Nat.le_of_ble_eq_true rfl) dX6_putOutsideKnotIntoBag_8 ?_
  refine v_istore_n (pc := 11) [(2, _), (0, _), (1, _)] dX6_putOutsideKnotIntoBag_11 (Nat.le_of_ble_eq_true rfl) rfl ?_
  refine v_aload_n (pc := 12) 1 dX6_putOutsideKnotIntoBag_12 rfl ?_
  refine v_iload_n (pc := 13) 2 dX6_putOutsideKnotIntoBag_13 rfl ?_
  refine v_iconst (pc := 14) (0 : Int32) dX6_putOutsideKnotIntoBag_14 ci_0 ?_
  replace hf := bd_some hf; obtain ⟨r4, h5, hf⟩ := hf
  refine V_call (pc := 15) (us1 := [_]) [0] 0 (kX6_layerFromOutside hk0 h5) rfl rfl rfl rfl rfl hk0 (Nat.le_of_ble_eq_true rfl) rfl rfl rfl wm_RX6_106 md_X6_layerFromOutside (Nat.le_of_ble_eq_true rfl) (Nat.le_of_ble_eq_true rfl) rfl rfl (Nat.le_of_ble_eq_true rfl) dX6_putOutsideKnotIntoBag_15 ?_
  refine v_istore_n (pc := 18) [(3, _), (2, _), (0, _), (1, _)] dX6_putOutsideKnotIntoBag_18 (Nat.le_of_ble_eq_true rfl) rfl ?_
  refine v_iload_n (pc := 19) 0 dX6_putOutsideKnotIntoBag_19 rfl ?_
  refine v_if_lt (pc := 20) 29 dX6_putOutsideKnotIntoBag_20 (by decide) (fun c6 => ?_) (fun c6 => ?_)
  · replace hf := it_t c6 hf
    cases hf
    exact V_vret (pc := 29) hF dX6_putOutsideKnotIntoBag_29
  · replace hf := it_f c6 hf
    refine v_iload_n (pc := 23) 0 dX6_putOutsideKnotIntoBag_23 rfl ?_
    refine v_bipush (pc := 24) (8 : Int32) dX6_putOutsideKnotIntoBag_24 cb_8 ?_
    refine v_icmp_lt (pc := 26) 30 dX6_putOutsideKnotIntoBag_26 (by decide) (fun c7 => ?_) (fun c7 => ?_)
    · replace hf := it_t c7 hf
      refine v_iload_n (pc := 30) 1 dX6_putOutsideKnotIntoBag_30 rfl ?_
      refine v_bipush (pc := 31) (10 : Int32) dX6_putOutsideKnotIntoBag_31 cb_10 ?_
      refine v_aload_n (pc := 33) 2 dX6_putOutsideKnotIntoBag_33 rfl ?_
      refine gf_RX6_33 (pc := 34) 0 rfl hk0 dX6_putOutsideKnotIntoBag_34 ?_
      refine v_isub (pc := 37) dX6_putOutsideKnotIntoBag_37 ?_
      refine v_mmin (pc := 38) wm_RX6_109 (Nat.le_of_ble_eq_true rfl) (Nat.le_of_ble_eq_true rfl) (Nat.le_of_ble_eq_true rfl) dX6_putOutsideKnotIntoBag_38 ?_
      refine v_istore (pc := 41) [(4, _), (3, _), (2, _), (0, _), (1, _)] dX6_putOutsideKnotIntoBag_41 (Nat.le_of_ble_eq_true rfl) rfl ?_
      refine v_aload_n (pc := 43) 3 dX6_putOutsideKnotIntoBag_43 rfl ?_
      refine gf_RX6_21 (pc := 44) 0 rfl hk0 dX6_putOutsideKnotIntoBag_44 ?_
      refine v_iload_n (pc := 47) 1 dX6_putOutsideKnotIntoBag_47 rfl ?_
      refine v_dup2 (pc := 48) dX6_putOutsideKnotIntoBag_48 rfl rfl ?_
      replace hf := gd_some hf; obtain ⟨g8, hf⟩ := hf
      refine al_X6_3 (pc := 49) _ 0 rfl hk0 rfl g8 dX6_putOutsideKnotIntoBag_49 ?_
      refine v_iload (pc := 50) 0 dX6_putOutsideKnotIntoBag_50 rfl ?_
      refine v_iadd (pc := 52) dX6_putOutsideKnotIntoBag_52 ?_
      replace hf := gd_some hf; obtain ⟨g9, hf⟩ := hf
      refine as_X6_3 (pc := 53) [_] _ 0 rfl hk0 rfl g9 rfl dX6_putOutsideKnotIntoBag_53 ?_
      refine v_aload_n (pc := 54) 3 dX6_putOutsideKnotIntoBag_54 rfl ?_
      refine v_dup (pc := 55) dX6_putOutsideKnotIntoBag_55 rfl ?_
      refine gf_RX6_33 (pc := 56) 0 rfl hk0 dX6_putOutsideKnotIntoBag_56 ?_
      refine v_iload (pc := 59) 0 dX6_putOutsideKnotIntoBag_59 rfl ?_
      refine v_iadd (pc := 61) dX6_putOutsideKnotIntoBag_61 ?_
      refine pf_RX6_33 (pc := 62) [_] 0 rfl hk0 rfl dX6_putOutsideKnotIntoBag_62 ?_
      refine v_aload_n (pc := 65) 3 dX6_putOutsideKnotIntoBag_65 rfl ?_
      refine v_dup (pc := 66) dX6_putOutsideKnotIntoBag_66 rfl ?_
      refine gf_RX6_46 (pc := 67) 0 rfl hk0 dX6_putOutsideKnotIntoBag_67 ?_
      refine v_iload_n (pc := 70) 2 dX6_putOutsideKnotIntoBag_70 rfl ?_
      refine v_iload (pc := 71) 0 dX6_putOutsideKnotIntoBag_71 rfl ?_
      refine v_isub (pc := 73) dX6_putOutsideKnotIntoBag_73 ?_
      refine v_iadd (pc := 74) dX6_putOutsideKnotIntoBag_74 ?_
      refine pf_RX6_46 (pc := 75) [_] 0 rfl hk0 rfl dX6_putOutsideKnotIntoBag_75 ?_
      refine v_aload_n (pc := 78) 3 dX6_putOutsideKnotIntoBag_78 rfl ?_
      refine gf_RX6_15 (pc := 79) 0 rfl hk0 dX6_putOutsideKnotIntoBag_79 ?_
      refine v_iload_n (pc := 82) 4 dX6_putOutsideKnotIntoBag_82 rfl ?_
      refine v_dup2 (pc := 83) dX6_putOutsideKnotIntoBag_83 rfl rfl ?_
      replace hf := gd_some hf; obtain ⟨g10, hf⟩ := hf
      refine al_X6_1 (pc := 84) _ 0 rfl hk0 rfl g10 dX6_putOutsideKnotIntoBag_84 ?_
      refine v_iload_n (pc := 85) 2 dX6_putOutsideKnotIntoBag_85 rfl ?_
      refine v_isub (pc := 86) dX6_putOutsideKnotIntoBag_86 ?_
      replace hf := gd_some hf; obtain ⟨g11, hf⟩ := hf
      refine as_X6_1 (pc := 87) [_] _ 0 rfl hk0 rfl g11 rfl dX6_putOutsideKnotIntoBag_87 ?_
      cases hf
      exact V_vret (pc := 88) hF dX6_putOutsideKnotIntoBag_88
    · replace hf := it_f c7 hf
      cases hf
      exact V_vret (pc := 29) hF dX6_putOutsideKnotIntoBag_29
set_option maxRecDepth 20000 in
theorem wX6_comb_l6 {G : Wc} {Γ : Cx} {o oa : Nat} {Sa : Ob} {l2 : Int32} {l3 : Int32} (hk0 : kd o = 6) (hk1 : kd oa = 4) : ∀ (n : Nat) {l4 : Int32} {l5 : Int32} {S : Ob} {r : Ob}, pX6_comb_l6 Sa l2 l3 n l4 l5 S = some r → V cX6_comb RX6 4 128 6 G Γ [(o, r), (oa, Sa)] 55 [(0, .ref (wA G o 0)), (2, .int l2), (3, .int l3)] [] → V cX6_comb RX6 4 128 6 G Γ [(o, S), (oa, Sa)] 6 [(0, .ref (wA G o 0)), (1, .ref (wA G oa 0)), (2, .int l2), (3, .int l3), (4, .int l4), (5, .int l5)] [] := by
  intro n
  induction n with
  | zero => intro l4 l5 S r hf hx; unfold pX6_comb_l6 at hf; cases hf
  | succ n ih =>
    intro l4 l5 S r hf hx
    have hrec : ∀ {l4 : Int32} {l5 : Int32} {S : Ob}, pX6_comb_l6 Sa l2 l3 n l4 l5 S = some r → V cX6_comb RX6 4 128 6 G Γ [(o, S), (oa, Sa)] 6 [(0, .ref (wA G o 0)), (1, .ref (wA G oa 0)), (2, .int l2), (3, .int l3), (4, .int l4), (5, .int l5)] [] := fun h => ih h hx
    clear ih
    unfold pX6_comb_l6 at hf
    refine v_iload (pc := 6) 5 dX6_comb_6 rfl ?_
    refine v_bipush (pc := 8) (8 : Int32) dX6_comb_8 cb_8 ?_
    refine v_icmp_ge (pc := 10) 55 dX6_comb_10 (by decide) (fun c1 => ?_) (fun c1 => ?_)
    · replace hf := it_t c1 hf
      cases hf
      exact V_sub [0, 2, 3] rfl hx
    · replace hf := it_f c1 hf
      refine v_aload_n (pc := 13) 0 dX6_comb_13 rfl ?_
      refine gf_RX6_15 (pc := 14) 0 rfl hk0 dX6_comb_14 ?_
      refine v_iload_n (pc := 17) 2 dX6_comb_17 rfl ?_
      replace hf := gd_some hf; obtain ⟨g2, hf⟩ := hf
      refine al_X6_1 (pc := 18) _ 0 rfl hk0 rfl g2 dX6_comb_18 ?_
      refine v_if_le (pc := 19) 55 dX6_comb_19 (by decide) (fun c3 => ?_) (fun c3 => ?_)
      · replace hf := it_t c3 hf
        cases hf
        exact V_sub [0, 2, 3] rfl hx
      · replace hf := it_f c3 hf
        refine v_aload_n (pc := 22) 0 dX6_comb_22 rfl ?_
        refine v_aload_n (pc := 23) 1 dX6_comb_23 rfl ?_
        refine v_iload_n (pc := 24) 2 dX6_comb_24 rfl ?_
        replace hf := bd_some hf; obtain ⟨r4, h5, hf⟩ := hf
        refine V_call (pc := 25) (us1 := [_, _]) [0, 1] 0 (kX6_outsideHolds hk0 hk1 h5) rfl rfl rfl rfl rfl hk0 (Nat.le_of_ble_eq_true rfl) rfl rfl rfl wm_RX6_92 md_X6_outsideHolds (Nat.le_of_ble_eq_true rfl) (Nat.le_of_ble_eq_true rfl) rfl rfl (Nat.le_of_ble_eq_true rfl) dX6_comb_25 ?_
        refine v_iload (pc := 28) 4 dX6_comb_28 rfl ?_
        refine v_icmp_gt (pc := 30) 55 dX6_comb_30 (by decide) (fun c6 => ?_) (fun c6 => ?_)
        · replace hf := it_t c6 hf
          cases hf
          exact V_sub [0, 2, 3] rfl hx
        · replace hf := it_f c6 hf
          refine v_iload (pc := 33) 4 dX6_comb_33 rfl ?_
          refine v_aload_n (pc := 35) 0 dX6_comb_35 rfl ?_
          refine v_aload_n (pc := 36) 1 dX6_comb_36 rfl ?_
          refine v_iload_n (pc := 37) 2 dX6_comb_37 rfl ?_
          replace hf := bd_some hf; obtain ⟨r7, h8, hf⟩ := hf
          refine V_call (pc := 38) (us1 := [_, _]) [0, 1] 0 (kX6_outsideHolds hk0 hk1 h8) rfl rfl rfl rfl rfl hk0 (Nat.le_of_ble_eq_true rfl) rfl rfl rfl wm_RX6_92 md_X6_outsideHolds (Nat.le_of_ble_eq_true rfl) (Nat.le_of_ble_eq_true rfl) rfl rfl (Nat.le_of_ble_eq_true rfl) dX6_comb_38 ?_
          refine v_isub (pc := 41) dX6_comb_41 ?_
          refine v_istore (pc := 42) [(4, _), (0, _), (1, _), (2, _), (3, _), (5, _)] dX6_comb_42 (Nat.le_of_ble_eq_true rfl) rfl ?_
          refine v_aload_n (pc := 44) 1 dX6_comb_44 rfl ?_
          refine v_iload_n (pc := 45) 3 dX6_comb_45 rfl ?_
          replace hf := bd_some hf; obtain ⟨r9, h10, hf⟩ := hf
          refine V_call (pc := 46) (us1 := [_, _]) [0] 0 (kX6_putOutsideKnotIntoBag hk0 h10) rfl rfl rfl rfl rfl hk0 (Nat.le_of_ble_eq_true rfl) rfl rfl rfl wm_RX6_102 md_X6_putOutsideKnotIntoBag (Nat.le_of_ble_eq_true rfl) (Nat.le_of_ble_eq_true rfl) rfl rfl (Nat.le_of_ble_eq_true rfl) dX6_comb_46 ?_
          refine v_iinc (pc := 49) 5 (l5 + (1 : Int32)) [(5, _), (4, _), (0, _), (1, _), (2, _), (3, _)] dX6_comb_49 rfl (congrArg (fun z => _ + z) ci_1) (Nat.le_of_ble_eq_true rfl) rfl ?_
          refine v_goto (pc := 52) 6 dX6_comb_52 (by decide) ?_
          exact V_sub [2, 3, 4, 5, 1, 0] rfl (hrec hf)
set_option maxRecDepth 20000 in
theorem kX6_comb {G : Wc} {o oa : Nat} {S : Ob} {Sa : Ob} {b : Int32} {c : Int32} {r : Ob} (hk0 : kd o = 6) (hk1 : kd oa = 4) (hf : pX6_comb S Sa  b c = some r) : Cn yX6_comb cX6_comb 6 (none) 4 128 G [.ref (wA G o 0), .ref (wA G oa 0), .int b, .int c] [(o, S), (oa, Sa)] [(o, r), (oa, Sa)] none := by
  refine V_method [(0, .ref (wA G o 0)), (1, .ref (wA G oa 0)), (2, .int b), (3, .int c)] (by decide) rfl (Nat.le_of_ble_eq_true rfl) rfl (fun Γ hF => ?_)
  unfold pX6_comb at hf
  refine v_iload_n (pc := 0) 3 dX6_comb_0 rfl ?_
  refine v_istore (pc := 1) [(4, _), (0, _), (1, _), (2, _), (3, _)] dX6_comb_1 (Nat.le_of_ble_eq_true rfl) rfl ?_
  refine v_iconst (pc := 3) (0 : Int32) dX6_comb_3 ci_0 ?_
  refine v_istore (pc := 4) [(5, _), (4, _), (0, _), (1, _), (2, _), (3, _)] dX6_comb_4 (Nat.le_of_ble_eq_true rfl) rfl ?_
  replace hf := bd_some hf; obtain ⟨r11, h12, hf⟩ := hf
  refine V_sub [2, 3, 4, 5, 1, 0] rfl (wX6_comb_l6 hk0 hk1 fu h12 ?_)
  refine v_aload_n (pc := 55) 0 dX6_comb_55 rfl ?_
  refine gf_RX6_18 (pc := 56) 0 rfl hk0 dX6_comb_56 ?_
  refine v_iload_n (pc := 59) 1 dX6_comb_59 rfl ?_
  refine v_dup2 (pc := 60) dX6_comb_60 rfl rfl ?_
  replace hf := gd_some hf; obtain ⟨g13, hf⟩ := hf
  refine al_X6_2 (pc := 61) _ 0 rfl hk0 rfl g13 dX6_comb_61 ?_
  refine v_iload_n (pc := 62) 2 dX6_comb_62 rfl ?_
  refine v_iadd (pc := 63) dX6_comb_63 ?_
  replace hf := gd_some hf; obtain ⟨g14, hf⟩ := hf
  refine as_X6_2 (pc := 64) [_, _] _ 0 rfl hk0 rfl g14 rfl dX6_comb_64 ?_
  refine v_aload_n (pc := 65) 0 dX6_comb_65 rfl ?_
  refine v_dup (pc := 66) dX6_comb_66 rfl ?_
  refine gf_RX6_40 (pc := 67) 0 rfl hk0 dX6_comb_67 ?_
  refine v_iconst (pc := 70) (1 : Int32) dX6_comb_70 ci_1 ?_
  refine v_iadd (pc := 71) dX6_comb_71 ?_
  refine pf_RX6_40 (pc := 72) [_, _] 0 rfl hk0 rfl dX6_comb_72 ?_
  cases hf
  exact V_vret (pc := 75) hF dX6_comb_75
