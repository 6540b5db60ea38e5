set_option maxRecDepth 20000 in
theorem wX6_whoHas_l5 {G : Wc} {Γ : Cx} {o oa : Nat} {S : Ob} {Sa : Ob} {l2 : Int32} (hk0 : kd o = 6) (hk1 : kd oa = 4) : ∀ (n : Nat) {l3 : Int32} {l4 : Int32} {r : Int32}, pX6_whoHas_l5  S Sa l2 n l3 l4 = some r → V cX6_whoHas RX6 3 105 5 G Γ [(o, S), (oa, Sa)] 37 [(3, .int r)] [] → V cX6_whoHas RX6 3 105 5 G Γ [(o, S), (oa, Sa)] 5 [(0, .ref (wA G o 0)), (1, .ref (wA G oa 0)), (2, .int l2), (3, .int l3), (4, .int l4)] [] := by
  intro n
  induction n with
  | zero => intro l3 l4 r hf hx; unfold pX6_whoHas_l5 at hf; cases hf
  | succ n ih =>
    intro l3 l4 r hf hx
    have hrec : ∀ {l3 : Int32} {l4 : Int32}, pX6_whoHas_l5  S Sa l2 n l3 l4 = some r → V cX6_whoHas RX6 3 105 5 G Γ [(o, S), (oa, Sa)] 5 [(0, .ref (wA G o 0)), (1, .ref (wA G oa 0)), (2, .int l2), (3, .int l3), (4, .int l4)] [] := fun h => ih h hx
    clear ih
    unfold pX6_whoHas_l5 at hf
    refine v_iload (pc := 5) 4 dX6_whoHas_5 rfl ?_
    refine v_aload_n (pc := 7) 1 dX6_whoHas_7 rfl ?_
    refine gf_RX6_71 (pc := 8) 1 rfl hk1 dX6_whoHas_8 ?_
    refine v_icmp_ge (pc := 11) 37 dX6_whoHas_11 (by decide) (fun c1 => ?_) (fun c1 => ?_)
    · replace hf := it_t c1 hf
      have hf2 := Option.some.inj hf; subst hf2
      exact V_sub [3] rfl hx
    · replace hf := it_f c1 hf
      refine v_aload_n (pc := 14) 0 dX6_whoHas_14 rfl ?_
      refine v_iload (pc := 15) 4 dX6_whoHas_15 rfl ?_
      refine v_iload_n (pc := 17) 2 dX6_whoHas_17 rfl ?_
      replace hf := bd_some hf; obtain ⟨r2, h3, hf⟩ := hf
      refine V_call (pc := 18) (us1 := [_, _]) [0] 0 (kX6_has (o := o) hk0 h3) rfl rfl rfl rfl rfl hk0 (Nat.le_of_ble_eq_true rfl) rfl rfl rfl wm_RX6_74 md_X6_has (Nat.le_of_ble_eq_true rfl) (Nat.le_of_ble_eq_true rfl) rfl rfl (Nat.le_of_ble_eq_true rfl) dX6_whoHas_18 ?_
      refine v_if_eq (pc := 21) 31 dX6_whoHas_21 (by decide) (fun c4 => ?_) (fun c4 => ?_)
      · replace hf := it_t c4 hf
        refine v_iinc (pc := 31) 4 (l4 + (1 : Int32)) [(4, _), (0, _), (1, _), (2, _), (3, _)] dX6_whoHas_31 rfl (congrArg (fun z => _ + z) ci_1) (Nat.le_of_ble_eq_true rfl) rfl ?_
        refine v_goto (pc := 34) 5 dX6_whoHas_34 (by decide) ?_
        exact V_sub [1, 2, 3, 4, 0] rfl (hrec hf)
      · replace hf := it_f c4 hf
        refine v_iload_n (pc := 24) 3 dX6_whoHas_24 rfl ?_
        refine v_iconst (pc := 25) (1 : Int32) dX6_whoHas_25 ci_1 ?_
        refine v_iload (pc := 26) 4 dX6_whoHas_26 rfl ?_
        refine v_ishl (pc := 28) dX6_whoHas_28 ?_
        refine v_ior (pc := 29) dX6_whoHas_29 ?_
        refine v_istore_n (pc := 30) [(3, _), (0, _), (1, _), (2, _), (4, _)] dX6_whoHas_30 (Nat.le_of_ble_eq_true rfl) rfl ?_
        refine v_iinc (pc := 31) 4 (l4 + (1 : Int32)) [(4, _), (3, _), (0, _), (1, _), (2, _)] dX6_whoHas_31 rfl (congrArg (fun z => _ + z) ci_1) (Nat.le_of_ble_eq_true rfl) rfl ?_
        refine v_goto (pc := 34) 5 dX6_whoHas_34 (by decide) ?_
        exact V_sub [2, 3, 4, 1, 0] rfl (hrec hf)
set_option maxRecDepth 20000 in
theorem kX6_whoHas {G : Wc} {o oa : Nat} {S : Ob} {Sa : Ob} {b : Int32} {r : Int32} (hk0 : kd o = 6) (hk1 : kd oa = 4) (hf : pX6_whoHas S Sa  b = some r) : Cn yX6_whoHas cX6_whoHas 5 (some .int) 3 105 G [.ref (wA G o 0), .ref (wA G oa 0), .int b] [(o, S), (oa, Sa)] [(o, S), (oa, Sa)] (some (.int r)) := by
  refine V_method [(0, .ref (wA G o 0)), (1, .ref (wA G oa 0)), (2, .int b)] (by decide) rfl (Nat.le_of_ble_eq_true rfl) rfl (fun Γ hF => ?_)
  unfold pX6_whoHas at hf
  refine v_iconst (pc := 0) (0 : Int32) dX6_whoHas_0 ci_0 ?_
  refine v_istore_n (pc := 1) [(3, _), (0, _), (1, _), (2, _)] dX6_whoHas_1 (Nat.le_of_ble_eq_true rfl) rfl ?_
  refine v_iconst (pc := 2) (0 : Int32) dX6_whoHas_2 ci_0 ?_
  refine v_istore (pc := 3) [(4, _), (3, _), (0, _), (1, _), (2, _)] dX6_whoHas_3 (Nat.le_of_ble_eq_true rfl) rfl ?_
  replace hf := bd_some hf; obtain ⟨r5, h6, hf⟩ := hf
  refine V_sub [2, 3, 4, 1, 0] rfl (wX6_whoHas_l5 hk0 hk1 fu h6 ?_)
  refine v_iload_n (pc := 37) 0 dX6_whoHas_37 rfl ?_
  have hf2 := Option.some.inj hf; subst hf2
  exact V_iret (pc := 38) hF dX6_whoHas_38
set_option maxRecDepth 20000 in
theorem wX6_stillOf_l29 {G : Wc} {Γ : Cx} {o oa : Nat} {S : Ob} {Sa : Ob} {l2 : Int32} {l4 : Int32} (hk0 : kd o = 6) (hk1 : kd oa = 4) : ∀ (n : Nat) {l3 : Int32} {l5 : Int32} {r : Int32}, pX6_stillOf_l29  S Sa l2 l4 n l3 l5 = some r → V cX6_stillOf RX6 2 82 6 G Γ [(o, S), (oa, Sa)] 62 [(0, .ref (wA G o 0)), (1, .ref (wA G oa 0)), (2, .int l2), (3, .int r), (4, .int l4)] [] → V cX6_stillOf RX6 2 82 6 G Γ [(o, S), (oa, Sa)] 29 [(0, .ref (wA G o 0)), (1, .ref (wA G oa 0)), (2, .int l2), (3, .int l3), (4, .int l4), (5, .int l5)] [] := by
  intro n
  induction n with
  | zero => intro l3 l5 r hf hx; unfold pX6_stillOf_l29 at hf; cases hf
  | succ n ih =>
    intro l3 l5 r hf hx
    have hrec : ∀ {l3 : Int32} {l5 : Int32}, pX6_stillOf_l29  S Sa l2 l4 n l3 l5 = some r → V cX6_stillOf RX6 2 82 6 G Γ [(o, S), (oa, Sa)] 29 [(0, .ref (wA G o 0)), (1, .ref (wA G oa 0)), (2, .int l2), (3, .int l3), (4, .int l4), (5, .int l5)] [] := fun h => ih h hx
    clear ih
    unfold pX6_stillOf_l29 at hf
    refine v_iload (pc := 29) 5 dX6_stillOf_29 rfl ?_
    refine v_aload_n (pc := 31) 0 dX6_stillOf_31 rfl ?_
    refine gf_RX6_15 (pc := 32) 0 rfl hk0 dX6_stillOf_32 ?_
    refine v_iload (pc := 35) 4 dX6_stillOf_35 rfl ?_
    replace hf := gd_some hf; obtain ⟨g4, hf⟩ := hf
    refine al_X6_1 (pc := 37) _ 0 rfl hk0 rfl g4 dX6_stillOf_37 ?_
    refine v_icmp_ge (pc := 38) 62 dX6_stillOf_38 (by decide) (fun c5 => ?_) (fun c5 => ?_)
    · replace hf := it_t c5 hf
      have hf2 := Option.some.inj hf; subst hf2
      exact V_sub [0, 1, 2, 3, 4] rfl hx
    · replace hf := it_f c5 hf
      refine v_aload_n (pc := 41) 0 dX6_stillOf_41 rfl ?_
      refine v_iload (pc := 42) 4 dX6_stillOf_42 rfl ?_
      refine v_iload (pc := 44) 5 dX6_stillOf_44 rfl ?_
      replace hf := bd_some hf; obtain ⟨r6, h7, hf⟩ := hf
      refine V_call (pc := 46) (us1 := [_, _]) [0] 0 (kX6_layerAt (o := o) hk0 h7) rfl rfl rfl rfl rfl hk0 (Nat.le_of_ble_eq_true rfl) rfl rfl rfl wm_RX6_55 md_X6_layerAt (Nat.le_of_ble_eq_true rfl) (Nat.le_of_ble_eq_true rfl) rfl rfl (Nat.le_of_ble_eq_true rfl) dX6_stillOf_46 ?_
      refine v_iload_n (pc := 49) 2 dX6_stillOf_49 rfl ?_
      refine v_icmp_ne (pc := 50) 56 dX6_stillOf_50 (by decide) (fun c8 => ?_) (fun c8 => ?_)
      · replace hf := it_f c8 hf
        refine v_iinc (pc := 56) 5 (l5 + (1 : Int32)) [(5, _), (0, _), (1, _), (2, _), (3, _), (4, _)] dX6_stillOf_56 rfl (congrArg (fun z => _ + z) ci_1) (Nat.le_of_ble_eq_true rfl) rfl ?_
        refine v_goto (pc := 59) 29 dX6_stillOf_59 (by decide) ?_
        exact V_sub [1, 2, 3, 4, 5, 0] rfl (hrec hf)
      · replace hf := it_t c8 hf
        refine v_iinc (pc := 53) 3 (l3 + (1 : Int32)) [(3, _), (0, _), (1, _), (2, _), (4, _), (5, _)] dX6_stillOf_53 rfl (congrArg (fun z => _ + z) ci_1) (Nat.le_of_ble_eq_true rfl) rfl ?_
        refine v_iinc (pc := 56) 5 (l5 + (1 : Int32)) [(5, _), (3, _), (0, _), (1, _), (2, _), (4, _)] dX6_stillOf_56 rfl (congrArg (fun z => _ + z) ci_1) (Nat.le_of_ble_eq_true rfl) rfl ?_
        refine v_goto (pc := 59) 29 dX6_stillOf_59 (by decide) ?_
        exact V_sub [2, 3, 4, 1, 5, 0] rfl (hrec hf)
set_option maxRecDepth 20000 in
theorem wX6_stillOf_l17 {G : Wc} {Γ : Cx} {o oa : Nat} {S : Ob} {Sa : Ob} {l2 : Int32} (hk0 : kd o = 6) (hk1 : kd oa = 4) : ∀ (n : Nat) {l3 : Int32} {l4 : Int32} {r : Int32}, pX6_stillOf_l17  S Sa l2 n l3 l4 = some r → V cX6_stillOf RX6 2 82 6 G Γ [(o, S), (oa, Sa)] 68 [(3, .int r)] [] → V cX6_stillOf RX6 2 82 6 G Γ [(o, S), (oa, Sa)] 17 [(0, .ref (wA G o 0)), (1, .ref (wA G oa 0)), (2, .int l2), (3, .int l3), (4, .int l4)] [] := by
  intro n
  induction n with
  | zero => intro l3 l4 r hf hx; unfold pX6_stillOf_l17 at hf; cases hf
  | succ n ih =>
    intro l3 l4 r hf hx
    have hrec : ∀ {l3 : Int32} {l4 : Int32}, pX6_stillOf_l17  S Sa l2 n l3 l4 = some r → V cX6_stillOf RX6 2 82 6 G Γ [(o, S), (oa, Sa)] 17 [(0, .ref (wA G o 0)), (1, .ref (wA G oa 0)), (2, .int l2), (3, .int l3), (4, .int l4)] [] := fun h => ih h hx
    clear ih
    unfold pX6_stillOf_l17 at hf
    refine v_iload (pc := 17) 4 dX6_stillOf_17 rfl ?_
    refine v_aload_n (pc := 19) 1 dX6_stillOf_19 rfl ?_
    refine gf_RX6_71 (pc := 20) 1 rfl hk1 dX6_stillOf_20 ?_
    refine v_icmp_ge (pc := 23) 68 dX6_stillOf_23 (by decide) (fun c3 => ?_) (fun c3 => ?_)
    · replace hf := it_t c3 hf
      have hf2 := Option.some.inj hf; subst hf2
      exact V_sub [3] rfl hx
    · replace hf := it_f c3 hf
      refine v_iconst (pc := 26) (0 : Int32) dX6_stillOf_26 ci_0 ?_
      refine v_istore (pc := 27) [(5, _), (0, _), (1, _), (2, _), (3, _), (4, _)] dX6_stillOf_27 (Nat.le_of_ble_eq_true rfl) rfl ?_
      replace hf := bd_some hf; obtain ⟨r9, h10, hf⟩ := hf
      refine V_sub [1, 2, 3, 4, 5, 0] rfl (wX6_stillOf_l29 hk0 hk1 fu h10 ?_)
      refine v_iinc (pc := 62) 4 (l4 + (1 : Int32)) [(4, _), (0, _), (1, _), (2, _), (3, _)] dX6_stillOf_62 rfl (congrArg (fun z => _ + z) ci_1) (Nat.le_of_ble_eq_true rfl) rfl ?_
      refine v_goto (pc := 65) 17 dX6_stillOf_65 (by decide) ?_
      exact V_sub [1, 2, 3, 4, 0] rfl (hrec hf)
set_option maxRecDepth 20000 in
theorem kX6_stillOf {G : Wc} {o oa : Nat} {S : Ob} {Sa : Ob} {b : Int32} {r : Int32} (hk0 : kd o = 6) (hk1 : kd oa = 4) (hf : pX6_stillOf S Sa  b = some r) : Cn yX6_stillOf cX6_stillOf 6 (some .int) 2 82 G [.ref (wA G o 0), .ref (wA G oa 0), .int b] [(o, S), (oa, Sa)] [(o, S), (oa, Sa)] (some (.int r)) := by
  refine V_method [(0, .ref (wA G o 0)), (1, .ref (wA G oa 0)), (2, .int b)] (by decide) rfl (Nat.le_of_ble_eq_true rfl) rfl (fun Γ hF => ?_)
  unfold pX6_stillOf at hf
  refine v_aload_n (pc := 0) 0 dX6_stillOf_0 rfl ?_
  refine gf_RX6_21 (pc := 1) 0 rfl hk0 dX6_stillOf_1 ?_
  refine v_iload_n (pc := 4) 2 dX6_stillOf_4 rfl ?_
  replace hf := gd_some hf; obtain ⟨g1, hf⟩ := hf
  refine al_X6_3 (pc := 5) _ 0 rfl hk0 rfl g1 dX6_stillOf_5 ?_
  refine v_aload_n (pc := 6) 0 dX6_stillOf_6 rfl ?_
  refine gf_RX6_24 (pc := 7) 0 rfl hk0 dX6_stillOf_7 ?_
  refine v_iload_n (pc := 10) 2 dX6_stillOf_10 rfl ?_
  replace hf := gd_some hf; obtain ⟨g2, hf⟩ := hf
  refine al_X6_4 (pc := 11) _ 0 rfl hk0 rfl g2 dX6_stillOf_11 ?_
  refine v_iadd (pc := 12) dX6_stillOf_12 ?_
  refine v_istore_n (pc := 13) [(3, _), (0, _), (1, _), (2, _)] dX6_stillOf_13 (Nat.le_of_ble_eq_true rfl) rfl ?_
  refine v_iconst (pc := 14) (0 : Int32) dX6_stillOf_14 ci_0 ?_
  refine v_istore (pc := 15) [(4, _), (3, _), (0, _), (1, _), (2, _)] dX6_stillOf_15 (Nat.le_of_ble_eq_true rfl) rfl ?_
  replace hf := bd_some hf; obtain ⟨r11, h12, hf⟩ := hf
  refine V_sub [2, 3, 4, 1, 0] rfl (wX6_stillOf_l17 hk0 hk1 fu h12 ?_)
  refine v_iload_n (pc := 68) 0 dX6_stillOf_68 rfl ?_
  have hf2 := Option.some.inj hf; subst hf2
  exact V_iret (pc := 69) hF dX6_stillOf_69
set_option maxRecDepth 20000 in
theorem wX6_allNests_l4 {G : Wc} {Γ : Cx} {o oa : Nat} {S : Ob} {Sa : Ob} (hk0 : kd o = 6) (hk1 : kd oa = 4) : ∀ (n : Nat) {l2 : Int32} {l3 : Int32} {r : Int32}, pX6_allNests_l4  S Sa n l2 l3 = some r → V cX6_allNests RX6 2 81 4 G Γ [(o, S), (oa, Sa)] 32 [(2, .int r)] [] → V cX6_allNests RX6 2 81 4 G Γ [(o, S), (oa, Sa)] 4 [(0, .ref (wA G o 0)), (1, .ref (wA G oa 0)), (2, .int l2), (3, .int l3)] [] := by
  intro n
  induction n with
  | zero => intro l2 l3 r hf hx; unfold pX6_allNests_l4 at hf; cases hf
  | succ n ih =>
    intro l2 l3 r hf hx
    have hrec : ∀ {l2 : Int32} {l3 : Int32}, pX6_allNests_l4  S Sa n l2 l3 = some r → V cX6_allNests RX6 2 81 4 G Γ [(o, S), (oa, Sa)] 4 [(0, .ref (wA G o 0)), (1, .ref (wA G oa 0)), (2, .int l2), (3, .int l3)] [] := fun h => ih h hx
    clear ih
    unfold pX6_allNests_l4 at hf
    refine v_iload_n (pc := 4) 3 dX6_allNests_4 rfl ?_
    refine v_aload_n (pc := 5) 1 dX6_allNests_5 rfl ?_
    refine gf_RX6_71 (pc := 6) 1 rfl hk1 dX6_allNests_6 ?_
    refine v_icmp_ge (pc := 9) 32 dX6_allNests_9 (by decide) (fun c1 => ?_) (fun c1 => ?_)
    · replace hf := it_t c1 hf
      have hf2 := Option.some.inj hf; subst hf2
      exact V_sub [2] rfl hx
    · replace hf := it_f c1 hf
      refine v_aload_n (pc := 12) 0 dX6_allNests_12 rfl ?_
      refine v_iload_n (pc := 13) 3 dX6_allNests_13 rfl ?_
      replace hf := bd_some hf; obtain ⟨r2, h3, hf⟩ := hf
      refine V_call (pc := 14) (us1 := [_, _]) [0] 0 (kX6_isNest (o := o) hk0 h3) rfl rfl rfl rfl rfl hk0 (Nat.le_of_ble_eq_true rfl) rfl rfl rfl wm_RX6_88 md_X6_isNest (Nat.le_of_ble_eq_true rfl) (Nat.le_of_ble_eq_true rfl) rfl rfl (Nat.le_of_ble_eq_true rfl) dX6_allNests_14 ?_
      refine v_if_eq (pc := 17) 26 dX6_allNests_17 (by decide) (fun c4 => ?_) (fun c4 => ?_)
      · replace hf := it_t c4 hf
        refine v_iinc (pc := 26) 3 (l3 + (1 : Int32)) [(3, _), (0, _), (1, _), (2, _)] dX6_allNests_26 rfl (congrArg (fun z => _ + z) ci_1) (Nat.le_of_ble_eq_true rfl) rfl ?_
        refine v_goto (pc := 29) 4 dX6_allNests_29 (by decide) ?_
        exact V_sub [1, 2, 3, 0] rfl (hrec hf)
      · replace hf := it_f c4 hf
        refine v_iload_n (pc := 20) 2 dX6_allNests_20 rfl ?_
        refine v_iconst (pc := 21) (1 : Int32) dX6_allNests_21 ci_1 ?_
        refine v_iload_n (pc := 22) 3 dX6_allNests_22 rfl ?_
        refine v_ishl (pc := 23) dX6_allNests_23 ?_
        refine v_ior (pc := 24) dX6_allNests_24 ?_
        refine v_istore_n (pc := 25) [(2, _), (0, _), (1, _), (3, _)] dX6_allNests_25 (Nat.le_of_ble_eq_true rfl) rfl ?_
        refine v_iinc (pc := 26) 3 (l3 + (1 : Int32)) [(3, _), (2, _), (0, _), (1, _)] dX6_allNests_26 rfl (congrArg (fun z => _ + z) ci_1) (Nat.le_of_ble_eq_true rfl) rfl ?_
        refine v_goto (pc := 29) 4 dX6_allNests_29 (by decide) ?_
        exact V_sub [2, 3, 1, 0] rfl (hrec hf)
set_option maxRecDepth 20000 in
theorem kX6_allNests {G : Wc} {o oa : Nat} {S : Ob} {Sa : Ob}  {r : Int32} (hk0 : kd o = 6) (hk1 : kd oa = 4) (hf : pX6_allNests S Sa   = some r) : Cn yX6_allNests cX6_allNests 4 (some .int) 2 81 G [.ref (wA G o 0), .ref (wA G oa 0)] [(o, S), (oa, Sa)] [(o, S), (oa, Sa)] (some (.int r)) := by
  refine V_method [(0, .ref (wA G o 0)), (1, .ref (wA G oa 0))] (by decide) rfl (Nat.le_of_ble_eq_true rfl) rfl (fun Γ hF => ?_)
  unfold pX6_allNests at hf
  refine v_iconst (pc := 0) (0 : Int32) dX6_allNests_0 ci_0 ?_
  refine v_istore_n (pc := 1) [(2, _), (0, _), (1, _)] dX6_allNests_1 (Nat.le_of_ble_eq_true rfl) rfl ?_
  refine v_iconst (pc := 2) (0 : Int32) dX6_allNests_2 ci_0 ?_
  refine v_istore_n (pc := 3) [(3, _), (2, _), (0, _), (1, _)] dX6_allNests_3 (Nat.le_of_ble_eq_true rfl) rfl ?_
  replace hf := bd_some hf; obtain ⟨r5, h6, hf⟩ := hf
  refine V_sub [2, 3, 1, 0] rfl (wX6_allNests_l4 hk0 hk1 fu h6 ?_)
  refine v_iload_n (pc := 32) 0 dX6_allNests_32 rfl ?_
  have hf2 := Option.some.inj hf; subst hf2
  exact V_iret (pc := 33) hF dX6_allNests_33
set_option maxRecDepth 20000 in
theorem kX6_draw {G : Wc} {o : Nat} {S : Ob} {a : Int32} {r : Int32 × Ob} (hk0 : kd o = 6) (hf : pX6_draw S  a = some r) : Cn yX6_draw cX6_draw 2 (some .int) 1 60 G [.ref (wA G o 0), .int a] [(o, S)] [(o, r.2)] (some (.int r.1)) := by
  refine V_method [(0, .ref (wA G o 0)), (1, .int a)] (by decide) rfl (Nat.le_of_ble_eq_true rfl) rfl (fun Γ hF => ?_)
  unfold pX6_draw at hf
  refine v_aload_n (pc := 0) 0 dX6_draw_0 rfl ?_
  refine v_aload_n (pc := 1) 0 dX6_draw_1 rfl ?_
  refine gf_RX6_135 (pc := 2) 0 rfl hk0 dX6_draw_2 ?_
  refine v_ldc (pc := 5) dX6_draw_5 wc_RX6_161 ?_
  refine v_imul (pc := 7) dX6_draw_7 ?_
  refine v_sipush (pc := 8) (12345 : Int32) dX6_draw_8 cs_12345 ?_
  refine v_iadd (pc := 11) dX6_draw_11 ?_
  refine pf_RX6_135 (pc := 12) [_] 0 rfl hk0 rfl dX6_draw_12 ?_
  refine v_iload_n (pc := 15) 1 dX6_draw_15 rfl ?_
  refine v_iconst (pc := 16) (1 : Int32) dX6_draw_16 ci_1 ?_
  refine v_icmp_ge (pc := 17) 24 dX6_draw_17 (by decide) (fun c1 => ?_) (fun c1 => ?_)
  · replace hf := it_t c1 hf
    refine v_aload_n (pc := 24) 0 dX6_draw_24 rfl ?_
    refine gf_RX6_135 (pc := 25) 0 rfl hk0 dX6_draw_25 ?_
    refine v_bipush (pc := 28) (8 : Int32) dX6_draw_28 cb_8 ?_
    refine v_iushr (pc := 30) dX6_draw_30 ?_
    refine v_iload_n (pc := 31) 1 dX6_draw_31 rfl ?_
    replace hf := gd_some hf; obtain ⟨g2, hf⟩ := hf
    refine v_irem (pc := 32) dX6_draw_32 (of_decide_eq_true g2) ?_
    have hf2 := Option.some.inj hf; subst hf2
    exact V_iret (pc := 33) hF dX6_draw_33
  · replace hf := it_f c1 hf
    refine v_iconst (pc := 20) (0 : Int32) dX6_draw_20 ci_0 ?_
    refine v_goto (pc := 21) 33 dX6_draw_21 (by decide) ?_
    have hf2 := Option.some.inj hf; subst hf2
    exact V_iret (pc := 33) hF dX6_draw_33
set_option maxRecDepth 20000 in
theorem kX6_actAsDrawn {G : Wc} {o oa : Nat} {S : Ob} {Sa : Ob} {b : Int32} {r : Ob} (hk0 : kd o = 6) (hk1 : kd oa = 4) (hf : pX6_actAsDrawn S Sa  b = some r) : Cn yX6_actAsDrawn cX6_actAsDrawn 5 (none) 5 153 G [.ref (wA G o 0), .ref (wA G oa 0), .int b] [(o, S), (oa, Sa)] [(o, r), (oa, Sa)] none := by
  refine V_method [(0, .ref (wA G o 0)), (1, .ref (wA G oa 0)), (2, .int b)] (by decide) rfl (Nat.le_of_ble_eq_true rfl) rfl (fun Γ hF => ?_)
  unfold pX6_actAsDrawn at hf
  refine v_aload_n (pc := 0) 0 dX6_actAsDrawn_0 rfl ?_
  refine v_bipush (pc := 1) (6 : Int32) dX6_actAsDrawn_1 cb_6 ?_
  replace hf := bd_some hf; obtain ⟨r1, h2, hf⟩ := hf
  refine V_call (pc := 3) (us1 := [_, _]) [0] 0 (kX6_draw (o := o) hk0 h2) rfl rfl rfl rfl rfl hk0 (Nat.le_of_ble_eq_true rfl) rfl rfl rfl wm_RX6_142 md_X6_draw (Nat.le_of_ble_eq_true rfl) (Nat.le_of_ble_eq_true rfl) rfl rfl (Nat.le_of_ble_eq_true rfl) dX6_actAsDrawn_3 ?_
  refine v_istore_n (pc := 6) [(3, _), (0, _), (1, _), (2, _)] dX6_actAsDrawn_6 (Nat.le_of_ble_eq_true rfl) rfl ?_
  refine v_iload_n (pc := 7) 0 dX6_actAsDrawn_7 rfl ?_
  refine v_iconst (pc := 8) (1 : Int32) dX6_actAsDrawn_8 ci_1 ?_
  refine v_icmp_gt (pc := 9) 35 dX6_actAsDrawn_9 (by decide) (fun c3 => ?_) (fun c3 => ?_)
  · replace hf := it_t c3 hf
    refine v_iload_n (pc := 35) 0 dX6_actAsDrawn_35 rfl ?_
    refine v_iconst (pc := 36) (2 : Int32) dX6_actAsDrawn_36 ci_2 ?_
    refine v_icmp_ne (pc := 37) 72 dX6_actAsDrawn_37 (by decide) (fun c4 => ?_) (fun c4 => ?_)
    · replace hf := it_f c4 hf
      refine v_iload_n (pc := 72) 0 dX6_actAsDrawn_72 rfl ?_
      refine v_iconst (pc := 73) (3 : Int32) dX6_actAsDrawn_73 ci_3 ?_
      refine v_icmp_ne (pc := 74) 90 dX6_actAsDrawn_74 (by decide) (fun c5 => ?_) (fun c5 => ?_)
      · replace hf := it_f c5 hf
        have hf2 := Option.some.inj hf; subst hf2
        exact V_vret (pc := 90) hF dX6_actAsDrawn_90
      · replace hf := it_t c5 hf
        refine v_aload_n (pc := 77) 1 dX6_actAsDrawn_77 rfl ?_
        refine v_iload_n (pc := 78) 3 dX6_actAsDrawn_78 rfl ?_
        replace hf := bd_some hf; obtain ⟨r6, h7, hf⟩ := hf
        refine V_call (pc := 79) (us1 := [_, _]) [0] 0 (kX6_whyNoCut (o := o) hk0 h7) rfl rfl rfl rfl rfl hk0 (Nat.le_of_ble_eq_true rfl) rfl rfl rfl wm_RX6_155 md_X6_whyNoCut (Nat.le_of_ble_eq_true rfl) (Nat.le_of_ble_eq_true rfl) rfl rfl (Nat.le_of_ble_eq_true rfl) dX6_actAsDrawn_79 ?_
        refine v_if_ne (pc := 82) 90 dX6_actAsDrawn_82 (by decide) (fun c8 => ?_) (fun c8 => ?_)
        · replace hf := it_f c8 hf
          have hf2 := Option.some.inj hf; subst hf2
          exact V_vret (pc := 90) hF dX6_actAsDrawn_90
        · replace hf := it_t c8 hf
          refine v_aload_n (pc := 85) 1 dX6_actAsDrawn_85 rfl ?_
          refine v_iload_n (pc := 86) 3 dX6_actAsDrawn_86 rfl ?_
          replace hf := bd_some hf; obtain ⟨r9, h10, hf⟩ := hf
          refine V_call (pc := 87) (us1 := [_, _]) [0] 0 (kX6_cutOff (o := o) hk0 h10) rfl rfl rfl rfl rfl hk0 (Nat.le_of_ble_eq_true rfl) rfl rfl rfl wm_RX6_158 md_X6_cutOff (Nat.le_of_ble_eq_true rfl) (Nat.le_of_ble_eq_true rfl) rfl rfl (Nat.le_of_ble_eq_true rfl) dX6_actAsDrawn_87 ?_
          have hf2 := Option.some.inj hf; subst hf2
          exact V_vret (pc := 90) hF dX6_actAsDrawn_90
    · replace hf := it_t c4 hf
      refine v_aload_n (pc := 40) 1 dX6_actAsDrawn_40 rfl ?_
      refine v_bipush (pc := 41) (20 : Int32) dX6_actAsDrawn_41 cb_20 ?_
      replace hf := bd_some hf; obtain ⟨r11, h12, hf⟩ := hf
      refine V_call (pc := 43) (us1 := [_, _]) [0] 0 (kX6_draw (o := o) hk0 h12) rfl rfl rfl rfl rfl hk0 (Nat.le_of_ble_eq_true rfl) rfl rfl rfl wm_RX6_142 md_X6_draw (Nat.le_of_ble_eq_true rfl) (Nat.le_of_ble_eq_true rfl) rfl rfl (Nat.le_of_ble_eq_true rfl) dX6_actAsDrawn_43 ?_
      refine v_iconst (pc := 46) (1 : Int32) dX6_actAsDrawn_46 ci_1 ?_
      refine v_iadd (pc := 47) dX6_actAsDrawn_47 ?_
      refine v_istore (pc := 48) [(4, _), (3, _), (0, _), (1, _), (2, _)] dX6_actAsDrawn_48 (Nat.le_of_ble_eq_true rfl) rfl ?_
      refine v_aload_n (pc := 50) 2 dX6_actAsDrawn_50 rfl ?_
      refine v_aload_n (pc := 51) 3 dX6_actAsDrawn_51 rfl ?_
      refine v_iload_n (pc := 52) 4 dX6_actAsDrawn_52 rfl ?_
      refine v_iload (pc := 53) 0 dX6_actAsDrawn_53 rfl ?_
      replace hf := bd_some hf; obtain ⟨r13, h14, hf⟩ := hf
      refine V_call (pc := 55) (us1 := [_, _]) [0, 1] 0 (kX6_whyNoStroke (o := o) (oa := oa) hk0 hk1 h14) rfl rfl rfl rfl rfl hk0 (Nat.le_of_ble_eq_true rfl) rfl rfl rfl wm_RX6_149 md_X6_whyNoStroke (Nat.le_of_ble_eq_true rfl) (Nat.le_of_ble_eq_true rfl) rfl rfl (Nat.le_of_ble_eq_true rfl) dX6_actAsDrawn_55 ?_
      refine v_if_ne (pc := 58) 69 dX6_actAsDrawn_58 (by decide) (fun c15 => ?_) (fun c15 => ?_)
      · replace hf := it_f c15 hf
        refine v_goto (pc := 69) 90 dX6_actAsDrawn_69 (by decide) ?_
        have hf2 := Option.some.inj hf; subst hf2
        exact V_vret (pc := 90) hF dX6_actAsDrawn_90
      · replace hf := it_t c15 hf
        refine v_aload_n (pc := 61) 2 dX6_actAsDrawn_61 rfl ?_
        refine v_aload_n (pc := 62) 3 dX6_actAsDrawn_62 rfl ?_
        refine v_iload_n (pc := 63) 4 dX6_actAsDrawn_63 rfl ?_
        refine v_iload (pc := 64) 0 dX6_actAsDrawn_64 rfl ?_
        replace hf := bd_some hf; obtain ⟨r16, h17, hf⟩ := hf
        refine V_call (pc := 66) (us1 := [_, _]) [0, 1] 0 (kX6_comb (o := o) (oa := oa) hk0 hk1 h17) rfl rfl rfl rfl rfl hk0 (Nat.le_of_ble_eq_true rfl) rfl rfl rfl wm_RX6_152 md_X6_comb (Nat.le_of_ble_eq_true rfl) (Nat.le_of_ble_eq_true rfl) rfl rfl (Nat.le_of_ble_eq_true rfl) dX6_actAsDrawn_66 ?_
        refine v_goto (pc := 69) 90 dX6_actAsDrawn_69 (by decide) ?_
        have hf2 := Option.some.inj hf; subst hf2
        exact V_vret (pc := 90) hF dX6_actAsDrawn_90
  · replace hf := it_f c3 hf
    refine v_aload_n (pc := 12) 2 dX6_actAsDrawn_12 rfl ?_
    refine gf_RX6_146 (pc := 13) 1 rfl hk1 dX6_actAsDrawn_13 ?_
    refine v_if_le (pc := 16) 90 dX6_actAsDrawn_16 (by decide) (fun c18 => ?_) (fun c18 => ?_)
    · replace hf := it_t c18 hf
      have hf2 := Option.some.inj hf; subst hf2
      exact V_vret (pc := 90) hF dX6_actAsDrawn_90
    · replace hf := it_f c18 hf
      refine v_aload_n (pc := 19) 1 dX6_actAsDrawn_19 rfl ?_
      refine v_iload_n (pc := 20) 3 dX6_actAsDrawn_20 rfl ?_
      refine v_aload_n (pc := 21) 1 dX6_actAsDrawn_21 rfl ?_
      refine v_aload_n (pc := 22) 2 dX6_actAsDrawn_22 rfl ?_
      refine gf_RX6_146 (pc := 23) 1 rfl hk1 dX6_actAsDrawn_23 ?_
      replace hf := bd_some hf; obtain ⟨r19, h20, hf⟩ := hf
      refine V_call (pc := 26) (us1 := [_, _]) [0] 0 (kX6_draw (o := o) hk0 h20) rfl rfl rfl rfl rfl hk0 (Nat.le_of_ble_eq_true rfl) rfl rfl rfl wm_RX6_142 md_X6_draw (Nat.le_of_ble_eq_true rfl) (Nat.le_of_ble_eq_true rfl) rfl rfl (Nat.le_of_ble_eq_true rfl) dX6_actAsDrawn_26 ?_
      replace hf := bd_some hf; obtain ⟨r21, h22, hf⟩ := hf
      refine V_call (pc := 29) (us1 := [_, _]) [0] 0 (kX6_catchThing (o := o) hk0 h22) rfl rfl rfl rfl rfl hk0 (Nat.le_of_ble_eq_true rfl) rfl rfl rfl wm_RX6_131 md_X6_catchThing (Nat.le_of_ble_eq_true rfl) (Nat.le_of_ble_eq_true rfl) rfl rfl (Nat.le_of_ble_eq_true rfl) dX6_actAsDrawn_29 ?_
      refine v_goto (pc := 32) 90 dX6_actAsDrawn_32 (by decide) ?_
      have hf2 := Option.some.inj hf; subst hf2
      exact V_vret (pc := 90) hF dX6_actAsDrawn_90
set_option maxRecDepth 20000 in
theorem wX6_letDrawnDaysGo_l17 {G : Wc} {Γ : Cx} {o oa : Nat} {Sa : Ob} {l2 : Int32} {l4 : Int32} (hk0 : kd o = 6) (hk1 : kd oa = 4) : ∀ (n : Nat) {l5 : Int32} {S : Ob} {r : Ob}, pX6_letDrawnDaysGo_l17  Sa l2 l4 n l5 S = some r → V cX6_letDrawnDaysGo RX6 6 177 6 G Γ [(o, r), (oa, Sa)] 39 [(0, .ref (wA G o 0)), (1, .ref (wA G oa 0)), (2, .int l2), (4, .int l4)] [] → V cX6_letDrawnDaysGo RX6 6 177 6 G Γ [(o, S), (oa, Sa)] 17 [(0, .ref (wA G o 0)), (1, .ref (wA G oa 0)), (2, .int l2), (4, .int l4), (5, .int l5)] [] := by
  intro n
  induction n with
  | zero => intro l5 S r hf hx; unfold pX6_letDrawnDaysGo_l17 at hf; cases hf
  | succ n ih =>
    intro l5 S r hf hx
    have hrec : ∀ {l5 : Int32} {S : Ob}, pX6_letDrawnDaysGo_l17  Sa l2 l4 n l5 S = some r → V cX6_letDrawnDaysGo RX6 6 177 6 G Γ [(o, S), (oa, Sa)] 17 [(0, .ref (wA G o 0)), (1, .ref (wA G oa 0)), (2, .int l2), (4, .int l4), (5, .int l5)] [] := fun h => ih h hx
    clear ih
    unfold pX6_letDrawnDaysGo_l17 at hf
    refine v_iload (pc := 17) 4 dX6_letDrawnDaysGo_17 rfl ?_
    refine v_aload_n (pc := 19) 1 dX6_letDrawnDaysGo_19 rfl ?_
    refine gf_RX6_71 (pc := 20) 1 rfl hk1 dX6_letDrawnDaysGo_20 ?_
    refine v_icmp_ge (pc := 23) 39 dX6_letDrawnDaysGo_23 (by decide) (fun c2 => ?_) (fun c2 => ?_)
    · replace hf := it_t c2 hf
      have hf2 := Option.some.inj hf; subst hf2
      exact V_sub [0, 1, 2, 3] rfl hx
    · replace hf := it_f c2 hf
      refine v_aload_n (pc := 26) 0 dX6_letDrawnDaysGo_26 rfl ?_
      refine v_aload_n (pc := 27) 1 dX6_letDrawnDaysGo_27 rfl ?_
      refine v_iload (pc := 28) 4 dX6_letDrawnDaysGo_28 rfl ?_
      replace hf := bd_some hf; obtain ⟨r3, h4, hf⟩ := hf
      refine V_call (pc := 30) (us1 := [_, _]) [0, 1] 0 (kX6_actAsDrawn (o := o) (oa := oa) hk0 hk1 h4) rfl rfl rfl rfl rfl hk0 (Nat.le_of_ble_eq_true rfl) rfl rfl rfl wm_RX6_138 md_X6_actAsDrawn (Nat.le_of_ble_eq_true rfl) (Nat.le_of_ble_eq_true rfl) rfl rfl (Nat.le_of_ble_eq_true rfl) dX6_letDrawnDaysGo_30 ?_
      refine v_iinc (pc := 33) 4 (l5 + (1 : Int32)) [(5, _), (0, _), (1, _), (2, _), (4, _)] dX6_letDrawnDaysGo_33 rfl (congrArg (fun z => _ + z) ci_1) (Nat.le_of_ble_eq_true rfl) rfl ?_
      refine v_goto (pc := 36) 17 dX6_letDrawnDaysGo_36 (by decide) ?_
      exact V_sub [1, 2, 3, 4, 0] rfl (hrec hf)
set_option maxRecDepth 20000 in
theorem wX6_letDrawnDaysGo_l8 {G : Wc} {Γ : Cx} {o oa : Nat} {Sa : Ob} {l2 : Int32} (hk0 : kd o = 6) (hk1 : kd oa = 4) : ∀ (n : Nat) {l4 : Int32} {S : Ob} {r : Ob}, pX6_letDrawnDaysGo_l8  Sa l2 n l4 S = some r → V cX6_letDrawnDaysGo RX6 6 177 6 G Γ [(o, r), (oa, Sa)] 50 [] [] → V cX6_letDrawnDaysGo RX6 6 177 6 G Γ [(o, S), (oa, Sa)] 8 [(0, .ref (wA G o 0)), (1, .ref (wA G oa 0)), (2, .int l2), (4, .int l4)] [] := by
  intro n
  induction n with
  | zero => intro l4 S r hf hx; unfold pX6_letDrawnDaysGo_l8 at hf; cases hf
  | succ n ih =>
    intro l4 S r hf hx
    have hrec : ∀ {l4 : Int32} {S : Ob}, pX6_letDrawnDaysGo_l8  Sa l2 n l4 S = some r → V cX6_letDrawnDaysGo RX6 6 177 6 G Γ [(o, S), (oa, Sa)] 8 [(0, .ref (wA G o 0)), (1, .ref (wA G oa 0)), (2, .int l2), (4, .int l4)] [] := fun h => ih h hx
    clear ih
    unfold pX6_letDrawnDaysGo_l8 at hf
    refine v_iload (pc := 8) 3 dX6_letDrawnDaysGo_8 rfl ?_
    refine v_iload_n (pc := 10) 2 dX6_letDrawnDaysGo_10 rfl ?_
    refine v_icmp_ge (pc := 11) 50 dX6_letDrawnDaysGo_11 (by decide) (fun c1 => ?_) (fun c1 => ?_)
    · replace hf := it_t c1 hf
      have hf2 := Option.some.inj hf; subst hf2
      exact V_sub [] rfl hx
    · replace hf := it_f c1 hf
      refine v_iconst (pc := 14) (0 : Int32) dX6_letDrawnDaysGo_14 ci_0 ?_
      refine v_istore (pc := 15) [(5, _), (0, _), (1, _), (2, _), (4, _)] dX6_letDrawnDaysGo_15 (Nat.le_of_ble_eq_true rfl) rfl ?_
      replace hf := bd_some hf; obtain ⟨r5, h6, hf⟩ := hf
      refine V_sub [1, 2, 3, 4, 0] rfl (wX6_letDrawnDaysGo_l17 hk0 hk1 fu h6 ?_)
      refine v_aload_n (pc := 39) 0 dX6_letDrawnDaysGo_39 rfl ?_
      refine v_aload_n (pc := 40) 1 dX6_letDrawnDaysGo_40 rfl ?_
      replace hf := bd_some hf; obtain ⟨r7, h8, hf⟩ := hf
      refine V_call (pc := 41) (us1 := [_, _]) [0, 1] 0 (kX6_letOneDayGo (o := o) (oa := oa) hk0 hk1 h8) rfl rfl rfl rfl rfl hk0 (Nat.le_of_ble_eq_true rfl) rfl rfl rfl wm_RX6_115 md_X6_letOneDayGo (Nat.le_of_ble_eq_true rfl) (Nat.le_of_ble_eq_true rfl) rfl rfl (Nat.le_of_ble_eq_true rfl) dX6_letDrawnDaysGo_41 ?_
      refine v_iinc (pc := 44) 3 (l4 + (1 : Int32)) [(4, _), (0, _), (1, _), (2, _)] dX6_letDrawnDaysGo_44 rfl (congrArg (fun z => _ + z) ci_1) (Nat.le_of_ble_eq_true rfl) rfl ?_
      refine v_goto (pc := 47) 8 dX6_letDrawnDaysGo_47 (by decide) ?_
      exact V_sub [1, 2, 3, 0] rfl (hrec hf)
set_option maxRecDepth 20000 in
theorem kX6_letDrawnDaysGo {G : Wc} {o oa : Nat} {S : Ob} {Sa : Ob} {b : Int32} {c : Int32} {r : Ob} (hk0 : kd o = 6) (hk1 : kd oa = 4) (hf : pX6_letDrawnDaysGo S Sa  b c = some r) : Cn yX6_letDrawnDaysGo cX6_letDrawnDaysGo 6 (none) 6 177 G [.ref (wA G o 0), .ref (wA G oa 0), .int b, .int c] [(o, S), (oa, Sa)] [(o, r), (oa, Sa)] none := by
  refine V_method [(0, .ref (wA G o 0)), (1, .ref (wA G oa 0)), (2, .int b), (3, .int c)] (by decide) rfl (Nat.le_of_ble_eq_true rfl) rfl (fun Γ hF => ?_)
  unfold pX6_letDrawnDaysGo at hf
  refine v_aload_n (pc := 0) 0 dX6_letDrawnDaysGo_0 rfl ?_
  refine v_iload_n (pc := 1) 3 dX6_letDrawnDaysGo_1 rfl ?_
  refine pf_RX6_135 (pc := 2) [_, _] 0 rfl hk0 rfl dX6_letDrawnDaysGo_2 ?_
  refine v_iconst (pc := 5) (0 : Int32) dX6_letDrawnDaysGo_5 ci_0 ?_
  refine v_istore (pc := 6) [(4, _), (0, _), (1, _), (2, _), (3, _)] dX6_letDrawnDaysGo_6 (Nat.le_of_ble_eq_true rfl) rfl ?_
  replace hf := bd_some hf; obtain ⟨r9, h10, hf⟩ := hf
  refine V_sub [1, 2, 3, 0] rfl (wX6_letDrawnDaysGo_l8 hk0 hk1 fu h10 ?_)
  have hf2 := Option.some.inj hf; subst hf2
  exact V_vret (pc := 50) hF dX6_letDrawnDaysGo_50
set_option maxRecDepth 20000 in
theorem kX7_put {G : Wc} {o : Nat} {S : Ob} {a : Int32} {r : Ob} (hk0 : kd o = 7) (hf : pX7_put S  a = some r) : Cn yX7_put cX7_put 2 (none) 1 60 G [.ref (wA G o 0), .int a] [(o, S)] [(o, r)] none := by
  refine V_method [(0, .ref (wA G o 0)), (1, .int a)] (by decide) rfl (Nat.le_of_ble_eq_true rfl) rfl (fun Γ hF => ?_)
  unfold pX7_put at hf
  refine v_aload_n (pc := 0) 0 dX7_put_0 rfl ?_
  refine gf_RX7_17 (pc := 1) 0 rfl hk0 dX7_put_1 ?_
  refine v_bipush (pc := 4) (79 : Int32) dX7_put_4 cb_79 ?_
  refine v_icmp_ge (pc := 6) 29 dX7_put_6 (by decide) (fun c1 => ?_) (fun c1 => ?_)
  · replace hf := it_t c1 hf
    have hf2 := Option.some.inj hf; subst hf2
    exact V_vret (pc := 29) hF dX7_put_29
  · replace hf := it_f c1 hf
    refine v_aload_n (pc := 9) 0 dX7_put_9 rfl ?_
    refine gf_RX7_13 (pc := 10) 0 rfl hk0 dX7_put_10 ?_
    refine v_aload_n (pc := 13) 0 dX7_put_13 rfl ?_
    refine gf_RX7_17 (pc := 14) 0 rfl hk0 dX7_put_14 ?_
    refine v_iload_n (pc := 17) 1 dX7_put_17 rfl ?_
    replace hf := gd_some hf; obtain ⟨g2, hf⟩ := hf
    refine as_X7_0 (pc := 18) [_] _ 0 rfl hk0 rfl g2 rfl dX7_put_18 ?_
    refine v_aload_n (pc := 19) 0 dX7_put_19 rfl ?_
    refine v_dup (pc := 20) dX7_put_20 rfl ?_
    refine gf_RX7_17 (pc := 21) 0 rfl hk0 dX7_put_21 ?_
    refine v_iconst (pc := 24) (1 : Int32) dX7_put_24 ci_1 ?_
    refine v_iadd (pc := 25) dX7_put_25 ?_
    refine pf_RX7_17 (pc := 26) [_] 0 rfl hk0 rfl dX7_put_26 ?_
    have hf2 := Option.some.inj hf; subst hf2
    exact V_vret (pc := 29) hF dX7_put_29
set_option maxRecDepth 20000 in
theorem wX7_putName_l3 {G : Wc} {Γ : Cx} {o : Nat} {l1 : Int64} (hk0 : kd o = 7) : ∀ (n : Nat) {l3 : Int32} {S : Ob} {r : Ob}, pX7_putName_l3  l1 n l3 S = some r → V cX7_putName RX7 2 81 5 G Γ [(o, r)] 34 [] [] → V cX7_putName RX7 2 81 5 G Γ [(o, S)] 3 [(0, .ref (wA G o 0)), (1, .long l1), (3, .int l3)] [] := by
  intro n
  induction n with
  | zero => intro l3 S r hf hx; unfold pX7_putName_l3 at hf; cases hf
  | succ n ih =>
    intro l3 S r hf hx
    have hrec : ∀ {l3 : Int32} {S : Ob}, pX7_putName_l3  l1 n l3 S = some r → V cX7_putName RX7 2 81 5 G Γ [(o, S)] 3 [(0, .ref (wA G o 0)), (1, .long l1), (3, .int l3)] [] := fun h => ih h hx
    clear ih
    unfold pX7_putName_l3 at hf
    refine v_iload_n (pc := 3) 2 dX7_putName_3 rfl ?_
    refine v_if_lt (pc := 4) 34 dX7_putName_4 (by decide) (fun c1 => ?_) (fun c1 => ?_)
    · replace hf := it_t c1 hf
      have hf2 := Option.some.inj hf; subst hf2
      exact V_sub [] rfl hx
    · replace hf := it_f c1 hf
      refine v_lload_n (pc := 7) 1 dX7_putName_7 rfl ?_
      refine v_iload_n (pc := 8) 2 dX7_putName_8 rfl ?_
      refine v_lushr (pc := 9) dX7_putName_9 ?_
      refine v_ldc2_w (pc := 10) dX7_putName_10 wc_RX7_61 ?_
      refine v_land (pc := 13) dX7_putName_13 ?_
      refine v_l2i (pc := 14) dX7_putName_14 ?_
      refine v_istore (pc := 15) [(4, _), (0, _), (1, _), (3, _)] dX7_putName_15 (Nat.le_of_ble_eq_true rfl) rfl ?_
      refine v_iload (pc := 17) 0 dX7_putName_17 rfl ?_
      refine v_if_eq (pc := 19) 28 dX7_putName_19 (by decide) (fun c2 => ?_) (fun c2 => ?_)
      · replace hf := it_t c2 hf
        refine v_iinc (pc := 28) 3 (l3 + (-8 : Int32)) [(3, _), (4, _), (0, _), (1, _)] dX7_putName_28 rfl (congrArg (fun z => _ + z) ci_m8) (Nat.le_of_ble_eq_true rfl) rfl ?_
        refine v_goto (pc := 31) 3 dX7_putName_31 (by decide) ?_
        exact V_sub [2, 3, 0] rfl (hrec hf)
      · replace hf := it_f c2 hf
        refine v_aload_n (pc := 22) 1 dX7_putName_22 rfl ?_
        refine v_iload (pc := 23) 0 dX7_putName_23 rfl ?_
        replace hf := bd_some hf; obtain ⟨r3, h4, hf⟩ := hf
        refine V_call (pc := 25) (us1 := [_]) [0] 0 (kX7_put (o := o) hk0 h4) rfl rfl rfl rfl rfl hk0 (Nat.le_of_ble_eq_true rfl) rfl rfl rfl wm_RX7_36 md_X7_put (Nat.le_of_ble_eq_true rfl) (Nat.le_of_ble_eq_true rfl) rfl rfl (Nat.le_of_ble_eq_true rfl) dX7_putName_25 ?_
        refine v_iinc (pc := 28) 3 (l3 + (-8 : Int32)) [(3, _), (4, _), (0, _), (1, _)] dX7_putName_28 rfl (congrArg (fun z => _ + z) ci_m8) (Nat.le_of_ble_eq_true rfl) rfl ?_
        refine v_goto (pc := 31) 3 dX7_putName_31 (by decide) ?_
        exact V_sub [2, 3, 0] rfl (hrec hf)
set_option maxRecDepth 20000 in
theorem kX7_putName {G : Wc} {o : Nat} {S : Ob} {a : Int64} {r : Ob} (hk0 : kd o = 7) (hf : pX7_putName S  a = some r) : Cn yX7_putName cX7_putName 5 (none) 2 81 G [.ref (wA G o 0), .long a] [(o, S)] [(o, r)] none := by
  refine V_method [(0, .ref (wA G o 0)), (1, .long a)] (by decide) rfl (Nat.le_of_ble_eq_true rfl) rfl (fun Γ hF => ?_)
  unfold pX7_putName at hf
  refine v_bipush (pc := 0) (48 : Int32) dX7_putName_0 cb_48 ?_
  refine v_istore_n (pc := 2) [(3, _), (0, _), (1, _)] dX7_putName_2 (Nat.le_of_ble_eq_true rfl) rfl ?_
  replace hf := bd_some hf; obtain ⟨r5, h6, hf⟩ := hf
  refine V_sub [1, 2, 0] rfl (wX7_putName_l3 hk0 fu h6 ?_)
  have hf2 := Option.some.inj hf; subst hf2
  exact V_vret (pc := 34) hF dX7_putName_34
set_option maxRecDepth 20000 in
theorem kX7_putKnot {G : Wc} {o oa : Nat} {S : Ob} {Sa : Ob} {b : Int32} {c : Int32} {r : Ob} (hk0 : kd o = 7) (hk1 : kd oa = 4) (hf : pX7_putKnot S Sa  b c = some r) : Cn yX7_putKnot cX7_putKnot 4 (none) 3 105 G [.ref (wA G o 0), .ref (wA G oa 0), .int b, .int c] [(o, S), (oa, Sa)] [(o, r), (oa, Sa)] none := by
  refine V_method [(0, .ref (wA G o 0)), (1, .ref (wA G oa 0)), (2, .int b), (3, .int c)] (by decide) rfl (Nat.le_of_ble_eq_true rfl) rfl (fun Γ hF => ?_)
  unfold pX7_putKnot at hf
  refine v_iload_n (pc := 0) 2 dX7_putKnot_0 rfl ?_
  refine v_if_lt (pc := 1) 10 dX7_putKnot_1 (by decide) (fun c1 => ?_) (fun c1 => ?_)
  · replace hf := it_t c1 hf
    have hf2 := Option.some.inj hf; subst hf2
    exact V_vret (pc := 10) hF dX7_putKnot_10
  · replace hf := it_f c1 hf
    refine v_iload_n (pc := 4) 2 dX7_putKnot_4 rfl ?_
    refine v_bipush (pc := 5) (8 : Int32) dX7_putKnot_5 cb_8 ?_
    refine v_icmp_lt (pc := 7) 11 dX7_putKnot_7 (by decide) (fun c2 => ?_) (fun c2 => ?_)
    · replace hf := it_t c2 hf
      refine v_aload_n (pc := 11) 0 dX7_putKnot_11 rfl ?_
      refine v_bipush (pc := 12) (32 : Int32) dX7_putKnot_12 cb_32 ?_
      replace hf := bd_some hf; obtain ⟨r3, h4, hf⟩ := hf
      refine V_call (pc := 14) (us1 := [_, _]) [0] 0 (kX7_put (o := o) hk0 h4) rfl rfl rfl rfl rfl hk0 (Nat.le_of_ble_eq_true rfl) rfl rfl rfl wm_RX7_36 md_X7_put (Nat.le_of_ble_eq_true rfl) (Nat.le_of_ble_eq_true rfl) rfl rfl (Nat.le_of_ble_eq_true rfl) dX7_putKnot_14 ?_
      refine v_aload_n (pc := 17) 0 dX7_putKnot_17 rfl ?_
      refine v_aload_n (pc := 18) 1 dX7_putKnot_18 rfl ?_
      refine gf_RX7_58 (pc := 19) 1 rfl hk1 dX7_putKnot_19 ?_
      refine v_iload_n (pc := 22) 2 dX7_putKnot_22 rfl ?_
      replace hf := gd_some hf; obtain ⟨g5, hf⟩ := hf
      refine al_X4_1 (pc := 23) _ 1 rfl hk1 rfl g5 dX7_putKnot_23 ?_
      replace hf := bd_some hf; obtain ⟨r6, h7, hf⟩ := hf
      refine V_call (pc := 24) (us1 := [_, _]) [0] 0 (kX7_putName (o := o) hk0 h7) rfl rfl rfl rfl rfl hk0 (Nat.le_of_ble_eq_true rfl) rfl rfl rfl wm_RX7_27 md_X7_putName (Nat.le_of_ble_eq_true rfl) (Nat.le_of_ble_eq_true rfl) rfl rfl (Nat.le_of_ble_eq_true rfl) dX7_putKnot_24 ?_
      refine v_iload_n (pc := 27) 3 dX7_putKnot_27 rfl ?_
      refine v_iconst (pc := 28) (1 : Int32) dX7_putKnot_28 ci_1 ?_
      refine v_icmp_le (pc := 29) 40 dX7_putKnot_29 (by decide) (fun c8 => ?_) (fun c8 => ?_)
      · replace hf := it_t c8 hf
        have hf2 := Option.some.inj hf; subst hf2
        exact V_vret (pc := 40) hF dX7_putKnot_40
      · replace hf := it_f c8 hf
        refine v_aload_n (pc := 32) 0 dX7_putKnot_32 rfl ?_
        refine v_bipush (pc := 33) (48 : Int32) dX7_putKnot_33 cb_48 ?_
        refine v_iload_n (pc := 35) 3 dX7_putKnot_35 rfl ?_
        refine v_iadd (pc := 36) dX7_putKnot_36 ?_
        replace hf := bd_some hf; obtain ⟨r9, h10, hf⟩ := hf
        refine V_call (pc := 37) (us1 := [_, _]) [0] 0 (kX7_put (o := o) hk0 h10) rfl rfl rfl rfl rfl hk0 (Nat.le_of_ble_eq_true rfl) rfl rfl rfl wm_RX7_36 md_X7_put (Nat.le_of_ble_eq_true rfl) (Nat.le_of_ble_eq_true rfl) rfl rfl (Nat.le_of_ble_eq_true rfl) dX7_putKnot_37 ?_
        have hf2 := Option.some.inj hf; subst hf2
        exact V_vret (pc := 40) hF dX7_putKnot_40
    · replace hf := it_f c2 hf
      have hf2 := Option.some.inj hf; subst hf2
      exact V_vret (pc := 10) hF dX7_putKnot_10
set_option maxRecDepth 20000 in
theorem wX7_write_l46 {G : Wc} {Γ : Cx} {o oa ob : Nat} {Sa : Ob} {Sb : Ob} {l3 : Int32} (hk0 : kd o = 7) (hk1 : kd oa = 4) (hk2 : kd ob = 6) : ∀ (n : Nat) {l4 : Int32} {l5 : Int32} {S : Ob} {r : Ob}, pX7_write_l46  Sa Sb l3 n l4 l5 S = some r → V cX7_write RX7 4 128 7 G Γ [(o, r), (oa, Sa), (ob, Sb)] 101 [] [] → V cX7_write RX7 4 128 7 G Γ [(o, S), (oa, Sa), (ob, Sb)] 46 [(0, .ref (wA G o 0)), (1, .ref (wA G oa 0)), (2, .ref (wA G ob 0)), (3, .int l3), (4, .int l4), (5, .int l5)] [] := by
  intro n
  induction n with
  | zero => intro l4 l5 S r hf hx; unfold pX7_write_l46 at hf; cases hf
  | succ n ih =>
    intro l4 l5 S r hf hx
    have hrec : ∀ {l4 : Int32} {l5 : Int32} {S : Ob}, pX7_write_l46  Sa Sb l3 n l4 l5 S = some r → V cX7_write RX7 4 128 7 G Γ [(o, S), (oa, Sa), (ob, Sb)] 46 [(0, .ref (wA G o 0)), (1, .ref (wA G oa 0)), (2, .ref (wA G ob 0)), (3, .int l3), (4, .int l4), (5, .int l5)] [] := fun h => ih h hx
    clear ih
    unfold pX7_write_l46 at hf
    refine v_iload (pc := 46) 5 dX7_write_46 rfl ?_
    refine v_aload_n (pc := 48) 2 dX7_write_48 rfl ?_
    refine gf_RX7_31 (pc := 49) 2 rfl hk2 dX7_write_49 ?_
    refine v_iload_n (pc := 52) 3 dX7_write_52 rfl ?_
    replace hf := gd_some hf; obtain ⟨g6, hf⟩ := hf
    refine al_X6_1 (pc := 53) _ 2 rfl hk2 rfl g6 dX7_write_53 ?_
    refine v_icmp_ge (pc := 54) 101 dX7_write_54 (by decide) (fun c7 => ?_) (fun c7 => ?_)
    · replace hf := it_t c7 hf
      have hf2 := Option.some.inj hf; subst hf2
      exact V_sub [] rfl hx
    · replace hf := it_f c7 hf
      refine v_aload_n (pc := 57) 2 dX7_write_57 rfl ?_
      refine v_iload_n (pc := 58) 3 dX7_write_58 rfl ?_
      refine v_iload (pc := 59) 5 dX7_write_59 rfl ?_
      replace hf := bd_some hf; obtain ⟨r8, h9, hf⟩ := hf
      refine V_call (pc := 61) (us1 := [_, _, _]) [2] 2 (kX6_layerAt (o := ob) hk2 h9) rfl rfl rfl rfl rfl hk2 (Nat.le_of_ble_eq_true rfl) rfl rfl rfl wm_RX7_50 md_X6_layerAt (Nat.le_of_ble_eq_true rfl) (Nat.le_of_ble_eq_true rfl) rfl rfl (Nat.le_of_ble_eq_true rfl) dX7_write_61 ?_
      refine v_istore (pc := 64) [(6, _), (0, _), (1, _), (2, _), (3, _), (4, _), (5, _)] dX7_write_64 (Nat.le_of_ble_eq_true rfl) rfl ?_
      refine v_iinc (pc := 66) 5 (l4 + (1 : Int32)) [(4, _), (6, _), (0, _), (1, _), (2, _), (3, _), (5, _)] dX7_write_66 rfl (congrArg (fun z => _ + z) ci_1) (Nat.le_of_ble_eq_true rfl) rfl ?_
      refine v_iload (pc := 69) 1 dX7_write_69 rfl ?_
      refine v_aload_n (pc := 71) 4 dX7_write_71 rfl ?_
      refine v_iload_n (pc := 72) 5 dX7_write_72 rfl ?_
      refine v_iload (pc := 73) 6 dX7_write_73 rfl ?_
      refine v_iconst (pc := 75) (1 : Int32) dX7_write_75 ci_1 ?_
      refine v_iadd (pc := 76) dX7_write_76 ?_
      replace hf := bd_some hf; obtain ⟨r10, h11, hf⟩ := hf
      refine V_call (pc := 77) (us1 := [_, _, _]) [2] 2 (kX6_layerAt (o := ob) hk2 h11) rfl rfl rfl rfl rfl hk2 (Nat.le_of_ble_eq_true rfl) rfl rfl rfl wm_RX7_50 md_X6_layerAt (Nat.le_of_ble_eq_true rfl) (Nat.le_of_ble_eq_true rfl) rfl rfl (Nat.le_of_ble_eq_true rfl) dX7_write_77 ?_
      refine v_icmp_eq (pc := 80) 95 dX7_write_80 (by decide) (fun c12 => ?_) (fun c12 => ?_)
      · replace hf := it_t c12 hf
        refine v_iinc (pc := 95) 6 (l5 + (1 : Int32)) [(5, _), (4, _), (6, _), (0, _), (1, _), (2, _), (3, _)] dX7_write_95 rfl (congrArg (fun z => _ + z) ci_1) (Nat.le_of_ble_eq_true rfl) rfl ?_
        refine v_goto (pc := 98) 46 dX7_write_98 (by decide) ?_
        exact V_sub [3, 4, 5, 6, 1, 0] rfl (hrec hf)
      · replace hf := it_f c12 hf
        refine v_aload_n (pc := 83) 2 dX7_write_83 rfl ?_
        refine v_aload_n (pc := 84) 3 dX7_write_84 rfl ?_
        refine v_iload (pc := 85) 1 dX7_write_85 rfl ?_
        refine v_iload (pc := 87) 0 dX7_write_87 rfl ?_
        replace hf := bd_some hf; obtain ⟨r13, h14, hf⟩ := hf
        refine V_call (pc := 89) (us1 := [_, _, _]) [0, 1] 0 (kX7_putKnot (o := o) (oa := oa) hk0 hk1 h14) rfl rfl rfl rfl rfl hk0 (Nat.le_of_ble_eq_true rfl) rfl rfl rfl wm_RX7_54 md_X7_putKnot (Nat.le_of_ble_eq_true rfl) (Nat.le_of_ble_eq_true rfl) rfl rfl (Nat.le_of_ble_eq_true rfl) dX7_write_89 ?_
        refine v_iconst (pc := 92) (0 : Int32) dX7_write_92 ci_0 ?_
        refine v_istore (pc := 93) [(4, _), (6, _), (0, _), (1, _), (2, _), (3, _), (5, _)] dX7_write_93 (Nat.le_of_ble_eq_true rfl) rfl ?_
        refine v_iinc (pc := 95) 6 (l5 + (1 : Int32)) [(5, _), (4, _), (6, _), (0, _), (1, _), (2, _), (3, _)] dX7_write_95 rfl (congrArg (fun z => _ + z) ci_1) (Nat.le_of_ble_eq_true rfl) rfl ?_
        refine v_goto (pc := 98) 46 dX7_write_98 (by decide) ?_
        exact V_sub [3, 4, 5, 6, 1, 0] rfl (hrec hf)
set_option maxRecDepth 20000 in
theorem wX7_write_j40 {G : Wc} {Γ : Cx} {o oa ob : Nat} {S : Ob} {Sa : Ob} {Sb : Ob} {l3 : Int32} {r : Ob} (hk0 : kd o = 7) (hk1 : kd oa = 4) (hk2 : kd ob = 6) (hF : Fnl G Γ (none) none (ov Γ.2.2.2 [(o, r), (oa, Sa), (ob, Sb)])) (hf : pX7_write_j40 S Sa Sb l3 = some r) : V cX7_write RX7 4 128 7 G Γ [(o, S), (oa, Sa), (ob, Sb)] 40 [(0, .ref (wA G o 0)), (1, .ref (wA G oa 0)), (2, .ref (wA G ob 0)), (3, .int l3)] [] := by
  unfold pX7_write_j40 at hf
  refine v_iconst (pc := 40) (0 : Int32) dX7_write_40 ci_0 ?_
  refine v_istore (pc := 41) [(4, _), (0, _), (1, _), (2, _), (3, _)] dX7_write_41 (Nat.le_of_ble_eq_true rfl) rfl ?_
  refine v_iconst (pc := 43) (0 : Int32) dX7_write_43 ci_0 ?_
  refine v_istore (pc := 44) [(5, _), (4, _), (0, _), (1, _), (2, _), (3, _)] dX7_write_44 (Nat.le_of_ble_eq_true rfl) rfl ?_
  replace hf := bd_some hf; obtain ⟨r15, h16, hf⟩ := hf
  refine V_sub [2, 3, 4, 5, 1, 0] rfl (wX7_write_l46 hk0 hk1 hk2 fu h16 ?_)
  have hf2 := Option.some.inj hf; subst hf2
  exact V_vret (pc := 101) hF dX7_write_101
set_option maxRecDepth 20000 in
theorem kX7_write {G : Wc} {o oa ob : Nat} {S : Ob} {Sa : Ob} {Sb : Ob} {c : Int32} {r : Ob} (hk0 : kd o = 7) (hk1 : kd oa = 4) (hk2 : kd ob = 6) (hf : pX7_write S Sa Sb  c = some r) : Cn yX7_write cX7_write 7 (none) 4 128 G [.ref (wA G o 0), .ref (wA G oa 0), .ref (wA G ob 0), .int c] [(o, S), (oa, Sa), (ob, Sb)] [(o, r), (oa, Sa), (ob, Sb)] none := by
  refine V_method [(0, .ref (wA G o 0)), (1, .ref (wA G oa 0)), (2, .ref (wA G ob 0)), (3, .int c)] (by decide) rfl (Nat.le_of_ble_eq_true rfl) rfl (fun Γ hF => ?_)
  unfold pX7_write at hf
  refine v_aload_n (pc := 0) 0 dX7_write_0 rfl ?_
  refine v_iconst (pc := 1) (0 : Int32) dX7_write_1 ci_0 ?_
  refine pf_RX7_17 (pc := 2) [_, _, _] 0 rfl hk0 rfl dX7_write_2 ?_
  refine v_aload_n (pc := 5) 0 dX7_write_5 rfl ?_
  refine v_aload_n (pc := 6) 1 dX7_write_6 rfl ?_
  refine gf_RX7_21 (pc := 7) 1 rfl hk1 dX7_write_7 ?_
  refine v_iload_n (pc := 10) 3 dX7_write_10 rfl ?_
  replace hf := gd_some hf; obtain ⟨g1, hf⟩ := hf
  refine al_X4_5 (pc := 11) _ 1 rfl hk1 rfl g1 dX7_write_11 ?_
  replace hf := bd_some hf; obtain ⟨r2, h3, hf⟩ := hf
  refine V_call (pc := 12) (us1 := [_, _, _]) [0] 0 (kX7_putName (o := o) hk0 h3) rfl rfl rfl rfl rfl hk0 (Nat.le_of_ble_eq_true rfl) rfl rfl rfl wm_RX7_27 md_X7_putName (Nat.le_of_ble_eq_true rfl) (Nat.le_of_ble_eq_true rfl) rfl rfl (Nat.le_of_ble_eq_true rfl) dX7_write_12 ?_
  refine v_aload_n (pc := 15) 2 dX7_write_15 rfl ?_
  refine gf_RX7_31 (pc := 16) 2 rfl hk2 dX7_write_16 ?_
  refine v_iload_n (pc := 19) 3 dX7_write_19 rfl ?_
  replace hf := gd_some hf; obtain ⟨g4, hf⟩ := hf
  refine al_X6_1 (pc := 20) _ 2 rfl hk2 rfl g4 dX7_write_20 ?_
  refine v_if_ne (pc := 21) 40 dX7_write_21 (by decide) (fun c5 => ?_) (fun c5 => ?_)
  · replace hf := it_f c5 hf
    exact V_sub [0, 1, 2, 3] rfl (wX7_write_j40 hk0 hk1 hk2 hF hf)
  · replace hf := it_t c5 hf
    refine v_aload_n (pc := 24) 0 dX7_write_24 rfl ?_
    refine v_bipush (pc := 25) (32 : Int32) dX7_write_25 cb_32 ?_
    replace hf := bd_some hf; obtain ⟨r17, h18, hf⟩ := hf
    refine V_call (pc := 27) (us1 := [_, _, _]) [0] 0 (kX7_put (o := o) hk0 h18) rfl rfl rfl rfl rfl hk0 (Nat.le_of_ble_eq_true rfl) rfl rfl rfl wm_RX7_36 md_X7_put (Nat.le_of_ble_eq_true rfl) (Nat.le_of_ble_eq_true rfl) rfl rfl (Nat.le_of_ble_eq_true rfl) dX7_write_27 ?_
    refine v_aload_n (pc := 30) 0 dX7_write_30 rfl ?_
    refine V_gete (pc := 31) 14 "BARE" (by decide) rfl wf_RX7_40 dX7_write_31 ?_
    refine V_getcodeN (pc := 34) (by decide) wf_RX7_46 dX7_write_34 ?_
    replace hf := bd_some hf; obtain ⟨r19, h20, hf⟩ := hf
    refine V_call (pc := 37) (us1 := [_, _, _]) [0] 0 (kX7_putName (o := o) hk0 h20) rfl rfl rfl rfl rfl hk0 (Nat.le_of_ble_eq_true rfl) rfl rfl rfl wm_RX7_27 md_X7_putName (Nat.le_of_ble_eq_true rfl) (Nat.le_of_ble_eq_true rfl) rfl rfl (Nat.le_of_ble_eq_true rfl) dX7_write_37 ?_
    exact V_sub [0, 1, 2, 3] rfl (wX7_write_j40 hk0 hk1 hk2 hF hf)
set_option maxRecDepth 20000 in
theorem wX8_putNumber_l3 {G : Wc} {Γ : Cx} {o : Nat} {l1 : Int32} (hk0 : kd o = 8) : ∀ (n : Nat) {l2 : Int32} {S : Ob} {r : Ob}, pX8_putNumber_l3  l1 n l2 S = some r → V cX8_putNumber RX8 1 60 3 G Γ [(o, r)] 49 [] [] → V cX8_putNumber RX8 1 60 3 G Γ [(o, S)] 3 [(0, .ref (wA G o 0)), (1, .int l1), (2, .int l2)] [] := by
  intro n
  induction n with
  | zero => intro l2 S r hf hx; unfold pX8_putNumber_l3 at hf; cases hf
  | succ n ih =>
    intro l2 S r hf hx
    have hrec : ∀ {l2 : Int32} {S : Ob}, pX8_putNumber_l3  l1 n l2 S = some r → V cX8_putNumber RX8 1 60 3 G Γ [(o, S)] 3 [(0, .ref (wA G o 0)), (1, .int l1), (2, .int l2)] [] := fun h => ih h hx
    clear ih
    unfold pX8_putNumber_l3 at hf
    refine v_iload_n (pc := 3) 2 dX8_putNumber_3 rfl ?_
    refine v_if_lt (pc := 4) 49 dX8_putNumber_4 (by decide) (fun c1 => ?_) (fun c1 => ?_)
    · replace hf := it_t c1 hf
      have hf2 := Option.some.inj hf; subst hf2
      exact V_sub [] rfl hx
    · replace hf := it_f c1 hf
      refine v_aload_n (pc := 7) 0 dX8_putNumber_7 rfl ?_
      refine gf_RX8_15 (pc := 8) 0 rfl hk0 dX8_putNumber_8 ?_
      refine v_sipush (pc := 11) (940 : Int32) dX8_putNumber_11 cs_940 ?_
      refine v_icmp_ge (pc := 14) 49 dX8_putNumber_14 (by decide) (fun c2 => ?_) (fun c2 => ?_)
      · replace hf := it_t c2 hf
        have hf2 := Option.some.inj hf; subst hf2
        exact V_sub [] rfl hx
      · replace hf := it_f c2 hf
        refine v_aload_n (pc := 17) 0 dX8_putNumber_17 rfl ?_
        refine gf_RX8_11 (pc := 18) 0 rfl hk0 dX8_putNumber_18 ?_
        refine v_aload_n (pc := 21) 0 dX8_putNumber_21 rfl ?_
        refine gf_RX8_15 (pc := 22) 0 rfl hk0 dX8_putNumber_22 ?_
        refine v_iload_n (pc := 25) 1 dX8_putNumber_25 rfl ?_
        refine v_iload_n (pc := 26) 2 dX8_putNumber_26 rfl ?_
        refine v_iushr (pc := 27) dX8_putNumber_27 ?_
        refine v_sipush (pc := 28) (255 : Int32) dX8_putNumber_28 cs_255 ?_
        refine v_iand (pc := 31) dX8_putNumber_31 ?_
        replace hf := gd_some hf; obtain ⟨g3, hf⟩ := hf
        refine as_X8_0 (pc := 32) [_] _ 0 rfl hk0 rfl g3 rfl dX8_putNumber_32 ?_
        refine v_aload_n (pc := 33) 0 dX8_putNumber_33 rfl ?_
        refine v_dup (pc := 34) dX8_putNumber_34 rfl ?_
        refine gf_RX8_15 (pc := 35) 0 rfl hk0 dX8_putNumber_35 ?_
        refine v_iconst (pc := 38) (1 : Int32) dX8_putNumber_38 ci_1 ?_
        refine v_iadd (pc := 39) dX8_putNumber_39 ?_
        refine pf_RX8_15 (pc := 40) [_] 0 rfl hk0 rfl dX8_putNumber_40 ?_
        refine v_iinc (pc := 43) 2 (l2 + (-8 : Int32)) [(2, _), (0, _), (1, _)] dX8_putNumber_43 rfl (congrArg (fun z => _ + z) ci_m8) (Nat.le_of_ble_eq_true rfl) rfl ?_
        refine v_goto (pc := 46) 3 dX8_putNumber_46 (by decide) ?_
        exact V_sub [1, 2, 0] rfl (hrec hf)
set_option maxRecDepth 20000 in
theorem kX8_putNumber {G : Wc} {o : Nat} {S : Ob} {a : Int32} {r : Ob} (hk0 : kd o = 8) (hf : pX8_putNumber S  a = some r) : Cn yX8_putNumber cX8_putNumber 3 (none) 1 60 G [.ref (wA G o 0), .int a] [(o, S)] [(o, r)] none := by
  refine V_method [(0, .ref (wA G o 0)), (1, .int a)] (by decide) rfl (Nat.le_of_ble_eq_true rfl) rfl (fun Γ hF => ?_)
  unfold pX8_putNumber at hf
  refine v_bipush (pc := 0) (24 : Int32) dX8_putNumber_0 cb_24 ?_
  refine v_istore_n (pc := 2) [(2, _), (0, _), (1, _)] dX8_putNumber_2 (Nat.le_of_ble_eq_true rfl) rfl ?_
  replace hf := bd_some hf; obtain ⟨r4, h5, hf⟩ := hf
  refine V_sub [1, 2, 0] rfl (wX8_putNumber_l3 hk0 fu h5 ?_)
  have hf2 := Option.some.inj hf; subst hf2
  exact V_vret (pc := 49) hF dX8_putNumber_49
set_option maxRecDepth 20000 in
theorem kX10_feed {G : Wc} {V0 : Ob} {V1 : Ob} {a : Int32} {b : Int32} {c : Int32} {d : Int32} {e : Int32} {r : Int32 × Ob}  (hf : pX10_feed V0 V1  a b c d e = some r) : Cn yX10_feed cX10_feed 6 (some .int) 2 82 G [.ref (wA G 0 0), .int a, .int b, .int c, .int d, .int e] [(0, V0), (1, V1)] [(0, V0), (1, r.2)] (some (.int r.1)) := by
  refine V_method [(0, .ref (wA G 0 0)), (1, .int a), (2, .int b), (3, .int c), (4, .int d), (5, .int e)] (by decide) rfl (Nat.le_of_ble_eq_true rfl) rfl (fun Γ hF => ?_)
  unfold pX10_feed at hf
  refine v_aload_n (pc := 0) 0 dX10_feed_0 rfl ?_
  refine gf_RX10_10 (pc := 1) 0 rfl rfl dX10_feed_1 ?_
  refine gf_RX10_94 (pc := 4) 1 rfl rfl dX10_feed_4 ?_
  refine v_bipush (pc := 7) (20 : Int32) dX10_feed_7 cb_20 ?_
  refine v_iadd (pc := 9) dX10_feed_9 ?_
  refine v_sipush (pc := 10) (940 : Int32) dX10_feed_10 cs_940 ?_
  refine v_icmp_le (pc := 13) 18 dX10_feed_13 (by decide) (fun c1 => ?_) (fun c1 => ?_)
  · replace hf := it_t c1 hf
    refine v_aload_n (pc := 18) 0 dX10_feed_18 rfl ?_
    refine gf_RX10_10 (pc := 19) 0 rfl rfl dX10_feed_19 ?_
    refine v_iload_n (pc := 22) 1 dX10_feed_22 rfl ?_
    replace hf := bd_some hf; obtain ⟨r2, h3, hf⟩ := hf
    refine V_call (pc := 23) (us1 := [_, _]) [1] 1 (kX8_putNumber (o := 1) rfl h3) rfl rfl rfl rfl rfl rfl (Nat.le_of_ble_eq_true rfl) rfl rfl rfl wm_RX10_97 md_X8_putNumber (Nat.le_of_ble_eq_true rfl) (Nat.le_of_ble_eq_true rfl) rfl rfl (Nat.le_of_ble_eq_true rfl) dX10_feed_23 ?_
    refine v_aload_n (pc := 26) 0 dX10_feed_26 rfl ?_
    refine gf_RX10_10 (pc := 27) 0 rfl rfl dX10_feed_27 ?_
    refine v_iload_n (pc := 30) 2 dX10_feed_30 rfl ?_
    replace hf := bd_some hf; obtain ⟨r4, h5, hf⟩ := hf
    refine V_call (pc := 31) (us1 := [_, _]) [1] 1 (kX8_putNumber (o := 1) rfl h5) rfl rfl rfl rfl rfl rfl (Nat.le_of_ble_eq_true rfl) rfl rfl rfl wm_RX10_97 md_X8_putNumber (Nat.le_of_ble_eq_true rfl) (Nat.le_of_ble_eq_true rfl) rfl rfl (Nat.le_of_ble_eq_true rfl) dX10_feed_31 ?_
    refine v_aload_n (pc := 34) 0 dX10_feed_34 rfl ?_
    refine gf_RX10_10 (pc := 35) 0 rfl rfl dX10_feed_35 ?_
    refine v_iload_n (pc := 38) 3 dX10_feed_38 rfl ?_
    replace hf := bd_some hf; obtain ⟨r6, h7, hf⟩ := hf
    refine V_call (pc := 39) (us1 := [_, _]) [1] 1 (kX8_putNumber (o := 1) rfl h7) rfl rfl rfl rfl rfl rfl (Nat.le_of_ble_eq_true rfl) rfl rfl rfl wm_RX10_97 md_X8_putNumber (Nat.le_of_ble_eq_true rfl) (Nat.le_of_ble_eq_true rfl) rfl rfl (Nat.le_of_ble_eq_true rfl) dX10_feed_39 ?_
    refine v_aload_n (pc := 42) 0 dX10_feed_42 rfl ?_
    refine gf_RX10_10 (pc := 43) 0 rfl rfl dX10_feed_43 ?_
    refine v_iload (pc := 46) 4 dX10_feed_46 rfl ?_
    replace hf := bd_some hf; obtain ⟨r8, h9, hf⟩ := hf
    refine V_call (pc := 48) (us1 := [_, _]) [1] 1 (kX8_putNumber (o := 1) rfl h9) rfl rfl rfl rfl rfl rfl (Nat.le_of_ble_eq_true rfl) rfl rfl rfl wm_RX10_97 md_X8_putNumber (Nat.le_of_ble_eq_true rfl) (Nat.le_of_ble_eq_true rfl) rfl rfl (Nat.le_of_ble_eq_true rfl) dX10_feed_48 ?_
    refine v_aload_n (pc := 51) 0 dX10_feed_51 rfl ?_
    refine gf_RX10_10 (pc := 52) 0 rfl rfl dX10_feed_52 ?_
    refine v_iload (pc := 55) 5 dX10_feed_55 rfl ?_
    replace hf := bd_some hf; obtain ⟨r10, h11, hf⟩ := hf
    refine V_call (pc := 57) (us1 := [_, _]) [1] 1 (kX8_putNumber (o := 1) rfl h11) rfl rfl rfl rfl rfl rfl (Nat.le_of_ble_eq_true rfl) rfl rfl rfl wm_RX10_97 md_X8_putNumber (Nat.le_of_ble_eq_true rfl) (Nat.le_of_ble_eq_true rfl) rfl rfl (Nat.le_of_ble_eq_true rfl) dX10_feed_57 ?_
    refine v_aload_n (pc := 60) 0 dX10_feed_60 rfl ?_
    refine gf_RX10_10 (pc := 61) 0 rfl rfl dX10_feed_61 ?_
    refine gf_RX10_94 (pc := 64) 1 rfl rfl dX10_feed_64 ?_
    have hf2 := Option.some.inj hf; subst hf2
    exact V_iret (pc := 67) hF dX10_feed_67
  · replace hf := it_f c1 hf
    refine v_iconst (pc := 16) (-1 : Int32) dX10_feed_16 ci_m1 ?_
    have hf2 := Option.some.inj hf; subst hf2
    exact V_iret (pc := 17) hF dX10_feed_17
set_option maxRecDepth 20000 in
theorem kX10_end {G : Wc} {V0 : Ob} {V1 : Ob} {a : Int32} {r : Int32 × Ob}  (hf : pX10_end V0 V1  a = some r) : Cn yX10_end cX10_end 2 (some .boolean) 1 60 G [.ref (wA G 0 0), .int a] [(0, V0), (1, V1)] [(0, V0), (1, r.2)] (some (.int r.1)) := by
  refine V_method [(0, .ref (wA G 0 0)), (1, .int a)] (by decide) rfl (Nat.le_of_ble_eq_true rfl) rfl (fun Γ hF => ?_)
  unfold pX10_end at hf
  refine v_iload_n (pc := 0) 1 dX10_end_0 rfl ?_
  refine v_if_lt (pc := 1) 15 dX10_end_1 (by decide) (fun c1 => ?_) (fun c1 => ?_)
  · replace hf := it_t c1 hf
    refine v_iconst (pc := 15) (0 : Int32) dX10_end_15 ci_0 ?_
    have hf2 := Option.some.inj hf; subst hf2
    exact V_zret (pc := 16) hF rfl dX10_end_16
  · replace hf := it_f c1 hf
    refine v_iload_n (pc := 4) 1 dX10_end_4 rfl ?_
    refine v_aload_n (pc := 5) 0 dX10_end_5 rfl ?_
    refine gf_RX10_10 (pc := 6) 0 rfl rfl dX10_end_6 ?_
    refine gf_RX10_94 (pc := 9) 1 rfl rfl dX10_end_9 ?_
    refine v_icmp_le (pc := 12) 17 dX10_end_12 (by decide) (fun c2 => ?_) (fun c2 => ?_)
    · replace hf := it_t c2 hf
      refine v_aload_n (pc := 17) 0 dX10_end_17 rfl ?_
      refine gf_RX10_10 (pc := 18) 0 rfl rfl dX10_end_18 ?_
      refine v_iload_n (pc := 21) 1 dX10_end_21 rfl ?_
      refine pf_RX10_94 (pc := 22) [_, _] 1 rfl rfl rfl dX10_end_22 ?_
      refine v_iconst (pc := 25) (1 : Int32) dX10_end_25 ci_1 ?_
      have hf2 := Option.some.inj hf; subst hf2
      exact V_zret (pc := 26) hF rfl dX10_end_26
    · replace hf := it_f c2 hf
      refine v_iconst (pc := 15) (0 : Int32) dX10_end_15 ci_0 ?_
      have hf2 := Option.some.inj hf; subst hf2
      exact V_zret (pc := 16) hF rfl dX10_end_16
set_option maxRecDepth 20000 in
theorem kX10_quarter {G : Wc} {V0 : Ob} {V11 : Ob} {V1 : Ob} {V13 : Ob} {V2 : Ob} {V3 : Ob} {V4 : Ob} {V5 : Ob}  {r : Int32 × Ob × Ob × Ob × Ob × Ob × Ob × Ob × Ob}  (hf : pX10_quarter V0 V11 V1 V13 V2 V3 V4 V5   = some r) : Cn yX10_quarter cX10_quarter 2 (some .int) 7 198 G [.ref (wA G 0 0)] [(0, V0), (11, V11), (1, V1), (13, V13), (2, V2), (3, V3), (4, V4), (5, V5)] [(0, r.2.1), (11, r.2.2.1), (1, r.2.2.2.1), (13, r.2.2.2.2.1), (2, r.2.2.2.2.2.1), (3, r.2.2.2.2.2.2.1), (4, r.2.2.2.2.2.2.2.1), (5, r.2.2.2.2.2.2.2.2)] (some (.int r.1)) := by
  refine V_method [(0, .ref (wA G 0 0))] (by decide) rfl (Nat.le_of_ble_eq_true rfl) rfl (fun Γ hF => ?_)
  unfold pX10_quarter at hf
  refine v_aload_n (pc := 0) 0 dX10_quarter_0 rfl ?_
  refine gf_RX10_72 (pc := 1) 0 rfl rfl dX10_quarter_1 ?_
  refine v_aload_n (pc := 4) 0 dX10_quarter_4 rfl ?_
  refine gf_RX10_10 (pc := 5) 0 rfl rfl dX10_quarter_5 ?_
  refine v_aload_n (pc := 8) 0 dX10_quarter_8 rfl ?_
  refine gf_RX10_78 (pc := 9) 0 rfl rfl dX10_quarter_9 ?_
  replace hf := bd_some hf; obtain ⟨r1, h2, hf⟩ := hf
  refine V_call (pc := 12) (us1 := [_, _, _, _, _, _, _, _]) [1, 2, 3] 1 (kX4_readFrom (o := 11) (oa := 1) (ob := 13) rfl rfl rfl h2) rfl rfl rfl rfl rfl rfl (Nat.le_of_ble_eq_true rfl) rfl rfl rfl wm_RX10_101 md_X4_readFrom (Nat.le_of_ble_eq_true rfl) (Nat.le_of_ble_eq_true rfl) rfl rfl (Nat.le_of_ble_eq_true rfl) dX10_quarter_12 ?_
  refine v_istore_n (pc := 15) [(1, _), (0, _)] dX10_quarter_15 (Nat.le_of_ble_eq_true rfl) rfl ?_
  refine v_aload_n (pc := 16) 1 dX10_quarter_16 rfl ?_
  refine gf_RX10_10 (pc := 17) 0 rfl rfl dX10_quarter_17 ?_
  refine v_iconst (pc := 20) (0 : Int32) dX10_quarter_20 ci_0 ?_
  refine pf_RX10_94 (pc := 21) [_, _, _, _, _, _, _, _] 2 rfl rfl rfl dX10_quarter_21 ?_
  refine v_aload_n (pc := 24) 1 dX10_quarter_24 rfl ?_
  refine v_aload_n (pc := 25) 1 dX10_quarter_25 rfl ?_
  refine gf_RX10_10 (pc := 26) 0 rfl rfl dX10_quarter_26 ?_
  refine gf_RX10_105 (pc := 29) 2 rfl rfl dX10_quarter_29 ?_
  refine pf_RX10_81 (pc := 32) [_, _, _, _, _, _, _, _] 0 rfl rfl rfl dX10_quarter_32 ?_
  refine v_aload_n (pc := 35) 1 dX10_quarter_35 rfl ?_
  refine gf_RX10_81 (pc := 36) 0 rfl rfl dX10_quarter_36 ?_
  refine v_if_eq (pc := 39) 52 dX10_quarter_39 (by decide) (fun c3 => ?_) (fun c3 => ?_)
  · replace hf := it_t c3 hf
    refine v_aload_n (pc := 52) 1 dX10_quarter_52 rfl ?_
    refine gf_RX10_19 (pc := 53) 0 rfl rfl dX10_quarter_53 ?_
    refine v_aload_n (pc := 56) 1 dX10_quarter_56 rfl ?_
    refine gf_RX10_72 (pc := 57) 0 rfl rfl dX10_quarter_57 ?_
    replace hf := bd_some hf; obtain ⟨r4, h5, hf⟩ := hf
    refine V_call (pc := 60) (us1 := [_, _, _, _, _, _, _, _]) [4, 1] 4 (kX4_copyFrom (o := 2) (oa := 11) rfl rfl h5) rfl rfl rfl rfl rfl rfl (Nat.le_of_ble_eq_true rfl) rfl rfl rfl wm_RX10_111 md_X4_copyFrom (Nat.le_of_ble_eq_true rfl) (Nat.le_of_ble_eq_true rfl) rfl rfl (Nat.le_of_ble_eq_true rfl) dX10_quarter_60 ?_
    refine v_aload_n (pc := 63) 1 dX10_quarter_63 rfl ?_
    refine gf_RX10_26 (pc := 64) 0 rfl rfl dX10_quarter_64 ?_
    refine v_aload_n (pc := 67) 1 dX10_quarter_67 rfl ?_
    refine gf_RX10_78 (pc := 68) 0 rfl rfl dX10_quarter_68 ?_
    replace hf := bd_some hf; obtain ⟨r6, h7, hf⟩ := hf
    refine V_call (pc := 71) (us1 := [_, _, _, _, _, _, _, _]) [5, 3] 5 (kX6_copyFrom (o := 3) (oa := 13) rfl rfl h7) rfl rfl rfl rfl rfl rfl (Nat.le_of_ble_eq_true rfl) rfl rfl rfl wm_RX10_115 md_X6_copyFrom (Nat.le_of_ble_eq_true rfl) (Nat.le_of_ble_eq_true rfl) rfl rfl (Nat.le_of_ble_eq_true rfl) dX10_quarter_71 ?_
    refine v_aload_n (pc := 74) 1 dX10_quarter_74 rfl ?_
    refine gf_RX10_33 (pc := 75) 0 rfl rfl dX10_quarter_75 ?_
    replace hf := bd_some hf; obtain ⟨r8, h9, hf⟩ := hf
    refine V_call (pc := 78) (us1 := [_, _, _, _, _, _, _, _]) [6] 6 (kX5_forget (o := 4) rfl h9) rfl rfl rfl rfl rfl rfl (Nat.le_of_ble_eq_true rfl) rfl rfl rfl wm_RX10_118 md_X5_forget (Nat.le_of_ble_eq_true rfl) (Nat.le_of_ble_eq_true rfl) rfl rfl (Nat.le_of_ble_eq_true rfl) dX10_quarter_78 ?_
    refine v_aload_n (pc := 81) 1 dX10_quarter_81 rfl ?_
    refine gf_RX10_40 (pc := 82) 0 rfl rfl dX10_quarter_82 ?_
    replace hf := bd_some hf; obtain ⟨r10, h11, hf⟩ := hf
    refine V_call (pc := 85) (us1 := [_, _, _, _, _, _, _, _]) [7] 7 (kX2_forget  h11) rfl rfl rfl rfl rfl rfl (Nat.le_of_ble_eq_true rfl) rfl rfl rfl wm_RX10_121 md_X2_forget (Nat.le_of_ble_eq_true rfl) (Nat.le_of_ble_eq_true rfl) rfl rfl (Nat.le_of_ble_eq_true rfl) dX10_quarter_85 ?_
    refine v_iload_n (pc := 88) 0 dX10_quarter_88 rfl ?_
    have hf2 := Option.some.inj hf; subst hf2
    exact V_iret (pc := 89) hF dX10_quarter_89
  · replace hf := it_f c3 hf
    refine v_iconst (pc := 42) (-1 : Int32) dX10_quarter_42 ci_m1 ?_
    refine v_aload_n (pc := 43) 1 dX10_quarter_43 rfl ?_
    refine gf_RX10_10 (pc := 44) 0 rfl rfl dX10_quarter_44 ?_
    refine gf_RX10_108 (pc := 47) 2 rfl rfl dX10_quarter_47 ?_
    refine v_isub (pc := 50) dX10_quarter_50 ?_
    have hf2 := Option.some.inj hf; subst hf2
    exact V_iret (pc := 51) hF dX10_quarter_51
set_option maxRecDepth 20000 in
theorem kX10_fault {G : Wc} {V0 : Ob}  {r : Int32}  (hf : pX10_fault V0   = some r) : Cn yX10_fault cX10_fault 1 (some .int) 1 60 G [.ref (wA G 0 0)] [(0, V0)] [(0, V0)] (some (.int r)) := by
  refine V_method [(0, .ref (wA G 0 0))] (by decide) rfl (Nat.le_of_ble_eq_true rfl) rfl (fun Γ hF => ?_)
  unfold pX10_fault at hf
  refine v_aload_n (pc := 0) 0 dX10_fault_0 rfl ?_
  refine gf_RX10_81 (pc := 1) 0 rfl rfl dX10_fault_1 ?_
  have hf2 := Option.some.inj hf; subst hf2
  exact V_iret (pc := 4) hF dX10_fault_4
set_option maxRecDepth 20000 in
theorem kX10_isPerson {G : Wc} {V0 : Ob} {V2 : Ob} {a : Int32} {r : Int32}  (hf : pX10_isPerson V0 V2  a = some r) : Cn yX10_isPerson cX10_isPerson 2 (some .boolean) 1 60 G [.ref (wA G 0 0), .int a] [(0, V0), (2, V2)] [(0, V0), (2, V2)] (some (.int r)) := by
  refine V_method [(0, .ref (wA G 0 0)), (1, .int a)] (by decide) rfl (Nat.le_of_ble_eq_true rfl) rfl (fun Γ hF => ?_)
  unfold pX10_isPerson at hf
  refine v_iload_n (pc := 0) 1 dX10_isPerson_0 rfl ?_
  refine v_if_lt (pc := 1) 19 dX10_isPerson_1 (by decide) (fun c1 => ?_) (fun c1 => ?_)
  · replace hf := it_t c1 hf
    refine v_iconst (pc := 19) (0 : Int32) dX10_isPerson_19 ci_0 ?_
    have hf2 := Option.some.inj hf; subst hf2
    exact V_zret (pc := 20) hF rfl dX10_isPerson_20
  · replace hf := it_f c1 hf
    refine v_iload_n (pc := 4) 1 dX10_isPerson_4 rfl ?_
    refine v_aload_n (pc := 5) 0 dX10_isPerson_5 rfl ?_
    refine gf_RX10_19 (pc := 6) 0 rfl rfl dX10_isPerson_6 ?_
    refine gf_RX10_286 (pc := 9) 1 rfl rfl dX10_isPerson_9 ?_
    refine v_icmp_ge (pc := 12) 19 dX10_isPerson_12 (by decide) (fun c2 => ?_) (fun c2 => ?_)
    · replace hf := it_t c2 hf
      refine v_iconst (pc := 19) (0 : Int32) dX10_isPerson_19 ci_0 ?_
      have hf2 := Option.some.inj hf; subst hf2
      exact V_zret (pc := 20) hF rfl dX10_isPerson_20
    · replace hf := it_f c2 hf
      refine v_iconst (pc := 15) (1 : Int32) dX10_isPerson_15 ci_1 ?_
      refine v_goto (pc := 16) 20 dX10_isPerson_16 (by decide) ?_
      have hf2 := Option.some.inj hf; subst hf2
      exact V_zret (pc := 20) hF rfl dX10_isPerson_20
set_option maxRecDepth 20000 in
theorem kX10_layer {G : Wc} {V0 : Ob} {V2 : Ob} {V3 : Ob} {a : Int32} {b : Int32} {r : Int32}  (hf : pX10_layer V0 V2 V3  a b = some r) : Cn yX10_layer cX10_layer 3 (some .int) 2 82 G [.ref (wA G 0 0), .int a, .int b] [(0, V0), (2, V2), (3, V3)] [(0, V0), (2, V2), (3, V3)] (some (.int r)) := by
  refine V_method [(0, .ref (wA G 0 0)), (1, .int a), (2, .int b)] (by decide) rfl (Nat.le_of_ble_eq_true rfl) rfl (fun Γ hF => ?_)
  unfold pX10_layer at hf
  refine v_aload_n (pc := 0) 0 dX10_layer_0 rfl ?_
  refine v_iload_n (pc := 1) 1 dX10_layer_1 rfl ?_
  replace hf := bd_some hf; obtain ⟨r1, h2, hf⟩ := hf
  refine V_call (pc := 2) (us1 := [_, _, _]) [0, 1] 0 (kX10_isPerson  h2) rfl rfl rfl rfl rfl rfl (Nat.le_of_ble_eq_true rfl) rfl rfl rfl wm_RX10_122 md_X10_isPerson (Nat.le_of_ble_eq_true rfl) (Nat.le_of_ble_eq_true rfl) rfl rfl (Nat.le_of_ble_eq_true rfl) dX10_layer_2 ?_
  refine v_if_eq (pc := 5) 20 dX10_layer_5 (by decide) (fun c3 => ?_) (fun c3 => ?_)
  · replace hf := it_t c3 hf
    refine v_iconst (pc := 20) (-1 : Int32) dX10_layer_20 ci_m1 ?_
    have hf2 := Option.some.inj hf; subst hf2
    exact V_iret (pc := 21) hF dX10_layer_21
  · replace hf := it_f c3 hf
    refine v_aload_n (pc := 8) 0 dX10_layer_8 rfl ?_
    refine gf_RX10_26 (pc := 9) 0 rfl rfl dX10_layer_9 ?_
    refine v_iload_n (pc := 12) 1 dX10_layer_12 rfl ?_
    refine v_iload_n (pc := 13) 2 dX10_layer_13 rfl ?_
    replace hf := bd_some hf; obtain ⟨r4, h5, hf⟩ := hf
    refine V_call (pc := 14) (us1 := [_, _, _]) [2] 2 (kX6_layerAt (o := 3) rfl h5) rfl rfl rfl rfl rfl rfl (Nat.le_of_ble_eq_true rfl) rfl rfl rfl wm_RX10_159 md_X6_layerAt (Nat.le_of_ble_eq_true rfl) (Nat.le_of_ble_eq_true rfl) rfl rfl (Nat.le_of_ble_eq_true rfl) dX10_layer_14 ?_
    refine v_goto (pc := 17) 21 dX10_layer_17 (by decide) ?_
    have hf2 := Option.some.inj hf; subst hf2
    exact V_iret (pc := 21) hF dX10_layer_21
set_option maxRecDepth 20000 in
theorem kX10_isThing {G : Wc} {V0 : Ob} {V2 : Ob} {a : Int32} {r : Int32}  (hf : pX10_isThing V0 V2  a = some r) : Cn yX10_isThing cX10_isThing 2 (some .boolean) 1 60 G [.ref (wA G 0 0), .int a] [(0, V0), (2, V2)] [(0, V0), (2, V2)] (some (.int r)) := by
  refine V_method [(0, .ref (wA G 0 0)), (1, .int a)] (by decide) rfl (Nat.le_of_ble_eq_true rfl) rfl (fun Γ hF => ?_)
  unfold pX10_isThing at hf
  refine v_iload_n (pc := 0) 1 dX10_isThing_0 rfl ?_
  refine v_if_lt (pc := 1) 19 dX10_isThing_1 (by decide) (fun c1 => ?_) (fun c1 => ?_)
  · replace hf := it_t c1 hf
    refine v_iconst (pc := 19) (0 : Int32) dX10_isThing_19 ci_0 ?_
    have hf2 := Option.some.inj hf; subst hf2
    exact V_zret (pc := 20) hF rfl dX10_isThing_20
  · replace hf := it_f c1 hf
    refine v_iload_n (pc := 4) 1 dX10_isThing_4 rfl ?_
    refine v_aload_n (pc := 5) 0 dX10_isThing_5 rfl ?_
    refine gf_RX10_19 (pc := 6) 0 rfl rfl dX10_isThing_6 ?_
    refine gf_RX10_358 (pc := 9) 1 rfl rfl dX10_isThing_9 ?_
    refine v_icmp_ge (pc := 12) 19 dX10_isThing_12 (by decide) (fun c2 => ?_) (fun c2 => ?_)
    · replace hf := it_t c2 hf
      refine v_iconst (pc := 19) (0 : Int32) dX10_isThing_19 ci_0 ?_
      have hf2 := Option.some.inj hf; subst hf2
      exact V_zret (pc := 20) hF rfl dX10_isThing_20
    · replace hf := it_f c2 hf
      refine v_iconst (pc := 15) (1 : Int32) dX10_isThing_15 ci_1 ?_
      refine v_goto (pc := 16) 20 dX10_isThing_16 (by decide) ?_
      have hf2 := Option.some.inj hf; subst hf2
      exact V_zret (pc := 20) hF rfl dX10_isThing_20
set_option maxRecDepth 20000 in
theorem kX10_thing {G : Wc} {V0 : Ob} {V2 : Ob} {V3 : Ob} {a : Int32} {b : Int32} {r : Int32}  (hf : pX10_thing V0 V2 V3  a b = some r) : Cn yX10_thing cX10_thing 3 (some .int) 4 129 G [.ref (wA G 0 0), .int a, .int b] [(0, V0), (2, V2), (3, V3)] [(0, V0), (2, V2), (3, V3)] (some (.int r)) := by
  refine V_method [(0, .ref (wA G 0 0)), (1, .int a), (2, .int b)] (by decide) rfl (Nat.le_of_ble_eq_true rfl) rfl (fun Γ hF => ?_)
  unfold pX10_thing at hf
  refine v_aload_n (pc := 0) 0 dX10_thing_0 rfl ?_
  refine v_iload_n (pc := 1) 1 dX10_thing_1 rfl ?_
  replace hf := bd_some hf; obtain ⟨r1, h2, hf⟩ := hf
  refine V_call (pc := 2) (us1 := [_, _, _]) [0, 1] 0 (kX10_isThing  h2) rfl rfl rfl rfl rfl rfl (Nat.le_of_ble_eq_true rfl) rfl rfl rfl wm_RX10_163 md_X10_isThing (Nat.le_of_ble_eq_true rfl) (Nat.le_of_ble_eq_true rfl) rfl rfl (Nat.le_of_ble_eq_true rfl) dX10_thing_2 ?_
  refine v_if_ne (pc := 5) 10 dX10_thing_5 (by decide) (fun c3 => ?_) (fun c3 => ?_)
  · replace hf := it_f c3 hf
    refine v_iload_n (pc := 10) 2 dX10_thing_10 rfl ?_
    by_cases c4 : b = (0 : Int32)
    · replace hf := it_t c4 hf
      refine v_tsIn (pc := 11) (0 : Int32) 44 dX10_thing_11 c4 (by decide) (by decide) rfl (by decide) ?_
      refine v_aload_n (pc := 44) 0 dX10_thing_44 rfl ?_
      refine gf_RX10_19 (pc := 45) 0 rfl rfl dX10_thing_45 ?_
      refine gf_RX10_166 (pc := 48) 1 rfl rfl dX10_thing_48 ?_
      refine v_iload_n (pc := 51) 1 dX10_thing_51 rfl ?_
      replace hf := gd_some hf; obtain ⟨g9, hf⟩ := hf
      refine al_X4_2 (pc := 52) _ 1 rfl rfl rfl g9 dX10_thing_52 ?_
      have hf2 := Option.some.inj hf; subst hf2
      exact V_iret (pc := 53) hF dX10_thing_53
    replace hf := it_f c4 hf
    by_cases c5 : b = (1 : Int32)
    · replace hf := it_t c5 hf
      refine v_tsIn (1 : Int32) 54 dX10_thing_11 c5 (by decide) (by decide) rfl (by decide) ?_
      refine v_aload_n (pc := 54) 0 dX10_thing_54 rfl ?_
      refine gf_RX10_19 (pc := 55) 0 rfl rfl dX10_thing_55 ?_
      refine gf_RX10_169 (pc := 58) 1 rfl rfl dX10_thing_58 ?_
      refine v_iload_n (pc := 61) 1 dX10_thing_61 rfl ?_
      replace hf := gd_some hf; obtain ⟨g10, hf⟩ := hf
      refine al_X4_3 (pc := 62) _ 1 rfl rfl rfl g10 dX10_thing_62 ?_
      have hf2 := Option.some.inj hf; subst hf2
      exact V_iret (pc := 63) hF dX10_thing_63
    replace hf := it_f c5 hf
    by_cases c6 : b = (2 : Int32)
    · replace hf := it_t c6 hf
      refine v_tsIn (2 : Int32) 64 dX10_thing_11 c6 (by decide) (by decide) rfl (by decide) ?_
      refine v_aload_n (pc := 64) 0 dX10_thing_64 rfl ?_
      refine gf_RX10_26 (pc := 65) 0 rfl rfl dX10_thing_65 ?_
      refine gf_RX10_172 (pc := 68) 2 rfl rfl dX10_thing_68 ?_
      refine v_iload_n (pc := 71) 1 dX10_thing_71 rfl ?_
      replace hf := gd_some hf; obtain ⟨g11, hf⟩ := hf
      refine al_X6_3 (pc := 72) _ 2 rfl rfl rfl g11 dX10_thing_72 ?_
      have hf2 := Option.some.inj hf; subst hf2
      exact V_iret (pc := 73) hF dX10_thing_73
    replace hf := it_f c6 hf
    by_cases c7 : b = (3 : Int32)
    · replace hf := it_t c7 hf
      refine v_tsIn (3 : Int32) 74 dX10_thing_11 c7 (by decide) (by decide) rfl (by decide) ?_
      refine v_aload_n (pc := 74) 0 dX10_thing_74 rfl ?_
      refine gf_RX10_26 (pc := 75) 0 rfl rfl dX10_thing_75 ?_
      refine v_aload_n (pc := 78) 0 dX10_thing_78 rfl ?_
      refine gf_RX10_19 (pc := 79) 0 rfl rfl dX10_thing_79 ?_
      refine v_iload_n (pc := 82) 1 dX10_thing_82 rfl ?_
      replace hf := bd_some hf; obtain ⟨r12, h13, hf⟩ := hf
      refine V_call (pc := 83) (us1 := [_, _, _]) [2, 1] 2 (kX6_whoHas (o := 3) (oa := 2) rfl rfl h13) rfl rfl rfl rfl rfl rfl (Nat.le_of_ble_eq_true rfl) rfl rfl rfl wm_RX10_175 md_X6_whoHas (Nat.le_of_ble_eq_true rfl) (Nat.le_of_ble_eq_true rfl) rfl rfl (Nat.le_of_ble_eq_true rfl) dX10_thing_83 ?_
      have hf2 := Option.some.inj hf; subst hf2
      exact V_iret (pc := 86) hF dX10_thing_86
    replace hf := it_f c7 hf
    by_cases c8 : b = (4 : Int32)
    · replace hf := it_t c8 hf
      refine v_tsIn (4 : Int32) 87 dX10_thing_11 c8 (by decide) (by decide) rfl (by decide) ?_
      refine v_aload_n (pc := 87) 0 dX10_thing_87 rfl ?_
      refine gf_RX10_26 (pc := 88) 0 rfl rfl dX10_thing_88 ?_
      refine v_aload_n (pc := 91) 0 dX10_thing_91 rfl ?_
      refine gf_RX10_19 (pc := 92) 0 rfl rfl dX10_thing_92 ?_
      refine v_iload_n (pc := 95) 1 dX10_thing_95 rfl ?_
      replace hf := bd_some hf; obtain ⟨r14, h15, hf⟩ := hf
      refine V_call (pc := 96) (us1 := [_, _, _]) [2, 1] 2 (kX6_stillOf (o := 3) (oa := 2) rfl rfl h15) rfl rfl rfl rfl rfl rfl (Nat.le_of_ble_eq_true rfl) rfl rfl rfl wm_RX10_178 md_X6_stillOf (Nat.le_of_ble_eq_true rfl) (Nat.le_of_ble_eq_true rfl) rfl rfl (Nat.le_of_ble_eq_true rfl) dX10_thing_96 ?_
      have hf2 := Option.some.inj hf; subst hf2
      exact V_iret (pc := 99) hF dX10_thing_99
    replace hf := it_f c8 hf
    refine v_tsOut 100 dX10_thing_11 5 (fun k hk => match k, hk with | 0, _ => c4 | 1, _ => c5 | 2, _ => c6 | 3, _ => c7 | 4, _ => c8 | k + 5, h => absurd h (by omega)) (by decide) (by decide) (by decide) ?_
    refine v_iconst (pc := 100) (-1 : Int32) dX10_thing_100 ci_m1 ?_
    have hf2 := Option.some.inj hf; subst hf2
    exact V_iret (pc := 101) hF dX10_thing_101
  · replace hf := it_t c3 hf
    refine v_iconst (pc := 8) (-1 : Int32) dX10_thing_8 ci_m1 ?_
    have hf2 := Option.some.inj hf; subst hf2
    exact V_iret (pc := 9) hF dX10_thing_9
set_option maxRecDepth 20000 in
theorem kX10_isBed {G : Wc} {V0 : Ob} {V2 : Ob} {a : Int32} {r : Int32}  (hf : pX10_isBed V0 V2  a = some r) : Cn yX10_isBed cX10_isBed 2 (some .boolean) 1 60 G [.ref (wA G 0 0), .int a] [(0, V0), (2, V2)] [(0, V0), (2, V2)] (some (.int r)) := by
  refine V_method [(0, .ref (wA G 0 0)), (1, .int a)] (by decide) rfl (Nat.le_of_ble_eq_true rfl) rfl (fun Γ hF => ?_)
  unfold pX10_isBed at hf
  refine v_iload_n (pc := 0) 1 dX10_isBed_0 rfl ?_
  refine v_if_lt (pc := 1) 19 dX10_isBed_1 (by decide) (fun c1 => ?_) (fun c1 => ?_)
  · replace hf := it_t c1 hf
    refine v_iconst (pc := 19) (0 : Int32) dX10_isBed_19 ci_0 ?_
    have hf2 := Option.some.inj hf; subst hf2
    exact V_zret (pc := 20) hF rfl dX10_isBed_20
  · replace hf := it_f c1 hf
    refine v_iload_n (pc := 4) 1 dX10_isBed_4 rfl ?_
    refine v_aload_n (pc := 5) 0 dX10_isBed_5 rfl ?_
    refine gf_RX10_19 (pc := 6) 0 rfl rfl dX10_isBed_6 ?_
    refine gf_RX10_364 (pc := 9) 1 rfl rfl dX10_isBed_9 ?_
    refine v_icmp_ge (pc := 12) 19 dX10_isBed_12 (by decide) (fun c2 => ?_) (fun c2 => ?_)
    · replace hf := it_t c2 hf
      refine v_iconst (pc := 19) (0 : Int32) dX10_isBed_19 ci_0 ?_
      have hf2 := Option.some.inj hf; subst hf2
      exact V_zret (pc := 20) hF rfl dX10_isBed_20
    · replace hf := it_f c2 hf
      refine v_iconst (pc := 15) (1 : Int32) dX10_isBed_15 ci_1 ?_
      refine v_goto (pc := 16) 20 dX10_isBed_16 (by decide) ?_
      have hf2 := Option.some.inj hf; subst hf2
      exact V_zret (pc := 20) hF rfl dX10_isBed_20
set_option maxRecDepth 20000 in
theorem kX10_bed {G : Wc} {V0 : Ob} {V2 : Ob} {V3 : Ob} {a : Int32} {b : Int32} {r : Int32}  (hf : pX10_bed V0 V2 V3  a b = some r) : Cn yX10_bed cX10_bed 3 (some .int) 2 82 G [.ref (wA G 0 0), .int a, .int b] [(0, V0), (2, V2), (3, V3)] [(0, V0), (2, V2), (3, V3)] (some (.int r)) := by
  refine V_method [(0, .ref (wA G 0 0)), (1, .int a), (2, .int b)] (by decide) rfl (Nat.le_of_ble_eq_true rfl) rfl (fun Γ hF => ?_)
  unfold pX10_bed at hf
  refine v_aload_n (pc := 0) 0 dX10_bed_0 rfl ?_
  refine v_iload_n (pc := 1) 1 dX10_bed_1 rfl ?_
  replace hf := bd_some hf; obtain ⟨r1, h2, hf⟩ := hf
  refine V_call (pc := 2) (us1 := [_, _, _]) [0, 1] 0 (kX10_isBed  h2) rfl rfl rfl rfl rfl rfl (Nat.le_of_ble_eq_true rfl) rfl rfl rfl wm_RX10_181 md_X10_isBed (Nat.le_of_ble_eq_true rfl) (Nat.le_of_ble_eq_true rfl) rfl rfl (Nat.le_of_ble_eq_true rfl) dX10_bed_2 ?_
  refine v_if_ne (pc := 5) 10 dX10_bed_5 (by decide) (fun c3 => ?_) (fun c3 => ?_)
  · replace hf := it_f c3 hf
    refine v_iload_n (pc := 10) 2 dX10_bed_10 rfl ?_
    by_cases c4 : b = (0 : Int32)
    · replace hf := it_t c4 hf
      refine v_tsIn (pc := 11) (0 : Int32) 40 dX10_bed_11 c4 (by decide) (by decide) rfl (by decide) ?_
      refine v_aload_n (pc := 40) 0 dX10_bed_40 rfl ?_
      refine gf_RX10_19 (pc := 41) 0 rfl rfl dX10_bed_41 ?_
      refine gf_RX10_184 (pc := 44) 1 rfl rfl dX10_bed_44 ?_
      refine v_iload_n (pc := 47) 1 dX10_bed_47 rfl ?_
      replace hf := gd_some hf; obtain ⟨g8, hf⟩ := hf
      refine al_X4_13 (pc := 48) _ 1 rfl rfl rfl g8 dX10_bed_48 ?_
      have hf2 := Option.some.inj hf; subst hf2
      exact V_iret (pc := 49) hF dX10_bed_49
    replace hf := it_f c4 hf
    by_cases c5 : b = (1 : Int32)
    · replace hf := it_t c5 hf
      refine v_tsIn (1 : Int32) 50 dX10_bed_11 c5 (by decide) (by decide) rfl (by decide) ?_
      refine v_aload_n (pc := 50) 0 dX10_bed_50 rfl ?_
      refine gf_RX10_26 (pc := 51) 0 rfl rfl dX10_bed_51 ?_
      refine gf_RX10_187 (pc := 54) 2 rfl rfl dX10_bed_54 ?_
      refine v_iload_n (pc := 57) 1 dX10_bed_57 rfl ?_
      replace hf := gd_some hf; obtain ⟨g9, hf⟩ := hf
      refine al_X6_5 (pc := 58) _ 2 rfl rfl rfl g9 dX10_bed_58 ?_
      have hf2 := Option.some.inj hf; subst hf2
      exact V_iret (pc := 59) hF dX10_bed_59
    replace hf := it_f c5 hf
    by_cases c6 : b = (2 : Int32)
    · replace hf := it_t c6 hf
      refine v_tsIn (2 : Int32) 60 dX10_bed_11 c6 (by decide) (by decide) rfl (by decide) ?_
      refine v_aload_n (pc := 60) 0 dX10_bed_60 rfl ?_
      refine gf_RX10_26 (pc := 61) 0 rfl rfl dX10_bed_61 ?_
      refine v_aload_n (pc := 64) 0 dX10_bed_64 rfl ?_
      refine gf_RX10_19 (pc := 65) 0 rfl rfl dX10_bed_65 ?_
      refine v_iload_n (pc := 68) 1 dX10_bed_68 rfl ?_
      replace hf := bd_some hf; obtain ⟨r10, h11, hf⟩ := hf
      refine V_call (pc := 69) (us1 := [_, _, _]) [2, 1] 2 (kX6_sleeps (o := 3) (oa := 2) rfl rfl h11) rfl rfl rfl rfl rfl rfl (Nat.le_of_ble_eq_true rfl) rfl rfl rfl wm_RX10_188 md_X6_sleeps (Nat.le_of_ble_eq_true rfl) (Nat.le_of_ble_eq_true rfl) rfl rfl (Nat.le_of_ble_eq_true rfl) dX10_bed_69 ?_
      refine v_if_eq (pc := 72) 79 dX10_bed_72 (by decide) (fun c12 => ?_) (fun c12 => ?_)
      · replace hf := it_t c12 hf
        refine v_iconst (pc := 79) (0 : Int32) dX10_bed_79 ci_0 ?_
        have hf2 := Option.some.inj hf; subst hf2
        exact V_iret (pc := 80) hF dX10_bed_80
      · replace hf := it_f c12 hf
        refine v_iconst (pc := 75) (1 : Int32) dX10_bed_75 ci_1 ?_
        refine v_goto (pc := 76) 80 dX10_bed_76 (by decide) ?_
        have hf2 := Option.some.inj hf; subst hf2
        exact V_iret (pc := 80) hF dX10_bed_80
    replace hf := it_f c6 hf
    by_cases c7 : b = (3 : Int32)
    · replace hf := it_t c7 hf
      refine v_tsIn (3 : Int32) 81 dX10_bed_11 c7 (by decide) (by decide) rfl (by decide) ?_
      refine v_aload_n (pc := 81) 0 dX10_bed_81 rfl ?_
      refine gf_RX10_26 (pc := 82) 0 rfl rfl dX10_bed_82 ?_
      refine gf_RX10_192 (pc := 85) 2 rfl rfl dX10_bed_85 ?_
      refine v_iload_n (pc := 88) 1 dX10_bed_88 rfl ?_
      replace hf := gd_some hf; obtain ⟨g13, hf⟩ := hf
      refine al_X6_6 (pc := 89) _ 2 rfl rfl rfl g13 dX10_bed_89 ?_
      have hf2 := Option.some.inj hf; subst hf2
      exact V_iret (pc := 90) hF dX10_bed_90
    replace hf := it_f c7 hf
    refine v_tsOut 91 dX10_bed_11 4 (fun k hk => match k, hk with | 0, _ => c4 | 1, _ => c5 | 2, _ => c6 | 3, _ => c7 | k + 4, h => absurd h (by omega)) (by decide) (by decide) (by decide) ?_
    refine v_iconst (pc := 91) (-1 : Int32) dX10_bed_91 ci_m1 ?_
    have hf2 := Option.some.inj hf; subst hf2
    exact V_iret (pc := 92) hF dX10_bed_92
  · replace hf := it_t c3 hf
    refine v_iconst (pc := 8) (-1 : Int32) dX10_bed_8 ci_m1 ?_
    have hf2 := Option.some.inj hf; subst hf2
    exact V_iret (pc := 9) hF dX10_bed_9
set_option maxRecDepth 20000 in
theorem kX10_now {G : Wc} {V0 : Ob} {V3 : Ob} {V2 : Ob} {a : Int32} {r : Int32}  (hf : pX10_now V0 V3 V2  a = some r) : Cn yX10_now cX10_now 2 (some .int) 3 105 G [.ref (wA G 0 0), .int a] [(0, V0), (3, V3), (2, V2)] [(0, V0), (3, V3), (2, V2)] (some (.int r)) := by
  refine V_method [(0, .ref (wA G 0 0)), (1, .int a)] (by decide) rfl (Nat.le_of_ble_eq_true rfl) rfl (fun Γ hF => ?_)
  unfold pX10_now at hf
  refine v_iload_n (pc := 0) 1 dX10_now_0 rfl ?_
  by_cases c1 : a = (0 : Int32)
  · replace hf := it_t c1 hf
    refine v_tsIn (pc := 1) (0 : Int32) 44 dX10_now_1 c1 (by decide) (by decide) rfl (by decide) ?_
    refine v_aload_n (pc := 44) 0 dX10_now_44 rfl ?_
    refine gf_RX10_26 (pc := 45) 0 rfl rfl dX10_now_45 ?_
    refine gf_RX10_195 (pc := 48) 1 rfl rfl dX10_now_48 ?_
    have hf2 := Option.some.inj hf; subst hf2
    exact V_iret (pc := 51) hF dX10_now_51
  replace hf := it_f c1 hf
  by_cases c2 : a = (1 : Int32)
  · replace hf := it_t c2 hf
    refine v_tsIn (1 : Int32) 52 dX10_now_1 c2 (by decide) (by decide) rfl (by decide) ?_
    refine v_aload_n (pc := 52) 0 dX10_now_52 rfl ?_
    refine gf_RX10_26 (pc := 53) 0 rfl rfl dX10_now_53 ?_
    refine gf_RX10_198 (pc := 56) 1 rfl rfl dX10_now_56 ?_
    have hf2 := Option.some.inj hf; subst hf2
    exact V_iret (pc := 59) hF dX10_now_59
  replace hf := it_f c2 hf
  by_cases c3 : a = (2 : Int32)
  · replace hf := it_t c3 hf
    refine v_tsIn (2 : Int32) 60 dX10_now_1 c3 (by decide) (by decide) rfl (by decide) ?_
    refine v_aload_n (pc := 60) 0 dX10_now_60 rfl ?_
    refine gf_RX10_26 (pc := 61) 0 rfl rfl dX10_now_61 ?_
    refine v_aload_n (pc := 64) 0 dX10_now_64 rfl ?_
    refine gf_RX10_19 (pc := 65) 0 rfl rfl dX10_now_65 ?_
    replace hf := bd_some hf; obtain ⟨r8, h9, hf⟩ := hf
    refine V_call (pc := 68) (us1 := [_, _, _]) [1, 2] 1 (kX6_allSleeping (o := 3) (oa := 2) rfl rfl h9) rfl rfl rfl rfl rfl rfl (Nat.le_of_ble_eq_true rfl) rfl rfl rfl wm_RX10_201 md_X6_allSleeping (Nat.le_of_ble_eq_true rfl) (Nat.le_of_ble_eq_true rfl) rfl rfl (Nat.le_of_ble_eq_true rfl) dX10_now_68 ?_
    have hf2 := Option.some.inj hf; subst hf2
    exact V_iret (pc := 71) hF dX10_now_71
  replace hf := it_f c3 hf
  by_cases c4 : a = (3 : Int32)
  · replace hf := it_t c4 hf
    refine v_tsIn (3 : Int32) 72 dX10_now_1 c4 (by decide) (by decide) rfl (by decide) ?_
    refine v_aload_n (pc := 72) 0 dX10_now_72 rfl ?_
    refine gf_RX10_26 (pc := 73) 0 rfl rfl dX10_now_73 ?_
    refine v_aload_n (pc := 76) 0 dX10_now_76 rfl ?_
    refine gf_RX10_19 (pc := 77) 0 rfl rfl dX10_now_77 ?_
    replace hf := bd_some hf; obtain ⟨r10, h11, hf⟩ := hf
    refine V_call (pc := 80) (us1 := [_, _, _]) [1, 2] 1 (kX6_allNests (o := 3) (oa := 2) rfl rfl h11) rfl rfl rfl rfl rfl rfl (Nat.le_of_ble_eq_true rfl) rfl rfl rfl wm_RX10_205 md_X6_allNests (Nat.le_of_ble_eq_true rfl) (Nat.le_of_ble_eq_true rfl) rfl rfl (Nat.le_of_ble_eq_true rfl) dX10_now_80 ?_
    have hf2 := Option.some.inj hf; subst hf2
    exact V_iret (pc := 83) hF dX10_now_83
  replace hf := it_f c4 hf
  by_cases c5 : a = (4 : Int32)
  · replace hf := it_t c5 hf
    refine v_tsIn (4 : Int32) 84 dX10_now_1 c5 (by decide) (by decide) rfl (by decide) ?_
    refine v_aload_n (pc := 84) 0 dX10_now_84 rfl ?_
    refine gf_RX10_26 (pc := 85) 0 rfl rfl dX10_now_85 ?_
    refine gf_RX10_208 (pc := 88) 1 rfl rfl dX10_now_88 ?_
    have hf2 := Option.some.inj hf; subst hf2
    exact V_iret (pc := 91) hF dX10_now_91
  replace hf := it_f c5 hf
  by_cases c6 : a = (5 : Int32)
  · replace hf := it_t c6 hf
    refine v_tsIn (5 : Int32) 92 dX10_now_1 c6 (by decide) (by decide) rfl (by decide) ?_
    refine v_aload_n (pc := 92) 0 dX10_now_92 rfl ?_
    refine gf_RX10_26 (pc := 93) 0 rfl rfl dX10_now_93 ?_
    refine gf_RX10_211 (pc := 96) 1 rfl rfl dX10_now_96 ?_
    have hf2 := Option.some.inj hf; subst hf2
    exact V_iret (pc := 99) hF dX10_now_99
  replace hf := it_f c6 hf
  by_cases c7 : a = (6 : Int32)
  · replace hf := it_t c7 hf
    refine v_tsIn (6 : Int32) 100 dX10_now_1 c7 (by decide) (by decide) rfl (by decide) ?_
    refine v_aload_n (pc := 100) 0 dX10_now_100 rfl ?_
    refine gf_RX10_26 (pc := 101) 0 rfl rfl dX10_now_101 ?_
    refine gf_RX10_214 (pc := 104) 1 rfl rfl dX10_now_104 ?_
    have hf2 := Option.some.inj hf; subst hf2
    exact V_iret (pc := 107) hF dX10_now_107
  replace hf := it_f c7 hf
  refine v_tsOut 108 dX10_now_1 7 (fun k hk => match k, hk with | 0, _ => c1 | 1, _ => c2 | 2, _ => c3 | 3, _ => c4 | 4, _ => c5 | 5, _ => c6 | 6, _ => c7 | k + 7, h => absurd h (by omega)) (by decide) (by decide) (by decide) ?_
  refine v_iconst (pc := 108) (-1 : Int32) dX10_now_108 ci_m1 ?_
  have hf2 := Option.some.inj hf; subst hf2
  exact V_iret (pc := 109) hF dX10_now_109
set_option maxRecDepth 20000 in
theorem kX10_stroke {G : Wc} {V0 : Ob} {V2 : Ob} {V3 : Ob} {V5 : Ob} {K : (Nat → Ob)} {a : Int32} {b : Int32} {r : Int32 × Ob × Ob × (Nat → Ob)}  (hf : pX10_stroke V0 V2 V3 V5 K  a b = some r) : Cn yX10_stroke cX10_stroke 4 (some .int) 5 153 G [.ref (wA G 0 0), .int a, .int b] [(0, V0), (2, V2), (3, V3), (5, V5), (14, K 0), (15, K 1), (16, K 2), (17, K 3), (18, K 4), (19, K 5), (20, K 6), (21, K 7)] [(0, V0), (2, V2), (3, r.2.1), (5, r.2.2.1), (14, r.2.2.2 0), (15, r.2.2.2 1), (16, r.2.2.2 2), (17, r.2.2.2 3), (18, r.2.2.2 4), (19, r.2.2.2 5), (20, r.2.2.2 6), (21, r.2.2.2 7)] (some (.int r.1)) := by
  refine V_method [(0, .ref (wA G 0 0)), (1, .int a), (2, .int b)] (by decide) rfl (Nat.le_of_ble_eq_true rfl) rfl (fun Γ hF => ?_)
  unfold pX10_stroke at hf
  refine v_aload_n (pc := 0) 0 dX10_stroke_0 rfl ?_
  refine v_iload_n (pc := 1) 1 dX10_stroke_1 rfl ?_
  replace hf := bd_some hf; obtain ⟨r1, h2, hf⟩ := hf
  refine V_call (pc := 2) (us1 := [_, _, _, _, _, _, _, _, _, _, _, _]) [0, 1] 0 (kX10_isPerson  h2) rfl rfl rfl rfl rfl rfl (Nat.le_of_ble_eq_true rfl) rfl rfl rfl wm_RX10_122 md_X10_isPerson (Nat.le_of_ble_eq_true rfl) (Nat.le_of_ble_eq_true rfl) rfl rfl (Nat.le_of_ble_eq_true rfl) dX10_stroke_2 ?_
  refine v_if_eq (pc := 5) 19 dX10_stroke_5 (by decide) (fun c3 => ?_) (fun c3 => ?_)
  · replace hf := it_t c3 hf
    refine v_iconst (pc := 19) (-1 : Int32) dX10_stroke_19 ci_m1 ?_
    have hf2 := Option.some.inj hf; subst hf2
    exact V_iret (pc := 20) hF dX10_stroke_20
  · replace hf := it_f c3 hf
    refine v_iload_n (pc := 8) 2 dX10_stroke_8 rfl ?_
    refine v_iconst (pc := 9) (1 : Int32) dX10_stroke_9 ci_1 ?_
    refine v_icmp_lt (pc := 10) 19 dX10_stroke_10 (by decide) (fun c4 => ?_) (fun c4 => ?_)
    · replace hf := it_t c4 hf
      refine v_iconst (pc := 19) (-1 : Int32) dX10_stroke_19 ci_m1 ?_
      have hf2 := Option.some.inj hf; subst hf2
      exact V_iret (pc := 20) hF dX10_stroke_20
    · replace hf := it_f c4 hf
      refine v_iload_n (pc := 13) 2 dX10_stroke_13 rfl ?_
      refine v_bipush (pc := 14) (20 : Int32) dX10_stroke_14 cb_20 ?_
      refine v_icmp_le (pc := 16) 21 dX10_stroke_16 (by decide) (fun c5 => ?_) (fun c5 => ?_)
      · replace hf := it_t c5 hf
        refine v_aload_n (pc := 21) 0 dX10_stroke_21 rfl ?_
        refine gf_RX10_26 (pc := 22) 0 rfl rfl dX10_stroke_22 ?_
        refine v_aload_n (pc := 25) 0 dX10_stroke_25 rfl ?_
        refine gf_RX10_19 (pc := 26) 0 rfl rfl dX10_stroke_26 ?_
        refine v_iload_n (pc := 29) 1 dX10_stroke_29 rfl ?_
        refine v_iload_n (pc := 30) 2 dX10_stroke_30 rfl ?_
        replace hf := bd_some hf; obtain ⟨r6, h7, hf⟩ := hf
        refine V_call (pc := 31) (us1 := [_, _, _, _, _, _, _, _, _, _, _, _]) [2, 1] 2 (kX6_whyNoStroke (o := 3) (oa := 2) rfl rfl h7) rfl rfl rfl rfl rfl rfl (Nat.le_of_ble_eq_true rfl) rfl rfl rfl wm_RX10_217 md_X6_whyNoStroke (Nat.le_of_ble_eq_true rfl) (Nat.le_of_ble_eq_true rfl) rfl rfl (Nat.le_of_ble_eq_true rfl) dX10_stroke_31 ?_
        refine v_istore_n (pc := 34) [(3, _), (0, _), (1, _), (2, _)] dX10_stroke_34 (Nat.le_of_ble_eq_true rfl) rfl ?_
        refine v_iload_n (pc := 35) 0 dX10_stroke_35 rfl ?_
        refine v_if_ne (pc := 36) 63 dX10_stroke_36 (by decide) (fun c8 => ?_) (fun c8 => ?_)
        · replace hf := it_f c8 hf
          refine v_iload_n (pc := 63) 0 dX10_stroke_63 rfl ?_
          have hf2 := Option.some.inj hf; subst hf2
          exact V_iret (pc := 64) hF dX10_stroke_64
        · replace hf := it_t c8 hf
          refine v_aload_n (pc := 39) 1 dX10_stroke_39 rfl ?_
          refine gf_RX10_40 (pc := 40) 0 rfl rfl dX10_stroke_40 ?_
          refine v_aload_n (pc := 43) 1 dX10_stroke_43 rfl ?_
          refine gf_RX10_26 (pc := 44) 0 rfl rfl dX10_stroke_44 ?_
          replace hf := bd_some hf; obtain ⟨r9, h10, hf⟩ := hf
          refine V_call (pc := 47) (us1 := [_, _, _, _, _, _, _, _, _, _, _, _]) [3, 2, 4, 5, 6, 7, 8, 9, 10, 11] 3 (kX2_keep (oa := 3) rfl h10) rfl rfl rfl rfl rfl rfl (Nat.le_of_ble_eq_true rfl) rfl rfl rfl wm_RX10_221 md_X2_keep (Nat.le_of_ble_eq_true rfl) (Nat.le_of_ble_eq_true rfl) rfl rfl (Nat.le_of_ble_eq_true rfl) dX10_stroke_47 ?_
          refine v_aload_n (pc := 50) 1 dX10_stroke_50 rfl ?_
          refine gf_RX10_26 (pc := 51) 0 rfl rfl dX10_stroke_51 ?_
          refine v_aload_n (pc := 54) 1 dX10_stroke_54 rfl ?_
          refine gf_RX10_19 (pc := 55) 0 rfl rfl dX10_stroke_55 ?_
          refine v_iload_n (pc := 58) 2 dX10_stroke_58 rfl ?_
          refine v_iload_n (pc := 59) 3 dX10_stroke_59 rfl ?_
          replace hf := bd_some hf; obtain ⟨r11, h12, hf⟩ := hf
          refine V_call (pc := 60) (us1 := [_, _, _, _, _, _, _, _, _, _, _, _]) [2, 1] 2 (kX6_comb (o := 3) (oa := 2) rfl rfl h12) rfl rfl rfl rfl rfl rfl (Nat.le_of_ble_eq_true rfl) rfl rfl rfl wm_RX10_224 md_X6_comb (Nat.le_of_ble_eq_true rfl) (Nat.le_of_ble_eq_true rfl) rfl rfl (Nat.le_of_ble_eq_true rfl) dX10_stroke_60 ?_
          refine v_iload_n (pc := 63) 0 dX10_stroke_63 rfl ?_
          have hf2 := Option.some.inj hf; subst hf2
          exact V_iret (pc := 64) hF dX10_stroke_64
      · replace hf := it_f c5 hf
        refine v_iconst (pc := 19) (-1 : Int32) dX10_stroke_19 ci_m1 ?_
        have hf2 := Option.some.inj hf; subst hf2
        exact V_iret (pc := 20) hF dX10_stroke_20
