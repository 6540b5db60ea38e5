set_option maxRecDepth 20000 in
theorem wX6_letOneDayGo_l2 {G : Wc} {Γ : Cx} {o oa : Nat} {Sa : Ob} (hk0 : kd o = 6) (hk1 : kd oa = 4) : ∀ (n : Nat) {l2 : Int32} {S : Ob} {r : Ob}, pX6_letOneDayGo_l2  Sa n l2 S = some r → V cX6_letOneDayGo RX6 2 83 3 G Γ [(o, r), (oa, Sa)] 23 [(0, .ref (wA G o 0)), (1, .ref (wA G oa 0))] [] → V cX6_letOneDayGo RX6 2 83 3 G Γ [(o, S), (oa, Sa)] 2 [(0, .ref (wA G o 0)), (1, .ref (wA G oa 0)), (2, .int l2)] [] := by
  intro n
  induction n with
  | zero => intro l2 S r hf hx; unfold pX6_letOneDayGo_l2 at hf; cases hf
  | succ n ih =>
    intro l2 S r hf hx
    have hrec : ∀ {l2 : Int32} {S : Ob}, pX6_letOneDayGo_l2  Sa n l2 S = some r → V cX6_letOneDayGo RX6 2 83 3 G Γ [(o, S), (oa, Sa)] 2 [(0, .ref (wA G o 0)), (1, .ref (wA G oa 0)), (2, .int l2)] [] := fun h => ih h hx
    clear ih
    unfold pX6_letOneDayGo_l2 at hf
    refine v_iload_n (pc := 2) 2 dX6_letOneDayGo_2 rfl ?_
    refine v_aload_n (pc := 3) 1 dX6_letOneDayGo_3 rfl ?_
    refine gf_RX6_71 (pc := 4) 1 rfl hk1 dX6_letOneDayGo_4 ?_
    refine v_icmp_ge (pc := 7) 23 dX6_letOneDayGo_7 (by decide) (fun c1 => ?_) (fun c1 => ?_)
    · replace hf := it_t c1 hf
      have hf2 := Option.some.inj hf; subst hf2
      exact V_sub [0, 1] rfl hx
    · replace hf := it_f c1 hf
      refine v_aload_n (pc := 10) 0 dX6_letOneDayGo_10 rfl ?_
      refine gf_RX6_18 (pc := 11) 0 rfl hk0 dX6_letOneDayGo_11 ?_
      refine v_iload_n (pc := 14) 2 dX6_letOneDayGo_14 rfl ?_
      refine v_iconst (pc := 15) (0 : Int32) dX6_letOneDayGo_15 ci_0 ?_
      replace hf := gd_some hf; obtain ⟨g2, hf⟩ := hf
      refine as_X6_2 (pc := 16) [_, _] _ 0 rfl hk0 rfl g2 rfl dX6_letOneDayGo_16 ?_
      refine v_iinc (pc := 17) 2 (l2 + (1 : Int32)) [(2, _), (0, _), (1, _)] dX6_letOneDayGo_17 rfl (congrArg (fun z => _ + z) ci_1) (Nat.le_of_ble_eq_true rfl) rfl ?_
      refine v_goto (pc := 20) 2 dX6_letOneDayGo_20 (by decide) ?_
      exact V_sub [1, 2, 0] rfl (hrec hf)
set_option maxRecDepth 20000 in
theorem wX6_letOneDayGo_l25 {G : Wc} {Γ : Cx} {o oa : Nat} {Sa : Ob} (hk0 : kd o = 6) (hk1 : kd oa = 4) : ∀ (n : Nat) {l2 : Int32} {S : Ob} {r : Ob}, pX6_letOneDayGo_l25  Sa n l2 S = some r → V cX6_letOneDayGo RX6 2 83 3 G Γ [(o, r), (oa, Sa)] 69 [(0, .ref (wA G o 0))] [] → V cX6_letOneDayGo RX6 2 83 3 G Γ [(o, S), (oa, Sa)] 25 [(0, .ref (wA G o 0)), (1, .ref (wA G oa 0)), (2, .int l2)] [] := by
  intro n
  induction n with
  | zero => intro l2 S r hf hx; unfold pX6_letOneDayGo_l25 at hf; cases hf
  | succ n ih =>
    intro l2 S r hf hx
    have hrec : ∀ {l2 : Int32} {S : Ob}, pX6_letOneDayGo_l25  Sa n l2 S = some r → V cX6_letOneDayGo RX6 2 83 3 G Γ [(o, S), (oa, Sa)] 25 [(0, .ref (wA G o 0)), (1, .ref (wA G oa 0)), (2, .int l2)] [] := fun h => ih h hx
    clear ih
    unfold pX6_letOneDayGo_l25 at hf
    refine v_iload_n (pc := 25) 2 dX6_letOneDayGo_25 rfl ?_
    refine v_aload_n (pc := 26) 1 dX6_letOneDayGo_26 rfl ?_
    refine gf_RX6_119 (pc := 27) 1 rfl hk1 dX6_letOneDayGo_27 ?_
    refine v_icmp_ge (pc := 30) 69 dX6_letOneDayGo_30 (by decide) (fun c5 => ?_) (fun c5 => ?_)
    · replace hf := it_t c5 hf
      have hf2 := Option.some.inj hf; subst hf2
      exact V_sub [0] rfl hx
    · replace hf := it_f c5 hf
      refine v_aload_n (pc := 33) 1 dX6_letOneDayGo_33 rfl ?_
      refine v_iload_n (pc := 34) 2 dX6_letOneDayGo_34 rfl ?_
      refine v_aload_n (pc := 35) 0 dX6_letOneDayGo_35 rfl ?_
      refine gf_RX6_37 (pc := 36) 0 rfl hk0 dX6_letOneDayGo_36 ?_
      refine v_iconst (pc := 39) (1 : Int32) dX6_letOneDayGo_39 ci_1 ?_
      refine v_iadd (pc := 40) dX6_letOneDayGo_40 ?_
      replace hf := bd_some hf; obtain ⟨r6, h7, hf⟩ := hf
      refine V_call (pc := 41) (us1 := [_, _]) [1] 1 (kX4_catchesOn (o := oa) hk1 h7) rfl rfl rfl rfl rfl hk1 (Nat.le_of_ble_eq_true rfl) rfl rfl rfl wm_RX6_122 md_X4_catchesOn (Nat.le_of_ble_eq_true rfl) (Nat.le_of_ble_eq_true rfl) rfl rfl (Nat.le_of_ble_eq_true rfl) dX6_letOneDayGo_41 ?_
      refine v_if_eq (pc := 44) 63 dX6_letOneDayGo_44 (by decide) (fun c8 => ?_) (fun c8 => ?_)
      · replace hf := it_t c8 hf
        refine v_iinc (pc := 63) 2 (l2 + (1 : Int32)) [(2, _), (0, _), (1, _)] dX6_letOneDayGo_63 rfl (congrArg (fun z => _ + z) ci_1) (Nat.le_of_ble_eq_true rfl) rfl ?_
        refine v_goto (pc := 66) 25 dX6_letOneDayGo_66 (by decide) ?_
        exact V_sub [1, 2, 0] rfl (hrec hf)
      · replace hf := it_f c8 hf
        refine v_aload_n (pc := 47) 0 dX6_letOneDayGo_47 rfl ?_
        refine v_aload_n (pc := 48) 1 dX6_letOneDayGo_48 rfl ?_
        refine gf_RX6_125 (pc := 49) 1 rfl hk1 dX6_letOneDayGo_49 ?_
        refine v_iload_n (pc := 52) 2 dX6_letOneDayGo_52 rfl ?_
        replace hf := gd_some hf; obtain ⟨g9, hf⟩ := hf
        refine al_X4_8 (pc := 53) _ 1 rfl hk1 rfl g9 dX6_letOneDayGo_53 ?_
        refine v_aload_n (pc := 54) 1 dX6_letOneDayGo_54 rfl ?_
        refine gf_RX6_128 (pc := 55) 1 rfl hk1 dX6_letOneDayGo_55 ?_
        refine v_iload_n (pc := 58) 2 dX6_letOneDayGo_58 rfl ?_
        replace hf := gd_some hf; obtain ⟨g10, hf⟩ := hf
        refine al_X4_9 (pc := 59) _ 1 rfl hk1 rfl g10 dX6_letOneDayGo_59 ?_
        replace hf := bd_some hf; obtain ⟨r11, h12, hf⟩ := hf
        refine V_call (pc := 60) (us1 := [_, _]) [0] 0 (kX6_catchThing (o := o) hk0 h12) rfl rfl rfl rfl rfl hk0 (Nat.le_of_ble_eq_true rfl) rfl rfl rfl wm_RX6_131 md_X6_catchThing (Nat.le_of_ble_eq_true rfl) (Nat.le_of_ble_eq_true rfl) rfl rfl (Nat.le_of_ble_eq_true rfl) dX6_letOneDayGo_60 ?_
        refine v_iinc (pc := 63) 2 (l2 + (1 : Int32)) [(2, _), (0, _), (1, _)] dX6_letOneDayGo_63 rfl (congrArg (fun z => _ + z) ci_1) (Nat.le_of_ble_eq_true rfl) rfl ?_
        refine v_goto (pc := 66) 25 dX6_letOneDayGo_66 (by decide) ?_
        exact V_sub [1, 2, 0] rfl (hrec hf)
set_option maxRecDepth 20000 in
theorem kX6_letOneDayGo {G : Wc} {o oa : Nat} {S : Ob} {Sa : Ob}  {r : Ob} (hk0 : kd o = 6) (hk1 : kd oa = 4) (hf : pX6_letOneDayGo S Sa   = some r) : Cn yX6_letOneDayGo cX6_letOneDayGo 3 (none) 2 83 G [.ref (wA G o 0), .ref (wA G oa 0)] [(o, S), (oa, Sa)] [(o, r), (oa, Sa)] none := by
  refine V_method [(0, .ref (wA G o 0)), (1, .ref (wA G oa 0))] (by decide) rfl (Nat.le_of_ble_eq_true rfl) rfl (fun Γ hF => ?_)
  unfold pX6_letOneDayGo at hf
  refine v_iconst (pc := 0) (0 : Int32) dX6_letOneDayGo_0 ci_0 ?_
  refine v_istore_n (pc := 1) [(2, _), (0, _), (1, _)] dX6_letOneDayGo_1 (Nat.le_of_ble_eq_true rfl) rfl ?_
  replace hf := bd_some hf; obtain ⟨r3, h4, hf⟩ := hf
  refine V_sub [1, 2, 0] rfl (wX6_letOneDayGo_l2 hk0 hk1 fu h4 ?_)
  refine v_iconst (pc := 23) (0 : Int32) dX6_letOneDayGo_23 ci_0 ?_
  refine v_istore_n (pc := 24) [(2, _), (0, _), (1, _)] dX6_letOneDayGo_24 (Nat.le_of_ble_eq_true rfl) rfl ?_
  replace hf := bd_some hf; obtain ⟨r13, h14, hf⟩ := hf
  refine V_sub [1, 2, 0] rfl (wX6_letOneDayGo_l25 hk0 hk1 fu h14 ?_)
  refine v_aload_n (pc := 69) 0 dX6_letOneDayGo_69 rfl ?_
  refine v_dup (pc := 70) dX6_letOneDayGo_70 rfl ?_
  refine gf_RX6_37 (pc := 71) 0 rfl hk0 dX6_letOneDayGo_71 ?_
  refine v_iconst (pc := 74) (1 : Int32) dX6_letOneDayGo_74 ci_1 ?_
  refine v_iadd (pc := 75) dX6_letOneDayGo_75 ?_
  refine pf_RX6_37 (pc := 76) [_, _] 0 rfl hk0 rfl dX6_letOneDayGo_76 ?_
  have hf2 := Option.some.inj hf; subst hf2
  exact V_vret (pc := 79) hF dX6_letOneDayGo_79
set_option maxRecDepth 20000 in
theorem wX6_letDaysGo_l2 {G : Wc} {Γ : Cx} {o oa : Nat} {Sa : Ob} {l2 : Int32} (hk0 : kd o = 6) (hk1 : kd oa = 4) : ∀ (n : Nat) {l3 : Int32} {S : Ob} {r : Ob}, pX6_letDaysGo_l2  Sa l2 n l3 S = some r → V cX6_letDaysGo RX6 3 105 4 G Γ [(o, r), (oa, Sa)] 18 [] [] → V cX6_letDaysGo RX6 3 105 4 G Γ [(o, S), (oa, Sa)] 2 [(0, .ref (wA G o 0)), (1, .ref (wA G oa 0)), (2, .int l2), (3, .int l3)] [] := by
  intro n
  induction n with
  | zero => intro l3 S r hf hx; unfold pX6_letDaysGo_l2 at hf; cases hf
  | succ n ih =>
    intro l3 S r hf hx
    have hrec : ∀ {l3 : Int32} {S : Ob}, pX6_letDaysGo_l2  Sa l2 n l3 S = some r → V cX6_letDaysGo RX6 3 105 4 G Γ [(o, S), (oa, Sa)] 2 [(0, .ref (wA G o 0)), (1, .ref (wA G oa 0)), (2, .int l2), (3, .int l3)] [] := fun h => ih h hx
    clear ih
    unfold pX6_letDaysGo_l2 at hf
    refine v_iload_n (pc := 2) 3 dX6_letDaysGo_2 rfl ?_
    refine v_iload_n (pc := 3) 2 dX6_letDaysGo_3 rfl ?_
    refine v_icmp_ge (pc := 4) 18 dX6_letDaysGo_4 (by decide) (fun c1 => ?_) (fun c1 => ?_)
    · replace hf := it_t c1 hf
      have hf2 := Option.some.inj hf; subst hf2
      exact V_sub [] rfl hx
    · replace hf := it_f c1 hf
      refine v_aload_n (pc := 7) 0 dX6_letDaysGo_7 rfl ?_
      refine v_aload_n (pc := 8) 1 dX6_letDaysGo_8 rfl ?_
      replace hf := bd_some hf; obtain ⟨r2, h3, hf⟩ := hf
      refine V_call (pc := 9) (us1 := [_, _]) [0, 1] 0 (kX6_letOneDayGo (o := o) (oa := oa) hk0 hk1 h3) rfl rfl rfl rfl rfl hk0 (Nat.le_of_ble_eq_true rfl) rfl rfl rfl wm_RX6_115 md_X6_letOneDayGo (Nat.le_of_ble_eq_true rfl) (Nat.le_of_ble_eq_true rfl) rfl rfl (Nat.le_of_ble_eq_true rfl) dX6_letDaysGo_9 ?_
      refine v_iinc (pc := 12) 3 (l3 + (1 : Int32)) [(3, _), (0, _), (1, _), (2, _)] dX6_letDaysGo_12 rfl (congrArg (fun z => _ + z) ci_1) (Nat.le_of_ble_eq_true rfl) rfl ?_
      refine v_goto (pc := 15) 2 dX6_letDaysGo_15 (by decide) ?_
      exact V_sub [1, 2, 3, 0] rfl (hrec hf)
set_option maxRecDepth 20000 in
theorem kX6_letDaysGo {G : Wc} {o oa : Nat} {S : Ob} {Sa : Ob} {b : Int32} {r : Ob} (hk0 : kd o = 6) (hk1 : kd oa = 4) (hf : pX6_letDaysGo S Sa  b = some r) : Cn yX6_letDaysGo cX6_letDaysGo 4 (none) 3 105 G [.ref (wA G o 0), .ref (wA G oa 0), .int b] [(o, S), (oa, Sa)] [(o, r), (oa, Sa)] none := by
  refine V_method [(0, .ref (wA G o 0)), (1, .ref (wA G oa 0)), (2, .int b)] (by decide) rfl (Nat.le_of_ble_eq_true rfl) rfl (fun Γ hF => ?_)
  unfold pX6_letDaysGo at hf
  refine v_iconst (pc := 0) (0 : Int32) dX6_letDaysGo_0 ci_0 ?_
  refine v_istore_n (pc := 1) [(3, _), (0, _), (1, _), (2, _)] dX6_letDaysGo_1 (Nat.le_of_ble_eq_true rfl) rfl ?_
  replace hf := bd_some hf; obtain ⟨r4, h5, hf⟩ := hf
  refine V_sub [1, 2, 3, 0] rfl (wX6_letDaysGo_l2 hk0 hk1 fu h5 ?_)
  have hf2 := Option.some.inj hf; subst hf2
  exact V_vret (pc := 18) hF dX6_letDaysGo_18
set_option maxRecDepth 20000 in
theorem kX6_whyNoStuffing {G : Wc} {o : Nat} {S : Ob} {a : Int32} {r : Int32} (hk0 : kd o = 6) (hf : pX6_whyNoStuffing S  a = some r) : Cn yX6_whyNoStuffing cX6_whyNoStuffing 2 (some .int) 1 60 G [.ref (wA G o 0), .int a] [(o, S)] [(o, S)] (some (.int r)) := by
  refine V_method [(0, .ref (wA G o 0)), (1, .int a)] (by decide) rfl (Nat.le_of_ble_eq_true rfl) rfl (fun Γ hF => ?_)
  unfold pX6_whyNoStuffing at hf
  refine v_aload_n (pc := 0) 0 dX6_whyNoStuffing_0 rfl ?_
  refine gf_RX6_21 (pc := 1) 0 rfl hk0 dX6_whyNoStuffing_1 ?_
  refine v_iload_n (pc := 4) 1 dX6_whyNoStuffing_4 rfl ?_
  replace hf := gd_some hf; obtain ⟨g1, hf⟩ := hf
  refine al_X6_3 (pc := 5) _ 0 rfl hk0 rfl g1 dX6_whyNoStuffing_5 ?_
  refine v_if_ne (pc := 6) 13 dX6_whyNoStuffing_6 (by decide) (fun c2 => ?_) (fun c2 => ?_)
  · replace hf := it_f c2 hf
    refine v_iconst (pc := 13) (0 : Int32) dX6_whyNoStuffing_13 ci_0 ?_
    have hf2 := Option.some.inj hf; subst hf2
    exact V_iret (pc := 14) hF dX6_whyNoStuffing_14
  · replace hf := it_t c2 hf
    refine v_iconst (pc := 9) (1 : Int32) dX6_whyNoStuffing_9 ci_1 ?_
    refine v_goto (pc := 10) 14 dX6_whyNoStuffing_10 (by decide) ?_
    have hf2 := Option.some.inj hf; subst hf2
    exact V_iret (pc := 14) hF dX6_whyNoStuffing_14
set_option maxRecDepth 20000 in
theorem kX6_fillBed {G : Wc} {o oa : Nat} {S : Ob} {Sa : Ob} {b : Int32} {c : Int32} {r : Ob} (hk0 : kd o = 6) (hk1 : kd oa = 4) (hf : pX6_fillBed S Sa  b c = some r) : Cn yX6_fillBed cX6_fillBed 4 (none) 1 60 G [.ref (wA G o 0), .ref (wA G oa 0), .int b, .int c] [(o, S), (oa, Sa)] [(o, r), (oa, Sa)] none := by
  refine V_method [(0, .ref (wA G o 0)), (1, .ref (wA G oa 0)), (2, .int b), (3, .int c)] (by decide) rfl (Nat.le_of_ble_eq_true rfl) rfl (fun Γ hF => ?_)
  unfold pX6_fillBed at hf
  refine v_aload_n (pc := 0) 0 dX6_fillBed_0 rfl ?_
  refine gf_RX6_21 (pc := 1) 0 rfl hk0 dX6_fillBed_1 ?_
  refine v_iload_n (pc := 4) 3 dX6_fillBed_4 rfl ?_
  refine v_dup2 (pc := 5) dX6_fillBed_5 rfl rfl ?_
  replace hf := gd_some hf; obtain ⟨g1, hf⟩ := hf
  refine al_X6_3 (pc := 6) _ 0 rfl hk0 rfl g1 dX6_fillBed_6 ?_
  refine v_iconst (pc := 7) (1 : Int32) dX6_fillBed_7 ci_1 ?_
  refine v_isub (pc := 8) dX6_fillBed_8 ?_
  replace hf := gd_some hf; obtain ⟨g2, hf⟩ := hf
  refine as_X6_3 (pc := 9) [_, _] _ 0 rfl hk0 rfl g2 rfl dX6_fillBed_9 ?_
  refine v_aload_n (pc := 10) 0 dX6_fillBed_10 rfl ?_
  refine v_dup (pc := 11) dX6_fillBed_11 rfl ?_
  refine gf_RX6_33 (pc := 12) 0 rfl hk0 dX6_fillBed_12 ?_
  refine v_iconst (pc := 15) (1 : Int32) dX6_fillBed_15 ci_1 ?_
  refine v_isub (pc := 16) dX6_fillBed_16 ?_
  refine pf_RX6_33 (pc := 17) [_, _] 0 rfl hk0 rfl dX6_fillBed_17 ?_
  refine v_aload_n (pc := 20) 0 dX6_fillBed_20 rfl ?_
  refine gf_RX6_24 (pc := 21) 0 rfl hk0 dX6_fillBed_21 ?_
  refine v_iload_n (pc := 24) 3 dX6_fillBed_24 rfl ?_
  refine v_dup2 (pc := 25) dX6_fillBed_25 rfl rfl ?_
  replace hf := gd_some hf; obtain ⟨g3, hf⟩ := hf
  refine al_X6_4 (pc := 26) _ 0 rfl hk0 rfl g3 dX6_fillBed_26 ?_
  refine v_iconst (pc := 27) (1 : Int32) dX6_fillBed_27 ci_1 ?_
  refine v_iadd (pc := 28) dX6_fillBed_28 ?_
  replace hf := gd_some hf; obtain ⟨g4, hf⟩ := hf
  refine as_X6_4 (pc := 29) [_, _] _ 0 rfl hk0 rfl g4 rfl dX6_fillBed_29 ?_
  refine v_aload_n (pc := 30) 0 dX6_fillBed_30 rfl ?_
  refine gf_RX6_27 (pc := 31) 0 rfl hk0 dX6_fillBed_31 ?_
  refine v_iload_n (pc := 34) 2 dX6_fillBed_34 rfl ?_
  refine v_dup2 (pc := 35) dX6_fillBed_35 rfl rfl ?_
  replace hf := gd_some hf; obtain ⟨g5, hf⟩ := hf
  refine al_X6_5 (pc := 36) _ 0 rfl hk0 rfl g5 dX6_fillBed_36 ?_
  refine v_aload_n (pc := 37) 1 dX6_fillBed_37 rfl ?_
  refine gf_RX6_114 (pc := 38) 1 rfl hk1 dX6_fillBed_38 ?_
  refine v_iload_n (pc := 41) 3 dX6_fillBed_41 rfl ?_
  replace hf := gd_some hf; obtain ⟨g6, hf⟩ := hf
  refine al_X4_3 (pc := 42) _ 1 rfl hk1 rfl g6 dX6_fillBed_42 ?_
  refine v_iadd (pc := 43) dX6_fillBed_43 ?_
  replace hf := gd_some hf; obtain ⟨g7, hf⟩ := hf
  refine as_X6_5 (pc := 44) [_, _] _ 0 rfl hk0 rfl g7 rfl dX6_fillBed_44 ?_
  refine v_aload_n (pc := 45) 0 dX6_fillBed_45 rfl ?_
  refine gf_RX6_30 (pc := 46) 0 rfl hk0 dX6_fillBed_46 ?_
  refine v_iload_n (pc := 49) 2 dX6_fillBed_49 rfl ?_
  refine v_dup2 (pc := 50) dX6_fillBed_50 rfl rfl ?_
  replace hf := gd_some hf; obtain ⟨g8, hf⟩ := hf
  refine al_X6_6 (pc := 51) _ 0 rfl hk0 rfl g8 dX6_fillBed_51 ?_
  refine v_iconst (pc := 52) (1 : Int32) dX6_fillBed_52 ci_1 ?_
  refine v_iadd (pc := 53) dX6_fillBed_53 ?_
  replace hf := gd_some hf; obtain ⟨g9, hf⟩ := hf
  refine as_X6_6 (pc := 54) [_, _] _ 0 rfl hk0 rfl g9 rfl dX6_fillBed_54 ?_
  have hf2 := Option.some.inj hf; subst hf2
  exact V_vret (pc := 55) hF dX6_fillBed_55
set_option maxRecDepth 20000 in
theorem kX0_liveStuffing {G : Wc} {o oa ob : Nat} {S : Ob} {Sa : Ob} {Sb : Ob} {c : Int32} {d : Int32} {r : Int32 × Ob} (hk0 : kd o = 0) (hk1 : kd oa = 4) (hk2 : kd ob = 6) (hf : pX0_liveStuffing S Sa Sb  c d = some r) : Cn yX0_liveStuffing cX0_liveStuffing 6 (some .int) 2 83 G [.ref (wA G o 0), .ref (wA G oa 0), .ref (wA G ob 0), .int c, .int d] [(o, S), (oa, Sa), (ob, Sb)] [(o, S), (oa, Sa), (ob, r.2)] (some (.int r.1)) := by
  refine V_method [(0, .ref (wA G o 0)), (1, .ref (wA G oa 0)), (2, .ref (wA G ob 0)), (3, .int c), (4, .int d)] (by decide) rfl (Nat.le_of_ble_eq_true rfl) rfl (fun Γ hF => ?_)
  unfold pX0_liveStuffing at hf
  refine v_aload_n (pc := 0) 2 dX0_liveStuffing_0 rfl ?_
  refine v_iload (pc := 1) 4 dX0_liveStuffing_1 rfl ?_
  replace hf := bd_some hf; obtain ⟨r1, h2, hf⟩ := hf
  refine V_call (pc := 3) (us1 := [_, _, _]) [2] 2 (kX6_whyNoStuffing (o := ob) hk2 h2) rfl rfl rfl rfl rfl hk2 (Nat.le_of_ble_eq_true rfl) rfl rfl rfl wm_RX0_186 md_X6_whyNoStuffing (Nat.le_of_ble_eq_true rfl) (Nat.le_of_ble_eq_true rfl) rfl rfl (Nat.le_of_ble_eq_true rfl) dX0_liveStuffing_3 ?_
  refine v_istore (pc := 6) [(5, _), (0, _), (1, _), (2, _), (3, _), (4, _)] dX0_liveStuffing_6 (Nat.le_of_ble_eq_true rfl) rfl ?_
  refine v_iload (pc := 8) 0 dX0_liveStuffing_8 rfl ?_
  refine v_if_eq (pc := 10) 19 dX0_liveStuffing_10 (by decide) (fun c3 => ?_) (fun c3 => ?_)
  · replace hf := it_t c3 hf
    refine v_aload_n (pc := 19) 3 dX0_liveStuffing_19 rfl ?_
    refine v_aload_n (pc := 20) 2 dX0_liveStuffing_20 rfl ?_
    refine v_iload_n (pc := 21) 4 dX0_liveStuffing_21 rfl ?_
    refine v_iload (pc := 22) 5 dX0_liveStuffing_22 rfl ?_
    replace hf := bd_some hf; obtain ⟨r4, h5, hf⟩ := hf
    refine V_call (pc := 24) (us1 := [_, _, _]) [2, 1] 2 (kX6_fillBed (o := ob) (oa := oa) hk2 hk1 h5) rfl rfl rfl rfl rfl hk2 (Nat.le_of_ble_eq_true rfl) rfl rfl rfl wm_RX0_189 md_X6_fillBed (Nat.le_of_ble_eq_true rfl) (Nat.le_of_ble_eq_true rfl) rfl rfl (Nat.le_of_ble_eq_true rfl) dX0_liveStuffing_24 ?_
    refine v_iconst (pc := 27) (0 : Int32) dX0_liveStuffing_27 ci_0 ?_
    have hf2 := Option.some.inj hf; subst hf2
    exact V_iret (pc := 28) hF dX0_liveStuffing_28
  · replace hf := it_f c3 hf
    refine v_bipush (pc := 13) (30 : Int32) dX0_liveStuffing_13 cb_30 ?_
    refine v_iload (pc := 15) 0 dX0_liveStuffing_15 rfl ?_
    refine v_iadd (pc := 17) dX0_liveStuffing_17 ?_
    have hf2 := Option.some.inj hf; subst hf2
    exact V_iret (pc := 18) hF dX0_liveStuffing_18
set_option maxRecDepth 20000 in
theorem kX6_isNest {G : Wc} {o : Nat} {S : Ob} {a : Int32} {r : Int32} (hk0 : kd o = 6) (hf : pX6_isNest S  a = some r) : Cn yX6_isNest cX6_isNest 2 (some .boolean) 1 60 G [.ref (wA G o 0), .int a] [(o, S)] [(o, S)] (some (.int r)) := by
  refine V_method [(0, .ref (wA G o 0)), (1, .int a)] (by decide) rfl (Nat.le_of_ble_eq_true rfl) rfl (fun Γ hF => ?_)
  unfold pX6_isNest at hf
  refine v_aload_n (pc := 0) 0 dX6_isNest_0 rfl ?_
  refine gf_RX6_15 (pc := 1) 0 rfl hk0 dX6_isNest_1 ?_
  refine v_iload_n (pc := 4) 1 dX6_isNest_4 rfl ?_
  replace hf := gd_some hf; obtain ⟨g1, hf⟩ := hf
  refine al_X6_1 (pc := 5) _ 0 rfl hk0 rfl g1 dX6_isNest_5 ?_
  refine v_bipush (pc := 6) (8 : Int32) dX6_isNest_6 cb_8 ?_
  refine v_icmp_lt (pc := 8) 15 dX6_isNest_8 (by decide) (fun c2 => ?_) (fun c2 => ?_)
  · replace hf := it_t c2 hf
    refine v_iconst (pc := 15) (0 : Int32) dX6_isNest_15 ci_0 ?_
    have hf2 := Option.some.inj hf; subst hf2
    exact V_zret (pc := 16) hF rfl dX6_isNest_16
  · replace hf := it_f c2 hf
    refine v_iconst (pc := 11) (1 : Int32) dX6_isNest_11 ci_1 ?_
    refine v_goto (pc := 12) 16 dX6_isNest_12 (by decide) ?_
    have hf2 := Option.some.inj hf; subst hf2
    exact V_zret (pc := 16) hF rfl dX6_isNest_16
set_option maxRecDepth 20000 in
theorem kX6_whyNoCatch {G : Wc} {o : Nat} {S : Ob} {a : Int32} {r : Int32} (hk0 : kd o = 6) (hf : pX6_whyNoCatch S  a = some r) : Cn yX6_whyNoCatch cX6_whyNoCatch 2 (some .int) 2 81 G [.ref (wA G o 0), .int a] [(o, S)] [(o, S)] (some (.int r)) := by
  refine V_method [(0, .ref (wA G o 0)), (1, .int a)] (by decide) rfl (Nat.le_of_ble_eq_true rfl) rfl (fun Γ hF => ?_)
  unfold pX6_whyNoCatch at hf
  refine v_aload_n (pc := 0) 0 dX6_whyNoCatch_0 rfl ?_
  refine v_iload_n (pc := 1) 1 dX6_whyNoCatch_1 rfl ?_
  replace hf := bd_some hf; obtain ⟨r1, h2, hf⟩ := hf
  refine V_call (pc := 2) (us1 := [_]) [0] 0 (kX6_isNest (o := o) hk0 h2) rfl rfl rfl rfl rfl hk0 (Nat.le_of_ble_eq_true rfl) rfl rfl rfl wm_RX6_88 md_X6_isNest (Nat.le_of_ble_eq_true rfl) (Nat.le_of_ble_eq_true rfl) rfl rfl (Nat.le_of_ble_eq_true rfl) dX6_whyNoCatch_2 ?_
  refine v_if_eq (pc := 5) 12 dX6_whyNoCatch_5 (by decide) (fun c3 => ?_) (fun c3 => ?_)
  · replace hf := it_t c3 hf
    refine v_iconst (pc := 12) (0 : Int32) dX6_whyNoCatch_12 ci_0 ?_
    have hf2 := Option.some.inj hf; subst hf2
    exact V_iret (pc := 13) hF dX6_whyNoCatch_13
  · replace hf := it_f c3 hf
    refine v_iconst (pc := 8) (1 : Int32) dX6_whyNoCatch_8 ci_1 ?_
    refine v_goto (pc := 9) 13 dX6_whyNoCatch_9 (by decide) ?_
    have hf2 := Option.some.inj hf; subst hf2
    exact V_iret (pc := 13) hF dX6_whyNoCatch_13
set_option maxRecDepth 20000 in
theorem kX0_liveCatch {G : Wc} {o oa : Nat} {S : Ob} {Sa : Ob} {b : Int32} {c : Int32} {r : Int32 × Ob} (hk0 : kd o = 0) (hk1 : kd oa = 6) (hf : pX0_liveCatch S Sa  b c = some r) : Cn yX0_liveCatch cX0_liveCatch 5 (some .int) 3 102 G [.ref (wA G o 0), .ref (wA G oa 0), .int b, .int c] [(o, S), (oa, Sa)] [(o, S), (oa, r.2)] (some (.int r.1)) := by
  refine V_method [(0, .ref (wA G o 0)), (1, .ref (wA G oa 0)), (2, .int b), (3, .int c)] (by decide) rfl (Nat.le_of_ble_eq_true rfl) rfl (fun Γ hF => ?_)
  unfold pX0_liveCatch at hf
  refine v_aload_n (pc := 0) 1 dX0_liveCatch_0 rfl ?_
  refine v_iload_n (pc := 1) 2 dX0_liveCatch_1 rfl ?_
  replace hf := bd_some hf; obtain ⟨r1, h2, hf⟩ := hf
  refine V_call (pc := 2) (us1 := [_, _]) [1] 1 (kX6_whyNoCatch (o := oa) hk1 h2) rfl rfl rfl rfl rfl hk1 (Nat.le_of_ble_eq_true rfl) rfl rfl rfl wm_RX0_179 md_X6_whyNoCatch (Nat.le_of_ble_eq_true rfl) (Nat.le_of_ble_eq_true rfl) rfl rfl (Nat.le_of_ble_eq_true rfl) dX0_liveCatch_2 ?_
  refine v_istore (pc := 5) [(4, _), (0, _), (1, _), (2, _), (3, _)] dX0_liveCatch_5 (Nat.le_of_ble_eq_true rfl) rfl ?_
  refine v_iload (pc := 7) 0 dX0_liveCatch_7 rfl ?_
  refine v_if_eq (pc := 9) 18 dX0_liveCatch_9 (by decide) (fun c3 => ?_) (fun c3 => ?_)
  · replace hf := it_t c3 hf
    refine v_aload_n (pc := 18) 2 dX0_liveCatch_18 rfl ?_
    refine v_iload_n (pc := 19) 3 dX0_liveCatch_19 rfl ?_
    refine v_iload_n (pc := 20) 4 dX0_liveCatch_20 rfl ?_
    replace hf := bd_some hf; obtain ⟨r4, h5, hf⟩ := hf
    refine V_call (pc := 21) (us1 := [_, _]) [1] 1 (kX6_catchThing (o := oa) hk1 h5) rfl rfl rfl rfl rfl hk1 (Nat.le_of_ble_eq_true rfl) rfl rfl rfl wm_RX0_182 md_X6_catchThing (Nat.le_of_ble_eq_true rfl) (Nat.le_of_ble_eq_true rfl) rfl rfl (Nat.le_of_ble_eq_true rfl) dX0_liveCatch_21 ?_
    refine v_iconst (pc := 24) (0 : Int32) dX0_liveCatch_24 ci_0 ?_
    have hf2 := Option.some.inj hf; subst hf2
    exact V_iret (pc := 25) hF dX0_liveCatch_25
  · replace hf := it_f c3 hf
    refine v_bipush (pc := 12) (20 : Int32) dX0_liveCatch_12 cb_20 ?_
    refine v_iload (pc := 14) 0 dX0_liveCatch_14 rfl ?_
    refine v_iadd (pc := 16) dX0_liveCatch_16 ?_
    have hf2 := Option.some.inj hf; subst hf2
    exact V_iret (pc := 17) hF dX0_liveCatch_17
set_option maxRecDepth 20000 in
theorem kX6_whyNoCut {G : Wc} {o : Nat} {S : Ob} {a : Int32} {r : Int32} (hk0 : kd o = 6) (hf : pX6_whyNoCut S  a = some r) : Cn yX6_whyNoCut cX6_whyNoCut 2 (some .int) 1 60 G [.ref (wA G o 0), .int a] [(o, S)] [(o, S)] (some (.int r)) := by
  refine V_method [(0, .ref (wA G o 0)), (1, .int a)] (by decide) rfl (Nat.le_of_ble_eq_true rfl) rfl (fun Γ hF => ?_)
  unfold pX6_whyNoCut at hf
  refine v_aload_n (pc := 0) 0 dX6_whyNoCut_0 rfl ?_
  refine gf_RX6_15 (pc := 1) 0 rfl hk0 dX6_whyNoCut_1 ?_
  refine v_iload_n (pc := 4) 1 dX6_whyNoCut_4 rfl ?_
  replace hf := gd_some hf; obtain ⟨g1, hf⟩ := hf
  refine al_X6_1 (pc := 5) _ 0 rfl hk0 rfl g1 dX6_whyNoCut_5 ?_
  refine v_if_ne (pc := 6) 13 dX6_whyNoCut_6 (by decide) (fun c2 => ?_) (fun c2 => ?_)
  · replace hf := it_f c2 hf
    refine v_iconst (pc := 13) (0 : Int32) dX6_whyNoCut_13 ci_0 ?_
    have hf2 := Option.some.inj hf; subst hf2
    exact V_iret (pc := 14) hF dX6_whyNoCut_14
  · replace hf := it_t c2 hf
    refine v_iconst (pc := 9) (1 : Int32) dX6_whyNoCut_9 ci_1 ?_
    refine v_goto (pc := 10) 14 dX6_whyNoCut_10 (by decide) ?_
    have hf2 := Option.some.inj hf; subst hf2
    exact V_iret (pc := 14) hF dX6_whyNoCut_14
set_option maxRecDepth 20000 in
theorem wX6_knotBelow_l12 {G : Wc} {Γ : Cx} {o : Nat} {S : Ob} {l1 : Int32} {l2 : Int32} {l4 : Int32} (hk0 : kd o = 6) : ∀ (n : Nat) {l3 : Int32} {r : Int32}, pX6_knotBelow_l12  S l1 l2 l4 n l3 = some r → V cX6_knotBelow RX6 1 60 5 G Γ [(o, S)] 52 [(3, .int r)] [] → V cX6_knotBelow RX6 1 60 5 G Γ [(o, S)] 12 [(0, .ref (wA G o 0)), (1, .int l1), (2, .int l2), (3, .int l3), (4, .int l4)] [] := by
  intro n
  induction n with
  | zero => intro l3 r hf hx; unfold pX6_knotBelow_l12 at hf; cases hf
  | succ n ih =>
    intro l3 r hf hx
    have hrec : ∀ {l3 : Int32}, pX6_knotBelow_l12  S l1 l2 l4 n l3 = some r → V cX6_knotBelow RX6 1 60 5 G Γ [(o, S)] 12 [(0, .ref (wA G o 0)), (1, .int l1), (2, .int l2), (3, .int l3), (4, .int l4)] [] := fun h => ih h hx
    clear ih
    unfold pX6_knotBelow_l12 at hf
    refine v_iload_n (pc := 12) 3 dX6_knotBelow_12 rfl ?_
    refine v_iload_n (pc := 13) 2 dX6_knotBelow_13 rfl ?_
    refine v_icmp_ge (pc := 14) 52 dX6_knotBelow_14 (by decide) (fun c1 => ?_) (fun c1 => ?_)
    · replace hf := it_t c1 hf
      have hf2 := Option.some.inj hf; subst hf2
      exact V_sub [3] rfl hx
    · replace hf := it_f c1 hf
      refine v_iload_n (pc := 17) 2 dX6_knotBelow_17 rfl ?_
      refine v_aload_n (pc := 18) 0 dX6_knotBelow_18 rfl ?_
      refine gf_RX6_15 (pc := 19) 0 rfl hk0 dX6_knotBelow_19 ?_
      refine v_iload_n (pc := 22) 1 dX6_knotBelow_22 rfl ?_
      replace hf := gd_some hf; obtain ⟨g2, hf⟩ := hf
      refine al_X6_1 (pc := 23) _ 0 rfl hk0 rfl g2 dX6_knotBelow_23 ?_
      refine v_icmp_gt (pc := 24) 52 dX6_knotBelow_24 (by decide) (fun c3 => ?_) (fun c3 => ?_)
      · replace hf := it_t c3 hf
        have hf2 := Option.some.inj hf; subst hf2
        exact V_sub [3] rfl hx
      · replace hf := it_f c3 hf
        refine v_aload_n (pc := 27) 0 dX6_knotBelow_27 rfl ?_
        refine gf_RX6_9 (pc := 28) 0 rfl hk0 dX6_knotBelow_28 ?_
        refine v_iload (pc := 31) 4 dX6_knotBelow_31 rfl ?_
        refine v_iload_n (pc := 33) 3 dX6_knotBelow_33 rfl ?_
        refine v_isub (pc := 34) dX6_knotBelow_34 ?_
        replace hf := gd_some hf; obtain ⟨g4, hf⟩ := hf
        refine al_X6_0 (pc := 35) _ 0 rfl hk0 rfl g4 dX6_knotBelow_35 ?_
        refine v_aload_n (pc := 36) 0 dX6_knotBelow_36 rfl ?_
        refine gf_RX6_9 (pc := 37) 0 rfl hk0 dX6_knotBelow_37 ?_
        refine v_iload (pc := 40) 4 dX6_knotBelow_40 rfl ?_
        replace hf := gd_some hf; obtain ⟨g5, hf⟩ := hf
        refine al_X6_0 (pc := 42) _ 0 rfl hk0 rfl g5 dX6_knotBelow_42 ?_
        refine v_icmp_ne (pc := 43) 52 dX6_knotBelow_43 (by decide) (fun c6 => ?_) (fun c6 => ?_)
        · replace hf := it_f c6 hf
          have hf2 := Option.some.inj hf; subst hf2
          exact V_sub [3] rfl hx
        · replace hf := it_t c6 hf
          refine v_iinc (pc := 46) 3 (l3 + (1 : Int32)) [(3, _), (0, _), (1, _), (2, _), (4, _)] dX6_knotBelow_46 rfl (congrArg (fun z => _ + z) ci_1) (Nat.le_of_ble_eq_true rfl) rfl ?_
          refine v_goto (pc := 49) 12 dX6_knotBelow_49 (by decide) ?_
          exact V_sub [1, 2, 3, 0, 4] rfl (hrec hf)
set_option maxRecDepth 20000 in
theorem kX6_knotBelow {G : Wc} {o : Nat} {S : Ob} {a : Int32} {b : Int32} {r : Int32} (hk0 : kd o = 6) (hf : pX6_knotBelow S  a b = some r) : Cn yX6_knotBelow cX6_knotBelow 5 (some .int) 1 60 G [.ref (wA G o 0), .int a, .int b] [(o, S)] [(o, S)] (some (.int r)) := by
  refine V_method [(0, .ref (wA G o 0)), (1, .int a), (2, .int b)] (by decide) rfl (Nat.le_of_ble_eq_true rfl) rfl (fun Γ hF => ?_)
  unfold pX6_knotBelow at hf
  refine v_iconst (pc := 0) (0 : Int32) dX6_knotBelow_0 ci_0 ?_
  refine v_istore_n (pc := 1) [(3, _), (0, _), (1, _), (2, _)] dX6_knotBelow_1 (Nat.le_of_ble_eq_true rfl) rfl ?_
  refine v_iload_n (pc := 2) 2 dX6_knotBelow_2 rfl ?_
  refine v_bipush (pc := 3) (8 : Int32) dX6_knotBelow_3 cb_8 ?_
  refine v_imul (pc := 5) dX6_knotBelow_5 ?_
  refine v_iload_n (pc := 6) 3 dX6_knotBelow_6 rfl ?_
  refine v_iadd (pc := 7) dX6_knotBelow_7 ?_
  refine v_iconst (pc := 8) (1 : Int32) dX6_knotBelow_8 ci_1 ?_
  refine v_isub (pc := 9) dX6_knotBelow_9 ?_
  refine v_istore (pc := 10) [(4, _), (3, _), (0, _), (1, _), (2, _)] dX6_knotBelow_10 (Nat.le_of_ble_eq_true rfl) rfl ?_
  replace hf := bd_some hf; obtain ⟨r7, h8, hf⟩ := hf
  refine V_sub [2, 3, 4, 1, 0] rfl (wX6_knotBelow_l12 hk0 fu h8 ?_)
  refine v_iload_n (pc := 52) 0 dX6_knotBelow_52 rfl ?_
  have hf2 := Option.some.inj hf; subst hf2
  exact V_iret (pc := 53) hF dX6_knotBelow_53
set_option maxRecDepth 20000 in
theorem kX6_cutOff {G : Wc} {o : Nat} {S : Ob} {a : Int32} {r : Ob} (hk0 : kd o = 6) (hf : pX6_cutOff S  a = some r) : Cn yX6_cutOff cX6_cutOff 3 (none) 2 84 G [.ref (wA G o 0), .int a] [(o, S)] [(o, r)] none := by
  refine V_method [(0, .ref (wA G o 0)), (1, .int a)] (by decide) rfl (Nat.le_of_ble_eq_true rfl) rfl (fun Γ hF => ?_)
  unfold pX6_cutOff at hf
  refine v_aload_n (pc := 0) 0 dX6_cutOff_0 rfl ?_
  refine v_iload_n (pc := 1) 1 dX6_cutOff_1 rfl ?_
  refine v_aload_n (pc := 2) 0 dX6_cutOff_2 rfl ?_
  refine gf_RX6_15 (pc := 3) 0 rfl hk0 dX6_cutOff_3 ?_
  refine v_iload_n (pc := 6) 1 dX6_cutOff_6 rfl ?_
  replace hf := gd_some hf; obtain ⟨g1, hf⟩ := hf
  refine al_X6_1 (pc := 7) _ 0 rfl hk0 rfl g1 dX6_cutOff_7 ?_
  replace hf := bd_some hf; obtain ⟨r2, h3, hf⟩ := hf
  refine V_call (pc := 8) (us1 := [_]) [0] 0 (kX6_knotBelow (o := o) hk0 h3) rfl rfl rfl rfl rfl hk0 (Nat.le_of_ble_eq_true rfl) rfl rfl rfl wm_RX6_64 md_X6_knotBelow (Nat.le_of_ble_eq_true rfl) (Nat.le_of_ble_eq_true rfl) rfl rfl (Nat.le_of_ble_eq_true rfl) dX6_cutOff_8 ?_
  refine v_istore_n (pc := 11) [(2, _), (0, _), (1, _)] dX6_cutOff_11 (Nat.le_of_ble_eq_true rfl) rfl ?_
  refine v_aload_n (pc := 12) 1 dX6_cutOff_12 rfl ?_
  refine gf_RX6_15 (pc := 13) 0 rfl hk0 dX6_cutOff_13 ?_
  refine v_iload_n (pc := 16) 2 dX6_cutOff_16 rfl ?_
  refine v_dup2 (pc := 17) dX6_cutOff_17 rfl rfl ?_
  replace hf := gd_some hf; obtain ⟨g4, hf⟩ := hf
  refine al_X6_1 (pc := 18) _ 0 rfl hk0 rfl g4 dX6_cutOff_18 ?_
  refine v_iload_n (pc := 19) 0 dX6_cutOff_19 rfl ?_
  refine v_isub (pc := 20) dX6_cutOff_20 ?_
  replace hf := gd_some hf; obtain ⟨g5, hf⟩ := hf
  refine as_X6_1 (pc := 21) [_] _ 0 rfl hk0 rfl g5 rfl dX6_cutOff_21 ?_
  refine v_aload_n (pc := 22) 1 dX6_cutOff_22 rfl ?_
  refine v_dup (pc := 23) dX6_cutOff_23 rfl ?_
  refine gf_RX6_46 (pc := 24) 0 rfl hk0 dX6_cutOff_24 ?_
  refine v_iload_n (pc := 27) 0 dX6_cutOff_27 rfl ?_
  refine v_iadd (pc := 28) dX6_cutOff_28 ?_
  refine pf_RX6_46 (pc := 29) [_] 0 rfl hk0 rfl dX6_cutOff_29 ?_
  refine v_aload_n (pc := 32) 1 dX6_cutOff_32 rfl ?_
  refine v_dup (pc := 33) dX6_cutOff_33 rfl ?_
  refine gf_RX6_43 (pc := 34) 0 rfl hk0 dX6_cutOff_34 ?_
  refine v_iconst (pc := 37) (1 : Int32) dX6_cutOff_37 ci_1 ?_
  refine v_iadd (pc := 38) dX6_cutOff_38 ?_
  refine pf_RX6_43 (pc := 39) [_] 0 rfl hk0 rfl dX6_cutOff_39 ?_
  have hf2 := Option.some.inj hf; subst hf2
  exact V_vret (pc := 42) hF dX6_cutOff_42
set_option maxRecDepth 20000 in
theorem kX0_liveCut {G : Wc} {o oa : Nat} {S : Ob} {Sa : Ob} {b : Int32} {r : Int32 × Ob} (hk0 : kd o = 0) (hk1 : kd oa = 6) (hf : pX0_liveCut S Sa  b = some r) : Cn yX0_liveCut cX0_liveCut 4 (some .int) 3 106 G [.ref (wA G o 0), .ref (wA G oa 0), .int b] [(o, S), (oa, Sa)] [(o, S), (oa, r.2)] (some (.int r.1)) := by
  refine V_method [(0, .ref (wA G o 0)), (1, .ref (wA G oa 0)), (2, .int b)] (by decide) rfl (Nat.le_of_ble_eq_true rfl) rfl (fun Γ hF => ?_)
  unfold pX0_liveCut at hf
  refine v_aload_n (pc := 0) 1 dX0_liveCut_0 rfl ?_
  refine v_iload_n (pc := 1) 2 dX0_liveCut_1 rfl ?_
  replace hf := bd_some hf; obtain ⟨r1, h2, hf⟩ := hf
  refine V_call (pc := 2) (us1 := [_, _]) [1] 1 (kX6_whyNoCut (o := oa) hk1 h2) rfl rfl rfl rfl rfl hk1 (Nat.le_of_ble_eq_true rfl) rfl rfl rfl wm_RX0_172 md_X6_whyNoCut (Nat.le_of_ble_eq_true rfl) (Nat.le_of_ble_eq_true rfl) rfl rfl (Nat.le_of_ble_eq_true rfl) dX0_liveCut_2 ?_
  refine v_istore_n (pc := 5) [(3, _), (0, _), (1, _), (2, _)] dX0_liveCut_5 (Nat.le_of_ble_eq_true rfl) rfl ?_
  refine v_iload_n (pc := 6) 0 dX0_liveCut_6 rfl ?_
  refine v_if_eq (pc := 7) 15 dX0_liveCut_7 (by decide) (fun c3 => ?_) (fun c3 => ?_)
  · replace hf := it_t c3 hf
    refine v_aload_n (pc := 15) 2 dX0_liveCut_15 rfl ?_
    refine v_iload_n (pc := 16) 3 dX0_liveCut_16 rfl ?_
    replace hf := bd_some hf; obtain ⟨r4, h5, hf⟩ := hf
    refine V_call (pc := 17) (us1 := [_, _]) [1] 1 (kX6_cutOff (o := oa) hk1 h5) rfl rfl rfl rfl rfl hk1 (Nat.le_of_ble_eq_true rfl) rfl rfl rfl wm_RX0_176 md_X6_cutOff (Nat.le_of_ble_eq_true rfl) (Nat.le_of_ble_eq_true rfl) rfl rfl (Nat.le_of_ble_eq_true rfl) dX0_liveCut_17 ?_
    refine v_iconst (pc := 20) (0 : Int32) dX0_liveCut_20 ci_0 ?_
    have hf2 := Option.some.inj hf; subst hf2
    exact V_iret (pc := 21) hF dX0_liveCut_21
  · replace hf := it_f c3 hf
    refine v_bipush (pc := 10) (10 : Int32) dX0_liveCut_10 cb_10 ?_
    refine v_iload_n (pc := 12) 0 dX0_liveCut_12 rfl ?_
    refine v_iadd (pc := 13) dX0_liveCut_13 ?_
    have hf2 := Option.some.inj hf; subst hf2
    exact V_iret (pc := 14) hF dX0_liveCut_14
set_option maxRecDepth 20000 in
theorem kX6_layerAt {G : Wc} {o : Nat} {S : Ob} {a : Int32} {b : Int32} {r : Int32} (hk0 : kd o = 6) (hf : pX6_layerAt S  a b = some r) : Cn yX6_layerAt cX6_layerAt 3 (some .int) 1 60 G [.ref (wA G o 0), .int a, .int b] [(o, S)] [(o, S)] (some (.int r)) := by
  refine V_method [(0, .ref (wA G o 0)), (1, .int a), (2, .int b)] (by decide) rfl (Nat.le_of_ble_eq_true rfl) rfl (fun Γ hF => ?_)
  unfold pX6_layerAt at hf
  refine v_iload_n (pc := 0) 2 dX6_layerAt_0 rfl ?_
  refine v_if_lt (pc := 1) 14 dX6_layerAt_1 (by decide) (fun c1 => ?_) (fun c1 => ?_)
  · replace hf := it_t c1 hf
    refine v_iconst (pc := 14) (-1 : Int32) dX6_layerAt_14 ci_m1 ?_
    refine v_goto (pc := 15) 29 dX6_layerAt_15 (by decide) ?_
    have hf2 := Option.some.inj hf; subst hf2
    exact V_iret (pc := 29) hF dX6_layerAt_29
  · replace hf := it_f c1 hf
    refine v_iload_n (pc := 4) 2 dX6_layerAt_4 rfl ?_
    refine v_aload_n (pc := 5) 0 dX6_layerAt_5 rfl ?_
    refine gf_RX6_15 (pc := 6) 0 rfl hk0 dX6_layerAt_6 ?_
    refine v_iload_n (pc := 9) 1 dX6_layerAt_9 rfl ?_
    replace hf := gd_some hf; obtain ⟨g2, hf⟩ := hf
    refine al_X6_1 (pc := 10) _ 0 rfl hk0 rfl g2 dX6_layerAt_10 ?_
    refine v_icmp_lt (pc := 11) 18 dX6_layerAt_11 (by decide) (fun c3 => ?_) (fun c3 => ?_)
    · replace hf := it_t c3 hf
      refine v_aload_n (pc := 18) 0 dX6_layerAt_18 rfl ?_
      refine gf_RX6_9 (pc := 19) 0 rfl hk0 dX6_layerAt_19 ?_
      refine v_iload_n (pc := 22) 1 dX6_layerAt_22 rfl ?_
      refine v_bipush (pc := 23) (8 : Int32) dX6_layerAt_23 cb_8 ?_
      refine v_imul (pc := 25) dX6_layerAt_25 ?_
      refine v_iload_n (pc := 26) 2 dX6_layerAt_26 rfl ?_
      refine v_iadd (pc := 27) dX6_layerAt_27 ?_
      replace hf := gd_some hf; obtain ⟨g4, hf⟩ := hf
      refine al_X6_0 (pc := 28) _ 0 rfl hk0 rfl g4 dX6_layerAt_28 ?_
      have hf2 := Option.some.inj hf; subst hf2
      exact V_iret (pc := 29) hF dX6_layerAt_29
    · replace hf := it_f c3 hf
      refine v_iconst (pc := 14) (-1 : Int32) dX6_layerAt_14 ci_m1 ?_
      refine v_goto (pc := 15) 29 dX6_layerAt_15 (by decide) ?_
      have hf2 := Option.some.inj hf; subst hf2
      exact V_iret (pc := 29) hF dX6_layerAt_29
set_option maxRecDepth 20000 in
theorem kX6_holdAt {G : Wc} {o oa : Nat} {S : Ob} {Sa : Ob} {b : Int32} {c : Int32} {r : Int32} (hk0 : kd o = 6) (hk1 : kd oa = 4) (hf : pX6_holdAt S Sa  b c = some r) : Cn yX6_holdAt cX6_holdAt 5 (some .int) 2 82 G [.ref (wA G o 0), .ref (wA G oa 0), .int b, .int c] [(o, S), (oa, Sa)] [(o, S), (oa, Sa)] (some (.int r)) := by
  refine V_method [(0, .ref (wA G o 0)), (1, .ref (wA G oa 0)), (2, .int b), (3, .int c)] (by decide) rfl (Nat.le_of_ble_eq_true rfl) rfl (fun Γ hF => ?_)
  unfold pX6_holdAt at hf
  refine v_aload_n (pc := 0) 0 dX6_holdAt_0 rfl ?_
  refine v_iload_n (pc := 1) 2 dX6_holdAt_1 rfl ?_
  refine v_iload_n (pc := 2) 3 dX6_holdAt_2 rfl ?_
  replace hf := bd_some hf; obtain ⟨r1, h2, hf⟩ := hf
  refine V_call (pc := 3) (us1 := [_, _]) [0] 0 (kX6_layerAt (o := o) hk0 h2) rfl rfl rfl rfl rfl hk0 (Nat.le_of_ble_eq_true rfl) rfl rfl rfl wm_RX6_55 md_X6_layerAt (Nat.le_of_ble_eq_true rfl) (Nat.le_of_ble_eq_true rfl) rfl rfl (Nat.le_of_ble_eq_true rfl) dX6_holdAt_3 ?_
  refine v_istore (pc := 6) [(4, _), (0, _), (1, _), (2, _), (3, _)] dX6_holdAt_6 (Nat.le_of_ble_eq_true rfl) rfl ?_
  refine v_iload (pc := 8) 0 dX6_holdAt_8 rfl ?_
  refine v_if_lt (pc := 10) 20 dX6_holdAt_10 (by decide) (fun c3 => ?_) (fun c3 => ?_)
  · replace hf := it_t c3 hf
    refine v_iconst (pc := 20) (0 : Int32) dX6_holdAt_20 ci_0 ?_
    refine v_goto (pc := 21) 31 dX6_holdAt_21 (by decide) ?_
    have hf2 := Option.some.inj hf; subst hf2
    exact V_iret (pc := 31) hF dX6_holdAt_31
  · replace hf := it_f c3 hf
    refine v_iload (pc := 13) 0 dX6_holdAt_13 rfl ?_
    refine v_bipush (pc := 15) (8 : Int32) dX6_holdAt_15 cb_8 ?_
    refine v_icmp_lt (pc := 17) 24 dX6_holdAt_17 (by decide) (fun c4 => ?_) (fun c4 => ?_)
    · replace hf := it_t c4 hf
      refine v_aload_n (pc := 24) 2 dX6_holdAt_24 rfl ?_
      refine gf_RX6_59 (pc := 25) 1 rfl hk1 dX6_holdAt_25 ?_
      refine v_iload (pc := 28) 0 dX6_holdAt_28 rfl ?_
      replace hf := gd_some hf; obtain ⟨g5, hf⟩ := hf
      refine al_X4_2 (pc := 30) _ 1 rfl hk1 rfl g5 dX6_holdAt_30 ?_
      have hf2 := Option.some.inj hf; subst hf2
      exact V_iret (pc := 31) hF dX6_holdAt_31
    · replace hf := it_f c4 hf
      refine v_iconst (pc := 20) (0 : Int32) dX6_holdAt_20 ci_0 ?_
      refine v_goto (pc := 21) 31 dX6_holdAt_21 (by decide) ?_
      have hf2 := Option.some.inj hf; subst hf2
      exact V_iret (pc := 31) hF dX6_holdAt_31
set_option maxRecDepth 20000 in
theorem kX6_outsideHolds {G : Wc} {o oa : Nat} {S : Ob} {Sa : Ob} {b : Int32} {r : Int32} (hk0 : kd o = 6) (hk1 : kd oa = 4) (hf : pX6_outsideHolds S Sa  b = some r) : Cn yX6_outsideHolds cX6_outsideHolds 3 (some .int) 3 106 G [.ref (wA G o 0), .ref (wA G oa 0), .int b] [(o, S), (oa, Sa)] [(o, S), (oa, Sa)] (some (.int r)) := by
  refine V_method [(0, .ref (wA G o 0)), (1, .ref (wA G oa 0)), (2, .int b)] (by decide) rfl (Nat.le_of_ble_eq_true rfl) rfl (fun Γ hF => ?_)
  unfold pX6_outsideHolds at hf
  refine v_aload_n (pc := 0) 0 dX6_outsideHolds_0 rfl ?_
  refine v_iload_n (pc := 1) 2 dX6_outsideHolds_1 rfl ?_
  refine v_aload_n (pc := 2) 0 dX6_outsideHolds_2 rfl ?_
  refine gf_RX6_15 (pc := 3) 0 rfl hk0 dX6_outsideHolds_3 ?_
  refine v_iload_n (pc := 6) 2 dX6_outsideHolds_6 rfl ?_
  replace hf := gd_some hf; obtain ⟨g1, hf⟩ := hf
  refine al_X6_1 (pc := 7) _ 0 rfl hk0 rfl g1 dX6_outsideHolds_7 ?_
  replace hf := bd_some hf; obtain ⟨r2, h3, hf⟩ := hf
  refine V_call (pc := 8) (us1 := [_, _]) [0] 0 (kX6_knotBelow (o := o) hk0 h3) rfl rfl rfl rfl rfl hk0 (Nat.le_of_ble_eq_true rfl) rfl rfl rfl wm_RX6_64 md_X6_knotBelow (Nat.le_of_ble_eq_true rfl) (Nat.le_of_ble_eq_true rfl) rfl rfl (Nat.le_of_ble_eq_true rfl) dX6_outsideHolds_8 ?_
  refine v_aload_n (pc := 11) 0 dX6_outsideHolds_11 rfl ?_
  refine v_aload_n (pc := 12) 1 dX6_outsideHolds_12 rfl ?_
  refine v_iload_n (pc := 13) 2 dX6_outsideHolds_13 rfl ?_
  refine v_aload_n (pc := 14) 0 dX6_outsideHolds_14 rfl ?_
  refine gf_RX6_15 (pc := 15) 0 rfl hk0 dX6_outsideHolds_15 ?_
  refine v_iload_n (pc := 18) 2 dX6_outsideHolds_18 rfl ?_
  replace hf := gd_some hf; obtain ⟨g4, hf⟩ := hf
  refine al_X6_1 (pc := 19) _ 0 rfl hk0 rfl g4 dX6_outsideHolds_19 ?_
  refine v_iconst (pc := 20) (1 : Int32) dX6_outsideHolds_20 ci_1 ?_
  refine v_isub (pc := 21) dX6_outsideHolds_21 ?_
  replace hf := bd_some hf; obtain ⟨r5, h6, hf⟩ := hf
  refine V_call (pc := 22) (us1 := [_, _]) [0, 1] 0 (kX6_holdAt (o := o) (oa := oa) hk0 hk1 h6) rfl rfl rfl rfl rfl hk0 (Nat.le_of_ble_eq_true rfl) rfl rfl rfl wm_RX6_67 md_X6_holdAt (Nat.le_of_ble_eq_true rfl) (Nat.le_of_ble_eq_true rfl) rfl rfl (Nat.le_of_ble_eq_true rfl) dX6_outsideHolds_22 ?_
  refine v_imul (pc := 25) dX6_outsideHolds_25 ?_
  have hf2 := Option.some.inj hf; subst hf2
  exact V_iret (pc := 26) hF dX6_outsideHolds_26
set_option maxRecDepth 20000 in
theorem kX6_whyNoStroke {G : Wc} {o oa : Nat} {S : Ob} {Sa : Ob} {b : Int32} {c : Int32} {r : Int32} (hk0 : kd o = 6) (hk1 : kd oa = 4) (hf : pX6_whyNoStroke S Sa  b c = some r) : Cn yX6_whyNoStroke cX6_whyNoStroke 4 (some .int) 4 128 G [.ref (wA G o 0), .ref (wA G oa 0), .int b, .int c] [(o, S), (oa, Sa)] [(o, S), (oa, Sa)] (some (.int r)) := by
  refine V_method [(0, .ref (wA G o 0)), (1, .ref (wA G oa 0)), (2, .int b), (3, .int c)] (by decide) rfl (Nat.le_of_ble_eq_true rfl) rfl (fun Γ hF => ?_)
  unfold pX6_whyNoStroke at hf
  refine v_aload_n (pc := 0) 0 dX6_whyNoStroke_0 rfl ?_
  refine gf_RX6_15 (pc := 1) 0 rfl hk0 dX6_whyNoStroke_1 ?_
  refine v_iload_n (pc := 4) 2 dX6_whyNoStroke_4 rfl ?_
  replace hf := gd_some hf; obtain ⟨g1, hf⟩ := hf
  refine al_X6_1 (pc := 5) _ 0 rfl hk0 rfl g1 dX6_whyNoStroke_5 ?_
  refine v_if_ne (pc := 6) 11 dX6_whyNoStroke_6 (by decide) (fun c2 => ?_) (fun c2 => ?_)
  · replace hf := it_f c2 hf
    refine v_aload_n (pc := 11) 0 dX6_whyNoStroke_11 rfl ?_
    refine v_aload_n (pc := 12) 1 dX6_whyNoStroke_12 rfl ?_
    refine v_iload_n (pc := 13) 2 dX6_whyNoStroke_13 rfl ?_
    replace hf := bd_some hf; obtain ⟨r3, h4, hf⟩ := hf
    refine V_call (pc := 14) (us1 := [_, _]) [0, 1] 0 (kX6_outsideHolds (o := o) (oa := oa) hk0 hk1 h4) rfl rfl rfl rfl rfl hk0 (Nat.le_of_ble_eq_true rfl) rfl rfl rfl wm_RX6_92 md_X6_outsideHolds (Nat.le_of_ble_eq_true rfl) (Nat.le_of_ble_eq_true rfl) rfl rfl (Nat.le_of_ble_eq_true rfl) dX6_whyNoStroke_14 ?_
    refine v_iload_n (pc := 17) 3 dX6_whyNoStroke_17 rfl ?_
    refine v_icmp_le (pc := 18) 23 dX6_whyNoStroke_18 (by decide) (fun c5 => ?_) (fun c5 => ?_)
    · replace hf := it_t c5 hf
      refine v_iload_n (pc := 23) 3 dX6_whyNoStroke_23 rfl ?_
      refine v_aload_n (pc := 24) 1 dX6_whyNoStroke_24 rfl ?_
      refine gf_RX6_96 (pc := 25) 1 rfl hk1 dX6_whyNoStroke_25 ?_
      refine v_icmp_le (pc := 28) 33 dX6_whyNoStroke_28 (by decide) (fun c6 => ?_) (fun c6 => ?_)
      · replace hf := it_t c6 hf
        refine v_aload_n (pc := 33) 0 dX6_whyNoStroke_33 rfl ?_
        refine gf_RX6_18 (pc := 34) 0 rfl hk0 dX6_whyNoStroke_34 ?_
        refine v_iload_n (pc := 37) 2 dX6_whyNoStroke_37 rfl ?_
        replace hf := gd_some hf; obtain ⟨g7, hf⟩ := hf
        refine al_X6_2 (pc := 38) _ 0 rfl hk0 rfl g7 dX6_whyNoStroke_38 ?_
        refine v_iload_n (pc := 39) 3 dX6_whyNoStroke_39 rfl ?_
        refine v_iadd (pc := 40) dX6_whyNoStroke_40 ?_
        refine v_aload_n (pc := 41) 1 dX6_whyNoStroke_41 rfl ?_
        refine gf_RX6_99 (pc := 42) 1 rfl hk1 dX6_whyNoStroke_42 ?_
        refine v_iload_n (pc := 45) 2 dX6_whyNoStroke_45 rfl ?_
        replace hf := gd_some hf; obtain ⟨g8, hf⟩ := hf
        refine al_X4_6 (pc := 46) _ 1 rfl hk1 rfl g8 dX6_whyNoStroke_46 ?_
        refine v_icmp_le (pc := 47) 54 dX6_whyNoStroke_47 (by decide) (fun c9 => ?_) (fun c9 => ?_)
        · replace hf := it_t c9 hf
          refine v_iconst (pc := 54) (0 : Int32) dX6_whyNoStroke_54 ci_0 ?_
          have hf2 := Option.some.inj hf; subst hf2
          exact V_iret (pc := 55) hF dX6_whyNoStroke_55
        · replace hf := it_f c9 hf
          refine v_iconst (pc := 50) (4 : Int32) dX6_whyNoStroke_50 ci_4 ?_
          refine v_goto (pc := 51) 55 dX6_whyNoStroke_51 (by decide) ?_
          have hf2 := Option.some.inj hf; subst hf2
          exact V_iret (pc := 55) hF dX6_whyNoStroke_55
      · replace hf := it_f c6 hf
        refine v_iconst (pc := 31) (3 : Int32) dX6_whyNoStroke_31 ci_3 ?_
        have hf2 := Option.some.inj hf; subst hf2
        exact V_iret (pc := 32) hF dX6_whyNoStroke_32
    · replace hf := it_f c5 hf
      refine v_iconst (pc := 21) (2 : Int32) dX6_whyNoStroke_21 ci_2 ?_
      have hf2 := Option.some.inj hf; subst hf2
      exact V_iret (pc := 22) hF dX6_whyNoStroke_22
  · replace hf := it_t c2 hf
    refine v_iconst (pc := 9) (1 : Int32) dX6_whyNoStroke_9 ci_1 ?_
    have hf2 := Option.some.inj hf; subst hf2
    exact V_iret (pc := 10) hF dX6_whyNoStroke_10
set_option maxRecDepth 20000 in
theorem kX6_layerFromOutside {G : Wc} {o : Nat} {S : Ob} {a : Int32} {b : Int32} {r : Int32} (hk0 : kd o = 6) (hf : pX6_layerFromOutside S  a b = some r) : Cn yX6_layerFromOutside cX6_layerFromOutside 3 (some .int) 2 82 G [.ref (wA G o 0), .int a, .int b] [(o, S)] [(o, S)] (some (.int r)) := by
  refine V_method [(0, .ref (wA G o 0)), (1, .int a), (2, .int b)] (by decide) rfl (Nat.le_of_ble_eq_true rfl) rfl (fun Γ hF => ?_)
  unfold pX6_layerFromOutside at hf
  refine v_aload_n (pc := 0) 0 dX6_layerFromOutside_0 rfl ?_
  refine v_iload_n (pc := 1) 1 dX6_layerFromOutside_1 rfl ?_
  refine v_aload_n (pc := 2) 0 dX6_layerFromOutside_2 rfl ?_
  refine gf_RX6_15 (pc := 3) 0 rfl hk0 dX6_layerFromOutside_3 ?_
  refine v_iload_n (pc := 6) 1 dX6_layerFromOutside_6 rfl ?_
  replace hf := gd_some hf; obtain ⟨g1, hf⟩ := hf
  refine al_X6_1 (pc := 7) _ 0 rfl hk0 rfl g1 dX6_layerFromOutside_7 ?_
  refine v_iconst (pc := 8) (1 : Int32) dX6_layerFromOutside_8 ci_1 ?_
  refine v_isub (pc := 9) dX6_layerFromOutside_9 ?_
  refine v_iload_n (pc := 10) 2 dX6_layerFromOutside_10 rfl ?_
  refine v_isub (pc := 11) dX6_layerFromOutside_11 ?_
  replace hf := bd_some hf; obtain ⟨r2, h3, hf⟩ := hf
  refine V_call (pc := 12) (us1 := [_]) [0] 0 (kX6_layerAt (o := o) hk0 h3) rfl rfl rfl rfl rfl hk0 (Nat.le_of_ble_eq_true rfl) rfl rfl rfl wm_RX6_55 md_X6_layerAt (Nat.le_of_ble_eq_true rfl) (Nat.le_of_ble_eq_true rfl) rfl rfl (Nat.le_of_ble_eq_true rfl) dX6_layerFromOutside_12 ?_
  have hf2 := Option.some.inj hf; subst hf2
  exact V_iret (pc := 15) hF dX6_layerFromOutside_15
set_option maxRecDepth 20000 in
theorem kX6_putOutsideKnotIntoBag {G : Wc} {o : Nat} {S : Ob} {a : Int32} {r : Ob} (hk0 : kd o = 6) (hf : pX6_putOutsideKnotIntoBag S  a = some r) : Cn yX6_putOutsideKnotIntoBag cX6_putOutsideKnotIntoBag 5 (none) 3 104 G [.ref (wA G o 0), .int a] [(o, S)] [(o, r)] none := by
  refine V_method [(0, .ref (wA G o 0)), (1, .int a)] (by decide) rfl (Nat.le_of_ble_eq_true rfl) rfl (fun Γ hF => ?_)
  unfold pX6_putOutsideKnotIntoBag at hf
  refine v_aload_n (pc := 0) 0 dX6_putOutsideKnotIntoBag_0 rfl ?_
  refine v_iload_n (pc := 1) 1 dX6_putOutsideKnotIntoBag_1 rfl ?_
  refine v_aload_n (pc := 2) 0 dX6_putOutsideKnotIntoBag_2 rfl ?_
  refine gf_RX6_15 (pc := 3) 0 rfl hk0 dX6_putOutsideKnotIntoBag_3 ?_
  refine v_iload_n (pc := 6) 1 dX6_putOutsideKnotIntoBag_6 rfl ?_
  replace hf := gd_some hf; obtain ⟨g1, hf⟩ := hf
  refine al_X6_1 (pc := 7) _ 0 rfl hk0 rfl g1 dX6_putOutsideKnotIntoBag_7 ?_
  replace hf := bd_some hf; obtain ⟨r2, h3, hf⟩ := hf
  refine V_call (pc := 8) (us1 := [_]) [0] 0 (kX6_knotBelow (o := o) hk0 h3) rfl rfl rfl rfl rfl hk0 (Nat.le_of_ble_eq_true rfl) rfl rfl rfl wm_RX6_64 md_X6_knotBelow (Nat.le_of_ble_eq_true rfl) (Nat.le_of_ble_eq_true rfl) rfl rfl (Nat.le_of_ble_eq_true rfl) dX6_putOutsideKnotIntoBag_8 ?_
  refine v_istore_n (pc := 11) [(2, _), (0, _), (1, _)] dX6_putOutsideKnotIntoBag_11 (Nat.le_of_ble_eq_true rfl) rfl ?_
  refine v_aload_n (pc := 12) 1 dX6_putOutsideKnotIntoBag_12 rfl ?_
  refine v_iload_n (pc := 13) 2 dX6_putOutsideKnotIntoBag_13 rfl ?_
  refine v_iconst (pc := 14) (0 : Int32) dX6_putOutsideKnotIntoBag_14 ci_0 ?_
  replace hf := bd_some hf; obtain ⟨r4, h5, hf⟩ := hf
  refine V_call (pc := 15) (us1 := [_]) [0] 0 (kX6_layerFromOutside (o := o) hk0 h5) rfl rfl rfl rfl rfl hk0 (Nat.le_of_ble_eq_true rfl) rfl rfl rfl wm_RX6_106 md_X6_layerFromOutside (Nat.le_of_ble_eq_true rfl) (Nat.le_of_ble_eq_true rfl) rfl rfl (Nat.le_of_ble_eq_true rfl) dX6_putOutsideKnotIntoBag_15 ?_
  refine v_istore_n (pc := 18) [(3, _), (2, _), (0, _), (1, _)] dX6_putOutsideKnotIntoBag_18 (Nat.le_of_ble_eq_true rfl) rfl ?_
  refine v_iload_n (pc := 19) 0 dX6_putOutsideKnotIntoBag_19 rfl ?_
  refine v_if_lt (pc := 20) 29 dX6_putOutsideKnotIntoBag_20 (by decide) (fun c6 => ?_) (fun c6 => ?_)
  · replace hf := it_t c6 hf
    have hf2 := Option.some.inj hf; subst hf2
    exact V_vret (pc := 29) hF dX6_putOutsideKnotIntoBag_29
  · replace hf := it_f c6 hf
    refine v_iload_n (pc := 23) 0 dX6_putOutsideKnotIntoBag_23 rfl ?_
    refine v_bipush (pc := 24) (8 : Int32) dX6_putOutsideKnotIntoBag_24 cb_8 ?_
    refine v_icmp_lt (pc := 26) 30 dX6_putOutsideKnotIntoBag_26 (by decide) (fun c7 => ?_) (fun c7 => ?_)
    · replace hf := it_t c7 hf
      refine v_iload_n (pc := 30) 1 dX6_putOutsideKnotIntoBag_30 rfl ?_
      refine v_bipush (pc := 31) (10 : Int32) dX6_putOutsideKnotIntoBag_31 cb_10 ?_
      refine v_aload_n (pc := 33) 2 dX6_putOutsideKnotIntoBag_33 rfl ?_
      refine gf_RX6_33 (pc := 34) 0 rfl hk0 dX6_putOutsideKnotIntoBag_34 ?_
      refine v_isub (pc := 37) dX6_putOutsideKnotIntoBag_37 ?_
      refine v_mmin (pc := 38) wm_RX6_109 (Nat.le_of_ble_eq_true rfl) (Nat.le_of_ble_eq_true rfl) (Nat.le_of_ble_eq_true rfl) dX6_putOutsideKnotIntoBag_38 ?_
      refine v_istore (pc := 41) [(4, _), (3, _), (2, _), (0, _), (1, _)] dX6_putOutsideKnotIntoBag_41 (Nat.le_of_ble_eq_true rfl) rfl ?_
      refine v_aload_n (pc := 43) 3 dX6_putOutsideKnotIntoBag_43 rfl ?_
      refine gf_RX6_21 (pc := 44) 0 rfl hk0 dX6_putOutsideKnotIntoBag_44 ?_
      refine v_iload_n (pc := 47) 1 dX6_putOutsideKnotIntoBag_47 rfl ?_
      refine v_dup2 (pc := 48) dX6_putOutsideKnotIntoBag_48 rfl rfl ?_
      replace hf := gd_some hf; obtain ⟨g8, hf⟩ := hf
      refine al_X6_3 (pc := 49) _ 0 rfl hk0 rfl g8 dX6_putOutsideKnotIntoBag_49 ?_
      refine v_iload (pc := 50) 0 dX6_putOutsideKnotIntoBag_50 rfl ?_
      refine v_iadd (pc := 52) dX6_putOutsideKnotIntoBag_52 ?_
      replace hf := gd_some hf; obtain ⟨g9, hf⟩ := hf
      refine as_X6_3 (pc := 53) [_] _ 0 rfl hk0 rfl g9 rfl dX6_putOutsideKnotIntoBag_53 ?_
      refine v_aload_n (pc := 54) 3 dX6_putOutsideKnotIntoBag_54 rfl ?_
      refine v_dup (pc := 55) dX6_putOutsideKnotIntoBag_55 rfl ?_
      refine gf_RX6_33 (pc := 56) 0 rfl hk0 dX6_putOutsideKnotIntoBag_56 ?_
      refine v_iload (pc := 59) 0 dX6_putOutsideKnotIntoBag_59 rfl ?_
      refine v_iadd (pc := 61) dX6_putOutsideKnotIntoBag_61 ?_
      refine pf_RX6_33 (pc := 62) [_] 0 rfl hk0 rfl dX6_putOutsideKnotIntoBag_62 ?_
      refine v_aload_n (pc := 65) 3 dX6_putOutsideKnotIntoBag_65 rfl ?_
      refine v_dup (pc := 66) dX6_putOutsideKnotIntoBag_66 rfl ?_
      refine gf_RX6_46 (pc := 67) 0 rfl hk0 dX6_putOutsideKnotIntoBag_67 ?_
      refine v_iload_n (pc := 70) 2 dX6_putOutsideKnotIntoBag_70 rfl ?_
      refine v_iload (pc := 71) 0 dX6_putOutsideKnotIntoBag_71 rfl ?_
      refine v_isub (pc := 73) dX6_putOutsideKnotIntoBag_73 ?_
      refine v_iadd (pc := 74) dX6_putOutsideKnotIntoBag_74 ?_
      refine pf_RX6_46 (pc := 75) [_] 0 rfl hk0 rfl dX6_putOutsideKnotIntoBag_75 ?_
      refine v_aload_n (pc := 78) 3 dX6_putOutsideKnotIntoBag_78 rfl ?_
      refine gf_RX6_15 (pc := 79) 0 rfl hk0 dX6_putOutsideKnotIntoBag_79 ?_
      refine v_iload_n (pc := 82) 4 dX6_putOutsideKnotIntoBag_82 rfl ?_
      refine v_dup2 (pc := 83) dX6_putOutsideKnotIntoBag_83 rfl rfl ?_
      replace hf := gd_some hf; obtain ⟨g10, hf⟩ := hf
      refine al_X6_1 (pc := 84) _ 0 rfl hk0 rfl g10 dX6_putOutsideKnotIntoBag_84 ?_
      refine v_iload_n (pc := 85) 2 dX6_putOutsideKnotIntoBag_85 rfl ?_
      refine v_isub (pc := 86) dX6_putOutsideKnotIntoBag_86 ?_
      replace hf := gd_some hf; obtain ⟨g11, hf⟩ := hf
      refine as_X6_1 (pc := 87) [_] _ 0 rfl hk0 rfl g11 rfl dX6_putOutsideKnotIntoBag_87 ?_
      have hf2 := Option.some.inj hf; subst hf2
      exact V_vret (pc := 88) hF dX6_putOutsideKnotIntoBag_88
    · replace hf := it_f c7 hf
      have hf2 := Option.some.inj hf; subst hf2
      exact V_vret (pc := 29) hF dX6_putOutsideKnotIntoBag_29
set_option maxRecDepth 20000 in
theorem wX6_comb_l6 {G : Wc} {Γ : Cx} {o oa : Nat} {Sa : Ob} {l2 : Int32} {l3 : Int32} (hk0 : kd o = 6) (hk1 : kd oa = 4) : ∀ (n : Nat) {l4 : Int32} {l5 : Int32} {S : Ob} {r : Ob}, pX6_comb_l6  Sa l2 l3 n l4 l5 S = some r → V cX6_comb RX6 4 128 6 G Γ [(o, r), (oa, Sa)] 55 [(0, .ref (wA G o 0)), (2, .int l2), (3, .int l3)] [] → V cX6_comb RX6 4 128 6 G Γ [(o, S), (oa, Sa)] 6 [(0, .ref (wA G o 0)), (1, .ref (wA G oa 0)), (2, .int l2), (3, .int l3), (4, .int l4), (5, .int l5)] [] := by
  intro n
  induction n with
  | zero => intro l4 l5 S r hf hx; unfold pX6_comb_l6 at hf; cases hf
  | succ n ih =>
    intro l4 l5 S r hf hx
    have hrec : ∀ {l4 : Int32} {l5 : Int32} {S : Ob}, pX6_comb_l6  Sa l2 l3 n l4 l5 S = some r → V cX6_comb RX6 4 128 6 G Γ [(o, S), (oa, Sa)] 6 [(0, .ref (wA G o 0)), (1, .ref (wA G oa 0)), (2, .int l2), (3, .int l3), (4, .int l4), (5, .int l5)] [] := fun h => ih h hx
    clear ih
    unfold pX6_comb_l6 at hf
    refine v_iload (pc := 6) 5 dX6_comb_6 rfl ?_
    refine v_bipush (pc := 8) (8 : Int32) dX6_comb_8 cb_8 ?_
    refine v_icmp_ge (pc := 10) 55 dX6_comb_10 (by decide) (fun c1 => ?_) (fun c1 => ?_)
    · replace hf := it_t c1 hf
      have hf2 := Option.some.inj hf; subst hf2
      exact V_sub [0, 2, 3] rfl hx
    · replace hf := it_f c1 hf
      refine v_aload_n (pc := 13) 0 dX6_comb_13 rfl ?_
      refine gf_RX6_15 (pc := 14) 0 rfl hk0 dX6_comb_14 ?_
      refine v_iload_n (pc := 17) 2 dX6_comb_17 rfl ?_
      replace hf := gd_some hf; obtain ⟨g2, hf⟩ := hf
      refine al_X6_1 (pc := 18) _ 0 rfl hk0 rfl g2 dX6_comb_18 ?_
      refine v_if_le (pc := 19) 55 dX6_comb_19 (by decide) (fun c3 => ?_) (fun c3 => ?_)
      · replace hf := it_t c3 hf
        have hf2 := Option.some.inj hf; subst hf2
        exact V_sub [0, 2, 3] rfl hx
      · replace hf := it_f c3 hf
        refine v_aload_n (pc := 22) 0 dX6_comb_22 rfl ?_
        refine v_aload_n (pc := 23) 1 dX6_comb_23 rfl ?_
        refine v_iload_n (pc := 24) 2 dX6_comb_24 rfl ?_
        replace hf := bd_some hf; obtain ⟨r4, h5, hf⟩ := hf
        refine V_call (pc := 25) (us1 := [_, _]) [0, 1] 0 (kX6_outsideHolds (o := o) (oa := oa) hk0 hk1 h5) rfl rfl rfl rfl rfl hk0 (Nat.le_of_ble_eq_true rfl) rfl rfl rfl wm_RX6_92 md_X6_outsideHolds (Nat.le_of_ble_eq_true rfl) (Nat.le_of_ble_eq_true rfl) rfl rfl (Nat.le_of_ble_eq_true rfl) dX6_comb_25 ?_
        refine v_iload (pc := 28) 4 dX6_comb_28 rfl ?_
        refine v_icmp_gt (pc := 30) 55 dX6_comb_30 (by decide) (fun c6 => ?_) (fun c6 => ?_)
        · replace hf := it_t c6 hf
          have hf2 := Option.some.inj hf; subst hf2
          exact V_sub [0, 2, 3] rfl hx
        · replace hf := it_f c6 hf
          refine v_iload (pc := 33) 4 dX6_comb_33 rfl ?_
          refine v_aload_n (pc := 35) 0 dX6_comb_35 rfl ?_
          refine v_aload_n (pc := 36) 1 dX6_comb_36 rfl ?_
          refine v_iload_n (pc := 37) 2 dX6_comb_37 rfl ?_
          replace hf := bd_some hf; obtain ⟨r7, h8, hf⟩ := hf
          refine V_call (pc := 38) (us1 := [_, _]) [0, 1] 0 (kX6_outsideHolds (o := o) (oa := oa) hk0 hk1 h8) rfl rfl rfl rfl rfl hk0 (Nat.le_of_ble_eq_true rfl) rfl rfl rfl wm_RX6_92 md_X6_outsideHolds (Nat.le_of_ble_eq_true rfl) (Nat.le_of_ble_eq_true rfl) rfl rfl (Nat.le_of_ble_eq_true rfl) dX6_comb_38 ?_
          refine v_isub (pc := 41) dX6_comb_41 ?_
          refine v_istore (pc := 42) [(4, _), (0, _), (1, _), (2, _), (3, _), (5, _)] dX6_comb_42 (Nat.le_of_ble_eq_true rfl) rfl ?_
          refine v_aload_n (pc := 44) 1 dX6_comb_44 rfl ?_
          refine v_iload_n (pc := 45) 3 dX6_comb_45 rfl ?_
          replace hf := bd_some hf; obtain ⟨r9, h10, hf⟩ := hf
          refine V_call (pc := 46) (us1 := [_, _]) [0] 0 (kX6_putOutsideKnotIntoBag (o := o) hk0 h10) rfl rfl rfl rfl rfl hk0 (Nat.le_of_ble_eq_true rfl) rfl rfl rfl wm_RX6_102 md_X6_putOutsideKnotIntoBag (Nat.le_of_ble_eq_true rfl) (Nat.le_of_ble_eq_true rfl) rfl rfl (Nat.le_of_ble_eq_true rfl) dX6_comb_46 ?_
          refine v_iinc (pc := 49) 5 (l5 + (1 : Int32)) [(5, _), (4, _), (0, _), (1, _), (2, _), (3, _)] dX6_comb_49 rfl (congrArg (fun z => _ + z) ci_1) (Nat.le_of_ble_eq_true rfl) rfl ?_
          refine v_goto (pc := 52) 6 dX6_comb_52 (by decide) ?_
          exact V_sub [2, 3, 4, 5, 1, 0] rfl (hrec hf)
set_option maxRecDepth 20000 in
theorem kX6_comb {G : Wc} {o oa : Nat} {S : Ob} {Sa : Ob} {b : Int32} {c : Int32} {r : Ob} (hk0 : kd o = 6) (hk1 : kd oa = 4) (hf : pX6_comb S Sa  b c = some r) : Cn yX6_comb cX6_comb 6 (none) 4 128 G [.ref (wA G o 0), .ref (wA G oa 0), .int b, .int c] [(o, S), (oa, Sa)] [(o, r), (oa, Sa)] none := by
  refine V_method [(0, .ref (wA G o 0)), (1, .ref (wA G oa 0)), (2, .int b), (3, .int c)] (by decide) rfl (Nat.le_of_ble_eq_true rfl) rfl (fun Γ hF => ?_)
  unfold pX6_comb at hf
  refine v_iload_n (pc := 0) 3 dX6_comb_0 rfl ?_
  refine v_istore (pc := 1) [(4, _), (0, _), (1, _), (2, _), (3, _)] dX6_comb_1 (Nat.le_of_ble_eq_true rfl) rfl ?_
  refine v_iconst (pc := 3) (0 : Int32) dX6_comb_3 ci_0 ?_
  refine v_istore (pc := 4) [(5, _), (4, _), (0, _), (1, _), (2, _), (3, _)] dX6_comb_4 (Nat.le_of_ble_eq_true rfl) rfl ?_
  replace hf := bd_some hf; obtain ⟨r11, h12, hf⟩ := hf
  refine V_sub [2, 3, 4, 5, 1, 0] rfl (wX6_comb_l6 hk0 hk1 fu h12 ?_)
  refine v_aload_n (pc := 55) 0 dX6_comb_55 rfl ?_
  refine gf_RX6_18 (pc := 56) 0 rfl hk0 dX6_comb_56 ?_
  refine v_iload_n (pc := 59) 1 dX6_comb_59 rfl ?_
  refine v_dup2 (pc := 60) dX6_comb_60 rfl rfl ?_
  replace hf := gd_some hf; obtain ⟨g13, hf⟩ := hf
  refine al_X6_2 (pc := 61) _ 0 rfl hk0 rfl g13 dX6_comb_61 ?_
  refine v_iload_n (pc := 62) 2 dX6_comb_62 rfl ?_
  refine v_iadd (pc := 63) dX6_comb_63 ?_
  replace hf := gd_some hf; obtain ⟨g14, hf⟩ := hf
  refine as_X6_2 (pc := 64) [_, _] _ 0 rfl hk0 rfl g14 rfl dX6_comb_64 ?_
  refine v_aload_n (pc := 65) 0 dX6_comb_65 rfl ?_
  refine v_dup (pc := 66) dX6_comb_66 rfl ?_
  refine gf_RX6_40 (pc := 67) 0 rfl hk0 dX6_comb_67 ?_
  refine v_iconst (pc := 70) (1 : Int32) dX6_comb_70 ci_1 ?_
  refine v_iadd (pc := 71) dX6_comb_71 ?_
  refine pf_RX6_40 (pc := 72) [_, _] 0 rfl hk0 rfl dX6_comb_72 ?_
  have hf2 := Option.some.inj hf; subst hf2
  exact V_vret (pc := 75) hF dX6_comb_75
set_option maxRecDepth 20000 in
theorem kX0_liveStroke {G : Wc} {o oa ob : Nat} {S : Ob} {Sa : Ob} {Sb : Ob} {c : Int32} {d : Int32} {r : Int32 × Ob} (hk0 : kd o = 0) (hk1 : kd oa = 4) (hk2 : kd ob = 6) (hf : pX0_liveStroke S Sa Sb  c d = some r) : Cn yX0_liveStroke cX0_liveStroke 6 (some .int) 5 153 G [.ref (wA G o 0), .ref (wA G oa 0), .ref (wA G ob 0), .int c, .int d] [(o, S), (oa, Sa), (ob, Sb)] [(o, S), (oa, Sa), (ob, r.2)] (some (.int r.1)) := by
  refine V_method [(0, .ref (wA G o 0)), (1, .ref (wA G oa 0)), (2, .ref (wA G ob 0)), (3, .int c), (4, .int d)] (by decide) rfl (Nat.le_of_ble_eq_true rfl) rfl (fun Γ hF => ?_)
  unfold pX0_liveStroke at hf
  refine v_aload_n (pc := 0) 2 dX0_liveStroke_0 rfl ?_
  refine v_aload_n (pc := 1) 1 dX0_liveStroke_1 rfl ?_
  refine v_iload_n (pc := 2) 3 dX0_liveStroke_2 rfl ?_
  refine v_iload (pc := 3) 4 dX0_liveStroke_3 rfl ?_
  replace hf := bd_some hf; obtain ⟨r1, h2, hf⟩ := hf
  refine V_call (pc := 5) (us1 := [_, _, _]) [2, 1] 2 (kX6_whyNoStroke (o := ob) (oa := oa) hk2 hk1 h2) rfl rfl rfl rfl rfl hk2 (Nat.le_of_ble_eq_true rfl) rfl rfl rfl wm_RX0_164 md_X6_whyNoStroke (Nat.le_of_ble_eq_true rfl) (Nat.le_of_ble_eq_true rfl) rfl rfl (Nat.le_of_ble_eq_true rfl) dX0_liveStroke_5 ?_
  refine v_istore (pc := 8) [(5, _), (0, _), (1, _), (2, _), (3, _), (4, _)] dX0_liveStroke_8 (Nat.le_of_ble_eq_true rfl) rfl ?_
  refine v_iload (pc := 10) 0 dX0_liveStroke_10 rfl ?_
  refine v_if_ne (pc := 12) 23 dX0_liveStroke_12 (by decide) (fun c3 => ?_) (fun c3 => ?_)
  · replace hf := it_f c3 hf
    refine v_iload (pc := 23) 0 dX0_liveStroke_23 rfl ?_
    have hf2 := Option.some.inj hf; subst hf2
    exact V_iret (pc := 25) hF dX0_liveStroke_25
  · replace hf := it_t c3 hf
    refine v_aload_n (pc := 15) 3 dX0_liveStroke_15 rfl ?_
    refine v_aload_n (pc := 16) 2 dX0_liveStroke_16 rfl ?_
    refine v_iload_n (pc := 17) 4 dX0_liveStroke_17 rfl ?_
    refine v_iload (pc := 18) 5 dX0_liveStroke_18 rfl ?_
    replace hf := bd_some hf; obtain ⟨r4, h5, hf⟩ := hf
    refine V_call (pc := 20) (us1 := [_, _, _]) [2, 1] 2 (kX6_comb (o := ob) (oa := oa) hk2 hk1 h5) rfl rfl rfl rfl rfl hk2 (Nat.le_of_ble_eq_true rfl) rfl rfl rfl wm_RX0_168 md_X6_comb (Nat.le_of_ble_eq_true rfl) (Nat.le_of_ble_eq_true rfl) rfl rfl (Nat.le_of_ble_eq_true rfl) dX0_liveStroke_20 ?_
    refine v_iload (pc := 23) 0 dX0_liveStroke_23 rfl ?_
    have hf2 := Option.some.inj hf; subst hf2
    exact V_iret (pc := 25) hF dX0_liveStroke_25
set_option maxRecDepth 20000 in
theorem kX0_liveLine {G : Wc} {o oa ob : Nat} {S : Ob} {Sa : Ob} {Sb : Ob} {c : Int32} {r : Int32 × Ob} (hk0 : kd o = 0) (hk1 : kd oa = 4) (hk2 : kd ob = 6) (hf : pX0_liveLine S Sa Sb  c = some r) : Cn yX0_liveLine cX0_liveLine 6 (some .int) 6 178 G [.ref (wA G o 0), .ref (wA G oa 0), .ref (wA G ob 0), .int c] [(o, S), (oa, Sa), (ob, Sb)] [(o, S), (oa, Sa), (ob, r.2)] (some (.int r.1)) := by
  refine V_method [(0, .ref (wA G o 0)), (1, .ref (wA G oa 0)), (2, .ref (wA G ob 0)), (3, .int c)] (by decide) rfl (Nat.le_of_ble_eq_true rfl) rfl (fun Γ hF => ?_)
  unfold pX0_liveLine at hf
  refine v_aload_n (pc := 0) 0 dX0_liveLine_0 rfl ?_
  refine gf_RX0_17 (pc := 1) 0 rfl hk0 dX0_liveLine_1 ?_
  refine v_iload_n (pc := 4) 3 dX0_liveLine_4 rfl ?_
  replace hf := gd_some hf; obtain ⟨g1, hf⟩ := hf
  refine al_X0_1 (pc := 5) _ 0 rfl hk0 rfl g1 dX0_liveLine_5 ?_
  refine v_istore (pc := 6) [(4, _), (0, _), (1, _), (2, _), (3, _)] dX0_liveLine_6 (Nat.le_of_ble_eq_true rfl) rfl ?_
  refine v_aload_n (pc := 8) 1 dX0_liveLine_8 rfl ?_
  refine gf_RX0_21 (pc := 9) 0 rfl hk0 dX0_liveLine_9 ?_
  refine v_iload_n (pc := 12) 4 dX0_liveLine_12 rfl ?_
  replace hf := gd_some hf; obtain ⟨g2, hf⟩ := hf
  refine al_X0_2 (pc := 13) _ 0 rfl hk0 rfl g2 dX0_liveLine_13 ?_
  refine v_istore (pc := 14) [(5, _), (4, _), (0, _), (1, _), (2, _), (3, _)] dX0_liveLine_14 (Nat.le_of_ble_eq_true rfl) rfl ?_
  refine v_aload_n (pc := 16) 2 dX0_liveLine_16 rfl ?_
  refine gf_RX0_13 (pc := 17) 0 rfl hk0 dX0_liveLine_17 ?_
  refine v_iload_n (pc := 20) 5 dX0_liveLine_20 rfl ?_
  replace hf := gd_some hf; obtain ⟨g3, hf⟩ := hf
  refine al_X0_0 (pc := 21) _ 0 rfl hk0 rfl g3 dX0_liveLine_21 ?_
  refine V_gete (pc := 22) 6 "STROKE" (by decide) rfl wf_RX0_104 dX0_liveLine_22 ?_
  replace hf := gd_some hf; obtain ⟨g4, hf⟩ := hf
  refine v_acmp_ne (pc := 25) g4 rfl 39 dX0_liveLine_25 (by decide) (fun c5 => ?_) (fun c5 => ?_)
  · replace hf := it_f c5 hf
    refine v_aload_n (pc := 39) 2 dX0_liveLine_39 rfl ?_
    refine gf_RX0_13 (pc := 40) 0 rfl hk0 dX0_liveLine_40 ?_
    refine v_iload_n (pc := 43) 5 dX0_liveLine_43 rfl ?_
    replace hf := gd_some hf; obtain ⟨g6, hf⟩ := hf
    refine al_X0_0 (pc := 44) _ 0 rfl hk0 rfl g6 dX0_liveLine_44 ?_
    refine V_gete (pc := 45) 7 "CUT" (by decide) rfl wf_RX0_107 dX0_liveLine_45 ?_
    replace hf := gd_some hf; obtain ⟨g7, hf⟩ := hf
    refine v_acmp_ne (pc := 48) g7 rfl 59 dX0_liveLine_48 (by decide) (fun c8 => ?_) (fun c8 => ?_)
    · replace hf := it_f c8 hf
      refine v_aload_n (pc := 59) 2 dX0_liveLine_59 rfl ?_
      refine gf_RX0_13 (pc := 60) 0 rfl hk0 dX0_liveLine_60 ?_
      refine v_iload_n (pc := 63) 5 dX0_liveLine_63 rfl ?_
      replace hf := gd_some hf; obtain ⟨g9, hf⟩ := hf
      refine al_X0_0 (pc := 64) _ 0 rfl hk0 rfl g9 dX0_liveLine_64 ?_
      refine V_gete (pc := 65) 8 "CATCHES" (by decide) rfl wf_RX0_110 dX0_liveLine_65 ?_
      replace hf := gd_some hf; obtain ⟨g10, hf⟩ := hf
      refine v_acmp_ne (pc := 68) g10 rfl 81 dX0_liveLine_68 (by decide) (fun c11 => ?_) (fun c11 => ?_)
      · replace hf := it_f c11 hf
        refine v_aload_n (pc := 81) 2 dX0_liveLine_81 rfl ?_
        refine gf_RX0_13 (pc := 82) 0 rfl hk0 dX0_liveLine_82 ?_
        refine v_iload_n (pc := 85) 5 dX0_liveLine_85 rfl ?_
        replace hf := gd_some hf; obtain ⟨g12, hf⟩ := hf
        refine al_X0_0 (pc := 86) _ 0 rfl hk0 rfl g12 dX0_liveLine_86 ?_
        refine V_gete (pc := 87) 9 "STUFF" (by decide) rfl wf_RX0_49 dX0_liveLine_87 ?_
        replace hf := gd_some hf; obtain ⟨g13, hf⟩ := hf
        refine v_acmp_ne (pc := 90) g13 rfl 104 dX0_liveLine_90 (by decide) (fun c14 => ?_) (fun c14 => ?_)
        · replace hf := it_f c14 hf
          refine v_iload (pc := 104) 0 dX0_liveLine_104 rfl ?_
          refine v_aload_n (pc := 106) 4 dX0_liveLine_106 rfl ?_
          replace hf := bd_some hf; obtain ⟨r15, h16, hf⟩ := hf
          refine V_call (pc := 107) (us1 := [_, _, _]) [2] 2 (kX6_daysLeft (o := ob) hk2 h16) rfl rfl rfl rfl rfl hk2 (Nat.le_of_ble_eq_true rfl) rfl rfl rfl wm_RX0_156 md_X6_daysLeft (Nat.le_of_ble_eq_true rfl) (Nat.le_of_ble_eq_true rfl) rfl rfl (Nat.le_of_ble_eq_true rfl) dX0_liveLine_107 ?_
          refine v_icmp_le (pc := 110) 116 dX0_liveLine_110 (by decide) (fun c17 => ?_) (fun c17 => ?_)
          · replace hf := it_t c17 hf
            refine v_aload_n (pc := 116) 4 dX0_liveLine_116 rfl ?_
            refine v_aload_n (pc := 117) 3 dX0_liveLine_117 rfl ?_
            refine v_iload (pc := 118) 0 dX0_liveLine_118 rfl ?_
            replace hf := bd_some hf; obtain ⟨r18, h19, hf⟩ := hf
            refine V_call (pc := 120) (us1 := [_, _, _]) [2, 1] 2 (kX6_letDaysGo (o := ob) (oa := oa) hk2 hk1 h19) rfl rfl rfl rfl rfl hk2 (Nat.le_of_ble_eq_true rfl) rfl rfl rfl wm_RX0_160 md_X6_letDaysGo (Nat.le_of_ble_eq_true rfl) (Nat.le_of_ble_eq_true rfl) rfl rfl (Nat.le_of_ble_eq_true rfl) dX0_liveLine_120 ?_
            refine v_iconst (pc := 123) (0 : Int32) dX0_liveLine_123 ci_0 ?_
            have hf2 := Option.some.inj hf; subst hf2
            exact V_iret (pc := 124) hF dX0_liveLine_124
          · replace hf := it_f c17 hf
            refine v_bipush (pc := 113) (41 : Int32) dX0_liveLine_113 cb_41 ?_
            have hf2 := Option.some.inj hf; subst hf2
            exact V_iret (pc := 115) hF dX0_liveLine_115
        · replace hf := it_t c14 hf
          refine v_aload_n (pc := 93) 2 dX0_liveLine_93 rfl ?_
          refine v_aload_n (pc := 94) 3 dX0_liveLine_94 rfl ?_
          refine v_aload_n (pc := 95) 4 dX0_liveLine_95 rfl ?_
          refine v_iload (pc := 96) 1 dX0_liveLine_96 rfl ?_
          refine v_iload (pc := 98) 0 dX0_liveLine_98 rfl ?_
          replace hf := bd_some hf; obtain ⟨r20, h21, hf⟩ := hf
          refine V_call (pc := 100) (us1 := [_, _, _]) [0, 1, 2] 0 (kX0_liveStuffing (o := o) (oa := oa) (ob := ob) hk0 hk1 hk2 h21) rfl rfl rfl rfl rfl hk0 (Nat.le_of_ble_eq_true rfl) rfl rfl rfl wm_RX0_153 md_X0_liveStuffing (Nat.le_of_ble_eq_true rfl) (Nat.le_of_ble_eq_true rfl) rfl rfl (Nat.le_of_ble_eq_true rfl) dX0_liveLine_100 ?_
          have hf2 := Option.some.inj hf; subst hf2
          exact V_iret (pc := 103) hF dX0_liveLine_103
      · replace hf := it_t c11 hf
        refine v_aload_n (pc := 71) 2 dX0_liveLine_71 rfl ?_
        refine v_aload_n (pc := 72) 4 dX0_liveLine_72 rfl ?_
        refine v_iload (pc := 73) 1 dX0_liveLine_73 rfl ?_
        refine v_iload (pc := 75) 0 dX0_liveLine_75 rfl ?_
        replace hf := bd_some hf; obtain ⟨r22, h23, hf⟩ := hf
        refine V_call (pc := 77) (us1 := [_, _, _]) [0, 2] 0 (kX0_liveCatch (o := o) (oa := ob) hk0 hk2 h23) rfl rfl rfl rfl rfl hk0 (Nat.le_of_ble_eq_true rfl) rfl rfl rfl wm_RX0_149 md_X0_liveCatch (Nat.le_of_ble_eq_true rfl) (Nat.le_of_ble_eq_true rfl) rfl rfl (Nat.le_of_ble_eq_true rfl) dX0_liveLine_77 ?_
        have hf2 := Option.some.inj hf; subst hf2
        exact V_iret (pc := 80) hF dX0_liveLine_80
    · replace hf := it_t c8 hf
      refine v_aload_n (pc := 51) 2 dX0_liveLine_51 rfl ?_
      refine v_aload_n (pc := 52) 4 dX0_liveLine_52 rfl ?_
      refine v_iload (pc := 53) 1 dX0_liveLine_53 rfl ?_
      replace hf := bd_some hf; obtain ⟨r24, h25, hf⟩ := hf
      refine V_call (pc := 55) (us1 := [_, _, _]) [0, 2] 0 (kX0_liveCut (o := o) (oa := ob) hk0 hk2 h25) rfl rfl rfl rfl rfl hk0 (Nat.le_of_ble_eq_true rfl) rfl rfl rfl wm_RX0_145 md_X0_liveCut (Nat.le_of_ble_eq_true rfl) (Nat.le_of_ble_eq_true rfl) rfl rfl (Nat.le_of_ble_eq_true rfl) dX0_liveLine_55 ?_
      have hf2 := Option.some.inj hf; subst hf2
      exact V_iret (pc := 58) hF dX0_liveLine_58
  · replace hf := it_t c5 hf
    refine v_aload_n (pc := 28) 2 dX0_liveLine_28 rfl ?_
    refine v_aload_n (pc := 29) 3 dX0_liveLine_29 rfl ?_
    refine v_aload_n (pc := 30) 4 dX0_liveLine_30 rfl ?_
    refine v_iload (pc := 31) 1 dX0_liveLine_31 rfl ?_
    refine v_iload (pc := 33) 0 dX0_liveLine_33 rfl ?_
    replace hf := bd_some hf; obtain ⟨r26, h27, hf⟩ := hf
    refine V_call (pc := 35) (us1 := [_, _, _]) [0, 1, 2] 0 (kX0_liveStroke (o := o) (oa := oa) (ob := ob) hk0 hk1 hk2 h27) rfl rfl rfl rfl rfl hk0 (Nat.le_of_ble_eq_true rfl) rfl rfl rfl wm_RX0_141 md_X0_liveStroke (Nat.le_of_ble_eq_true rfl) (Nat.le_of_ble_eq_true rfl) rfl rfl (Nat.le_of_ble_eq_true rfl) dX0_liveLine_35 ?_
    have hf2 := Option.some.inj hf; subst hf2
    exact V_iret (pc := 38) hF dX0_liveLine_38
set_option maxRecDepth 20000 in
theorem wX0_live_l12 {G : Wc} {Γ : Cx} {o oa ob : Nat} {Sa : Ob} (hk0 : kd o = 0) (hk1 : kd oa = 4) (hk2 : kd ob = 6) : ∀ (n : Nat) {l3 : Int32} {S : Ob} {Sb : Ob} {r : Ob × Ob}, pX0_live_l12  Sa n l3 S Sb = some r → V cX0_live RX0 7 203 4 G Γ [(o, r.1), (oa, Sa), (ob, r.2)] 61 [(0, .ref (wA G o 0)), (2, .ref (wA G ob 0))] [] → V cX0_live RX0 7 203 4 G Γ [(o, S), (oa, Sa), (ob, Sb)] 12 [(0, .ref (wA G o 0)), (1, .ref (wA G oa 0)), (2, .ref (wA G ob 0)), (3, .int l3)] [] := by
  intro n
  induction n with
  | zero => intro l3 S Sb r hf hx; unfold pX0_live_l12 at hf; cases hf
  | succ n ih =>
    intro l3 S Sb r hf hx
    have hrec : ∀ {l3 : Int32} {S : Ob} {Sb : Ob}, pX0_live_l12  Sa n l3 S Sb = some r → V cX0_live RX0 7 203 4 G Γ [(o, S), (oa, Sa), (ob, Sb)] 12 [(0, .ref (wA G o 0)), (1, .ref (wA G oa 0)), (2, .ref (wA G ob 0)), (3, .int l3)] [] := fun h => ih h hx
    clear ih
    unfold pX0_live_l12 at hf
    refine v_iload_n (pc := 12) 3 dX0_live_12 rfl ?_
    refine v_aload_n (pc := 13) 0 dX0_live_13 rfl ?_
    refine gf_RX0_24 (pc := 14) 0 rfl hk0 dX0_live_14 ?_
    refine v_icmp_ge (pc := 17) 61 dX0_live_17 (by decide) (fun c1 => ?_) (fun c1 => ?_)
    · replace hf := it_t c1 hf
      have hf2 := Option.some.inj hf; subst hf2
      exact V_sub [0, 2] rfl hx
    · replace hf := it_f c1 hf
      refine v_aload_n (pc := 20) 0 dX0_live_20 rfl ?_
      refine gf_RX0_113 (pc := 21) 0 rfl hk0 dX0_live_21 ?_
      refine v_if_ne (pc := 24) 61 dX0_live_24 (by decide) (fun c2 => ?_) (fun c2 => ?_)
      · replace hf := it_f c2 hf
        have hf2 := Option.some.inj hf; subst hf2
        exact V_sub [0, 2] rfl hx
      · replace hf := it_t c2 hf
        refine v_aload_n (pc := 27) 0 dX0_live_27 rfl ?_
        refine v_aload_n (pc := 28) 0 dX0_live_28 rfl ?_
        refine v_aload_n (pc := 29) 1 dX0_live_29 rfl ?_
        refine v_aload_n (pc := 30) 2 dX0_live_30 rfl ?_
        refine v_iload_n (pc := 31) 3 dX0_live_31 rfl ?_
        replace hf := bd_some hf; obtain ⟨r3, h4, hf⟩ := hf
        refine V_call (pc := 32) (us1 := [_, _, _]) [0, 1, 2] 0 (kX0_liveLine (o := o) (oa := oa) (ob := ob) hk0 hk1 hk2 h4) rfl rfl rfl rfl rfl hk0 (Nat.le_of_ble_eq_true rfl) rfl rfl rfl wm_RX0_119 md_X0_liveLine (Nat.le_of_ble_eq_true rfl) (Nat.le_of_ble_eq_true rfl) rfl rfl (Nat.le_of_ble_eq_true rfl) dX0_live_32 ?_
        refine pf_RX0_113 (pc := 35) [_, _, _] 0 rfl hk0 rfl dX0_live_35 ?_
        refine v_aload_n (pc := 38) 0 dX0_live_38 rfl ?_
        refine gf_RX0_113 (pc := 39) 0 rfl hk0 dX0_live_39 ?_
        refine v_if_ne (pc := 42) 55 dX0_live_42 (by decide) (fun c5 => ?_) (fun c5 => ?_)
        · replace hf := it_f c5 hf
          refine v_iinc (pc := 55) 3 (l3 + (1 : Int32)) [(3, _), (0, _), (1, _), (2, _)] dX0_live_55 rfl (congrArg (fun z => _ + z) ci_1) (Nat.le_of_ble_eq_true rfl) rfl ?_
          refine v_goto (pc := 58) 12 dX0_live_58 (by decide) ?_
          exact V_sub [1, 2, 3, 0] rfl (hrec hf)
        · replace hf := it_t c5 hf
          refine v_aload_n (pc := 45) 0 dX0_live_45 rfl ?_
          refine v_dup (pc := 46) dX0_live_46 rfl ?_
          refine gf_RX0_116 (pc := 47) 0 rfl hk0 dX0_live_47 ?_
          refine v_iconst (pc := 50) (1 : Int32) dX0_live_50 ci_1 ?_
          refine v_iadd (pc := 51) dX0_live_51 ?_
          refine pf_RX0_116 (pc := 52) [_, _, _] 0 rfl hk0 rfl dX0_live_52 ?_
          refine v_iinc (pc := 55) 3 (l3 + (1 : Int32)) [(3, _), (0, _), (1, _), (2, _)] dX0_live_55 rfl (congrArg (fun z => _ + z) ci_1) (Nat.le_of_ble_eq_true rfl) rfl ?_
          refine v_goto (pc := 58) 12 dX0_live_58 (by decide) ?_
          exact V_sub [1, 2, 3, 0] rfl (hrec hf)
set_option maxRecDepth 20000 in
theorem kX0_live {G : Wc} {o oa ob : Nat} {S : Ob} {Sa : Ob} {Sb : Ob}  {r : Ob × Ob} (hk0 : kd o = 0) (hk1 : kd oa = 4) (hk2 : kd ob = 6) (hf : pX0_live S Sa Sb   = some r) : Cn yX0_live cX0_live 4 (none) 7 203 G [.ref (wA G o 0), .ref (wA G oa 0), .ref (wA G ob 0)] [(o, S), (oa, Sa), (ob, Sb)] [(o, r.1), (oa, Sa), (ob, r.2)] none := by
  refine V_method [(0, .ref (wA G o 0)), (1, .ref (wA G oa 0)), (2, .ref (wA G ob 0))] (by decide) rfl (Nat.le_of_ble_eq_true rfl) rfl (fun Γ hF => ?_)
  unfold pX0_live at hf
  refine v_aload_n (pc := 0) 0 dX0_live_0 rfl ?_
  refine v_iconst (pc := 1) (0 : Int32) dX0_live_1 ci_0 ?_
  refine pf_RX0_113 (pc := 2) [_, _, _] 0 rfl hk0 rfl dX0_live_2 ?_
  refine v_aload_n (pc := 5) 0 dX0_live_5 rfl ?_
  refine v_iconst (pc := 6) (0 : Int32) dX0_live_6 ci_0 ?_
  refine pf_RX0_116 (pc := 7) [_, _, _] 0 rfl hk0 rfl dX0_live_7 ?_
  refine v_iconst (pc := 10) (0 : Int32) dX0_live_10 ci_0 ?_
  refine v_istore_n (pc := 11) [(3, _), (0, _), (1, _), (2, _)] dX0_live_11 (Nat.le_of_ble_eq_true rfl) rfl ?_
  replace hf := bd_some hf; obtain ⟨r6, h7, hf⟩ := hf
  refine V_sub [1, 2, 3, 0] rfl (wX0_live_l12 hk0 hk1 hk2 fu h7 ?_)
  refine v_aload_n (pc := 61) 0 dX0_live_61 rfl ?_
  refine v_aload_n (pc := 62) 1 dX0_live_62 rfl ?_
  refine gf_RX0_123 (pc := 63) 2 rfl hk2 dX0_live_63 ?_
  refine pf_RX0_128 (pc := 66) [_, _, _] 0 rfl hk0 rfl dX0_live_66 ?_
  refine v_aload_n (pc := 69) 0 dX0_live_69 rfl ?_
  refine v_aload_n (pc := 70) 1 dX0_live_70 rfl ?_
  refine gf_RX0_131 (pc := 71) 2 rfl hk2 dX0_live_71 ?_
  refine pf_RX0_134 (pc := 74) [_, _, _] 0 rfl hk0 rfl dX0_live_74 ?_
  refine v_aload_n (pc := 77) 0 dX0_live_77 rfl ?_
  refine v_iconst (pc := 78) (1 : Int32) dX0_live_78 ci_1 ?_
  refine pf_RX0_137 (pc := 79) [_, _, _] 0 rfl hk0 rfl rfl dX0_live_79 ?_
  have hf2 := Option.some.inj hf; subst hf2
  exact V_vret (pc := 82) hF dX0_live_82
