set_option maxRecDepth 20000 in
theorem wX6_clear_l2 {G : Wc} {Γ : Cx} {o : Nat}  (hk0 : kd o = 6) : ∀ (n : Nat) {l1 : Int32} {S : Ob} {r : Ob}, pX6_clear_l2   n l1 S = some r → V cX6_clear RX6 1 60 2 G Γ [(o, r)] 28 [(0, .ref (wA G o 0))] [] → V cX6_clear RX6 1 60 2 G Γ [(o, S)] 2 [(0, .ref (wA G o 0)), (1, .int l1)] [] := by
  intro n
  induction n with
  | zero => intro l1 S r hf hx; unfold pX6_clear_l2 at hf; cases hf
  | succ n ih =>
    intro l1 S r hf hx
    have hrec : ∀ {l1 : Int32} {S : Ob}, pX6_clear_l2   n l1 S = some r → V cX6_clear RX6 1 60 2 G Γ [(o, S)] 2 [(0, .ref (wA G o 0)), (1, .int l1)] [] := fun h => ih h hx
    clear ih
    unfold pX6_clear_l2 at hf
    refine v_iload_n (pc := 2) 1 dX6_clear_2 rfl ?_
    refine v_bipush (pc := 3) (6 : Int32) dX6_clear_3 cb_6 ?_
    refine v_icmp_ge (pc := 5) 28 dX6_clear_5 (by decide) (fun c1 => ?_) (fun c1 => ?_)
    · replace hf := it_t c1 hf
      have hf2 := Option.some.inj hf; subst hf2
      exact V_sub [0] rfl hx
    · replace hf := it_f c1 hf
      refine v_aload_n (pc := 8) 0 dX6_clear_8 rfl ?_
      refine gf_RX6_15 (pc := 9) 0 rfl hk0 dX6_clear_9 ?_
      refine v_iload_n (pc := 12) 1 dX6_clear_12 rfl ?_
      refine v_iconst (pc := 13) (0 : Int32) dX6_clear_13 ci_0 ?_
      replace hf := gd_some hf; obtain ⟨g2, hf⟩ := hf
      refine as_X6_1 (pc := 14) [_] _ 0 rfl hk0 rfl g2 rfl dX6_clear_14 ?_
      refine v_aload_n (pc := 15) 0 dX6_clear_15 rfl ?_
      refine gf_RX6_18 (pc := 16) 0 rfl hk0 dX6_clear_16 ?_
      refine v_iload_n (pc := 19) 1 dX6_clear_19 rfl ?_
      refine v_iconst (pc := 20) (0 : Int32) dX6_clear_20 ci_0 ?_
      replace hf := gd_some hf; obtain ⟨g3, hf⟩ := hf
      refine as_X6_2 (pc := 21) [_] _ 0 rfl hk0 rfl g3 rfl dX6_clear_21 ?_
      refine v_iinc (pc := 22) 1 (l1 + (1 : Int32)) [(1, _), (0, _)] dX6_clear_22 rfl (congrArg (fun z => _ + z) ci_1) (Nat.le_of_ble_eq_true rfl) rfl ?_
      refine v_goto (pc := 25) 2 dX6_clear_25 (by decide) ?_
      exact V_sub [1, 0] rfl (hrec hf)
set_option maxRecDepth 20000 in
theorem wX6_clear_l30 {G : Wc} {Γ : Cx} {o : Nat}  (hk0 : kd o = 6) : ∀ (n : Nat) {l1 : Int32} {S : Ob} {r : Ob}, pX6_clear_l30   n l1 S = some r → V cX6_clear RX6 1 60 2 G Γ [(o, r)] 56 [(0, .ref (wA G o 0))] [] → V cX6_clear RX6 1 60 2 G Γ [(o, S)] 30 [(0, .ref (wA G o 0)), (1, .int l1)] [] := by
  intro n
  induction n with
  | zero => intro l1 S r hf hx; unfold pX6_clear_l30 at hf; cases hf
  | succ n ih =>
    intro l1 S r hf hx
    have hrec : ∀ {l1 : Int32} {S : Ob}, pX6_clear_l30   n l1 S = some r → V cX6_clear RX6 1 60 2 G Γ [(o, S)] 30 [(0, .ref (wA G o 0)), (1, .int l1)] [] := fun h => ih h hx
    clear ih
    unfold pX6_clear_l30 at hf
    refine v_iload_n (pc := 30) 1 dX6_clear_30 rfl ?_
    refine v_bipush (pc := 31) (8 : Int32) dX6_clear_31 cb_8 ?_
    refine v_icmp_ge (pc := 33) 56 dX6_clear_33 (by decide) (fun c6 => ?_) (fun c6 => ?_)
    · replace hf := it_t c6 hf
      have hf2 := Option.some.inj hf; subst hf2
      exact V_sub [0] rfl hx
    · replace hf := it_f c6 hf
      refine v_aload_n (pc := 36) 0 dX6_clear_36 rfl ?_
      refine gf_RX6_21 (pc := 37) 0 rfl hk0 dX6_clear_37 ?_
      refine v_iload_n (pc := 40) 1 dX6_clear_40 rfl ?_
      refine v_iconst (pc := 41) (0 : Int32) dX6_clear_41 ci_0 ?_
      replace hf := gd_some hf; obtain ⟨g7, hf⟩ := hf
      refine as_X6_3 (pc := 42) [_] _ 0 rfl hk0 rfl g7 rfl dX6_clear_42 ?_
      refine v_aload_n (pc := 43) 0 dX6_clear_43 rfl ?_
      refine gf_RX6_24 (pc := 44) 0 rfl hk0 dX6_clear_44 ?_
      refine v_iload_n (pc := 47) 1 dX6_clear_47 rfl ?_
      refine v_iconst (pc := 48) (0 : Int32) dX6_clear_48 ci_0 ?_
      replace hf := gd_some hf; obtain ⟨g8, hf⟩ := hf
      refine as_X6_4 (pc := 49) [_] _ 0 rfl hk0 rfl g8 rfl dX6_clear_49 ?_
      refine v_iinc (pc := 50) 1 (l1 + (1 : Int32)) [(1, _), (0, _)] dX6_clear_50 rfl (congrArg (fun z => _ + z) ci_1) (Nat.le_of_ble_eq_true rfl) rfl ?_
      refine v_goto (pc := 53) 30 dX6_clear_53 (by decide) ?_
      exact V_sub [1, 0] rfl (hrec hf)
set_option maxRecDepth 20000 in
theorem wX6_clear_l58 {G : Wc} {Γ : Cx} {o : Nat}  (hk0 : kd o = 6) : ∀ (n : Nat) {l1 : Int32} {S : Ob} {r : Ob}, pX6_clear_l58   n l1 S = some r → V cX6_clear RX6 1 60 2 G Γ [(o, r)] 83 [(0, .ref (wA G o 0))] [] → V cX6_clear RX6 1 60 2 G Γ [(o, S)] 58 [(0, .ref (wA G o 0)), (1, .int l1)] [] := by
  intro n
  induction n with
  | zero => intro l1 S r hf hx; unfold pX6_clear_l58 at hf; cases hf
  | succ n ih =>
    intro l1 S r hf hx
    have hrec : ∀ {l1 : Int32} {S : Ob}, pX6_clear_l58   n l1 S = some r → V cX6_clear RX6 1 60 2 G Γ [(o, S)] 58 [(0, .ref (wA G o 0)), (1, .int l1)] [] := fun h => ih h hx
    clear ih
    unfold pX6_clear_l58 at hf
    refine v_iload_n (pc := 58) 1 dX6_clear_58 rfl ?_
    refine v_iconst (pc := 59) (4 : Int32) dX6_clear_59 ci_4 ?_
    refine v_icmp_ge (pc := 60) 83 dX6_clear_60 (by decide) (fun c11 => ?_) (fun c11 => ?_)
    · replace hf := it_t c11 hf
      have hf2 := Option.some.inj hf; subst hf2
      exact V_sub [0] rfl hx
    · replace hf := it_f c11 hf
      refine v_aload_n (pc := 63) 0 dX6_clear_63 rfl ?_
      refine gf_RX6_27 (pc := 64) 0 rfl hk0 dX6_clear_64 ?_
      refine v_iload_n (pc := 67) 1 dX6_clear_67 rfl ?_
      refine v_iconst (pc := 68) (0 : Int32) dX6_clear_68 ci_0 ?_
      replace hf := gd_some hf; obtain ⟨g12, hf⟩ := hf
      refine as_X6_5 (pc := 69) [_] _ 0 rfl hk0 rfl g12 rfl dX6_clear_69 ?_
      refine v_aload_n (pc := 70) 0 dX6_clear_70 rfl ?_
      refine gf_RX6_30 (pc := 71) 0 rfl hk0 dX6_clear_71 ?_
      refine v_iload_n (pc := 74) 1 dX6_clear_74 rfl ?_
      refine v_iconst (pc := 75) (0 : Int32) dX6_clear_75 ci_0 ?_
      replace hf := gd_some hf; obtain ⟨g13, hf⟩ := hf
      refine as_X6_6 (pc := 76) [_] _ 0 rfl hk0 rfl g13 rfl dX6_clear_76 ?_
      refine v_iinc (pc := 77) 1 (l1 + (1 : Int32)) [(1, _), (0, _)] dX6_clear_77 rfl (congrArg (fun z => _ + z) ci_1) (Nat.le_of_ble_eq_true rfl) rfl ?_
      refine v_goto (pc := 80) 58 dX6_clear_80 (by decide) ?_
      exact V_sub [1, 0] rfl (hrec hf)
set_option maxRecDepth 20000 in
theorem kX6_clear {G : Wc} {o : Nat} {S : Ob}  {r : Ob} (hk0 : kd o = 6) (hf : pX6_clear S   = some r) : Cn yX6_clear cX6_clear 2 (none) 1 60 G [.ref (wA G o 0)] [(o, S)] [(o, r)] none := by
  refine V_method [(0, .ref (wA G o 0))] (by decide) rfl (Nat.le_of_ble_eq_true rfl) rfl (fun Γ hF => ?_)
  unfold pX6_clear at hf
  refine v_iconst (pc := 0) (0 : Int32) dX6_clear_0 ci_0 ?_
  refine v_istore_n (pc := 1) [(1, _), (0, _)] dX6_clear_1 (Nat.le_of_ble_eq_true rfl) rfl ?_
  replace hf := bd_some hf; obtain ⟨r4, h5, hf⟩ := hf
  refine V_sub [1, 0] rfl (wX6_clear_l2 hk0 fu h5 ?_)
  refine v_iconst (pc := 28) (0 : Int32) dX6_clear_28 ci_0 ?_
  refine v_istore_n (pc := 29) [(1, _), (0, _)] dX6_clear_29 (Nat.le_of_ble_eq_true rfl) rfl ?_
  replace hf := bd_some hf; obtain ⟨r9, h10, hf⟩ := hf
  refine V_sub [1, 0] rfl (wX6_clear_l30 hk0 fu h10 ?_)
  refine v_iconst (pc := 56) (0 : Int32) dX6_clear_56 ci_0 ?_
  refine v_istore_n (pc := 57) [(1, _), (0, _)] dX6_clear_57 (Nat.le_of_ble_eq_true rfl) rfl ?_
  replace hf := bd_some hf; obtain ⟨r14, h15, hf⟩ := hf
  refine V_sub [1, 0] rfl (wX6_clear_l58 hk0 fu h15 ?_)
  refine v_aload_n (pc := 83) 0 dX6_clear_83 rfl ?_
  refine v_iconst (pc := 84) (0 : Int32) dX6_clear_84 ci_0 ?_
  refine pf_RX6_33 (pc := 85) [_] 0 rfl hk0 rfl dX6_clear_85 ?_
  refine v_aload_n (pc := 88) 0 dX6_clear_88 rfl ?_
  refine v_iconst (pc := 89) (0 : Int32) dX6_clear_89 ci_0 ?_
  refine pf_RX6_37 (pc := 90) [_] 0 rfl hk0 rfl dX6_clear_90 ?_
  refine v_aload_n (pc := 93) 0 dX6_clear_93 rfl ?_
  refine v_iconst (pc := 94) (0 : Int32) dX6_clear_94 ci_0 ?_
  refine pf_RX6_40 (pc := 95) [_] 0 rfl hk0 rfl dX6_clear_95 ?_
  refine v_aload_n (pc := 98) 0 dX6_clear_98 rfl ?_
  refine v_iconst (pc := 99) (0 : Int32) dX6_clear_99 ci_0 ?_
  refine pf_RX6_43 (pc := 100) [_] 0 rfl hk0 rfl dX6_clear_100 ?_
  refine v_aload_n (pc := 103) 0 dX6_clear_103 rfl ?_
  refine v_iconst (pc := 104) (0 : Int32) dX6_clear_104 ci_0 ?_
  refine pf_RX6_46 (pc := 105) [_] 0 rfl hk0 rfl dX6_clear_105 ?_
  have hf2 := Option.some.inj hf; subst hf2
  exact V_vret (pc := 108) hF dX6_clear_108
set_option maxRecDepth 20000 in
theorem kX4_readComb {G : Wc} {o oa : Nat} {S : Ob} {Sa : Ob}  {r : Int32 × Ob × Ob} (hk0 : kd o = 4) (hk1 : kd oa = 8) (hf : pX4_readComb S Sa   = some r) : Cn yX4_readComb cX4_readComb 3 (some .boolean) 4 128 G [.ref (wA G o 0), .ref (wA G oa 0)] [(o, S), (oa, Sa)] [(o, r.2.1), (oa, r.2.2)] (some (.int r.1)) := by
  refine V_method [(0, .ref (wA G o 0)), (1, .ref (wA G oa 0))] (by decide) rfl (Nat.le_of_ble_eq_true rfl) rfl (fun Γ hF => ?_)
  unfold pX4_readComb at hf
  refine v_aload_n (pc := 0) 0 dX4_readComb_0 rfl ?_
  refine gf_RX4_65 (pc := 1) 0 rfl hk0 dX4_readComb_1 ?_
  refine v_if_eq (pc := 4) 13 dX4_readComb_4 (by decide) (fun c1 => ?_) (fun c1 => ?_)
  · replace hf := it_t c1 hf
    refine v_aload_n (pc := 13) 1 dX4_readComb_13 rfl ?_
    replace hf := bd_some hf; obtain ⟨r2, h3, hf⟩ := hf
    refine V_call (pc := 14) (us1 := [_, _]) [1] 1 (kX8_advance (o := oa) hk1 h3) rfl rfl rfl rfl rfl hk1 (Nat.le_of_ble_eq_true rfl) rfl rfl rfl wm_RX4_137 md_X8_advance (Nat.le_of_ble_eq_true rfl) (Nat.le_of_ble_eq_true rfl) rfl rfl (Nat.le_of_ble_eq_true rfl) dX4_readComb_14 ?_
    refine v_aload_n (pc := 17) 1 dX4_readComb_17 rfl ?_
    refine v_iconst (pc := 18) (1 : Int32) dX4_readComb_18 ci_1 ?_
    refine v_bipush (pc := 19) (20 : Int32) dX4_readComb_19 cb_20 ?_
    replace hf := bd_some hf; obtain ⟨r4, h5, hf⟩ := hf
    refine V_call (pc := 21) (us1 := [_, _]) [1] 1 (kX8_takeNumber (o := oa) hk1 h5) rfl rfl rfl rfl rfl hk1 (Nat.le_of_ble_eq_true rfl) rfl rfl rfl wm_RX4_147 md_X8_takeNumber (Nat.le_of_ble_eq_true rfl) (Nat.le_of_ble_eq_true rfl) rfl rfl (Nat.le_of_ble_eq_true rfl) dX4_readComb_21 ?_
    refine v_istore_n (pc := 24) [(2, _), (0, _), (1, _)] dX4_readComb_24 (Nat.le_of_ble_eq_true rfl) rfl ?_
    refine v_iload_n (pc := 25) 0 dX4_readComb_25 rfl ?_
    refine v_iconst (pc := 26) (-1 : Int32) dX4_readComb_26 ci_m1 ?_
    refine v_icmp_ne (pc := 27) 32 dX4_readComb_27 (by decide) (fun c6 => ?_) (fun c6 => ?_)
    · replace hf := it_f c6 hf
      refine v_aload_n (pc := 32) 1 dX4_readComb_32 rfl ?_
      refine v_iload_n (pc := 33) 0 dX4_readComb_33 rfl ?_
      refine pf_RX4_43 (pc := 34) [_, _] 0 rfl hk0 rfl dX4_readComb_34 ?_
      refine v_aload_n (pc := 37) 1 dX4_readComb_37 rfl ?_
      refine v_iconst (pc := 38) (1 : Int32) dX4_readComb_38 ci_1 ?_
      refine pf_RX4_65 (pc := 39) [_, _] 0 rfl hk0 rfl rfl dX4_readComb_39 ?_
      refine v_iconst (pc := 42) (1 : Int32) dX4_readComb_42 ci_1 ?_
      have hf2 := Option.some.inj hf; subst hf2
      exact V_zret (pc := 43) hF rfl dX4_readComb_43
    · replace hf := it_t c6 hf
      refine v_iconst (pc := 30) (0 : Int32) dX4_readComb_30 ci_0 ?_
      have hf2 := Option.some.inj hf; subst hf2
      exact V_zret (pc := 31) hF rfl dX4_readComb_31
  · replace hf := it_f c1 hf
    refine v_aload_n (pc := 7) 1 dX4_readComb_7 rfl ?_
    refine v_iconst (pc := 8) (3 : Int32) dX4_readComb_8 ci_3 ?_
    replace hf := bd_some hf; obtain ⟨r7, h8, hf⟩ := hf
    refine V_call (pc := 9) (us1 := [_, _]) [1] 1 (kX8_refuse (o := oa) hk1 h8) rfl rfl rfl rfl rfl hk1 (Nat.le_of_ble_eq_true rfl) rfl rfl rfl wm_RX4_134 md_X8_refuse (Nat.le_of_ble_eq_true rfl) (Nat.le_of_ble_eq_true rfl) rfl rfl (Nat.le_of_ble_eq_true rfl) dX4_readComb_9 ?_
    replace hf := gd_some hf; obtain ⟨g9, hf⟩ := hf
    have hf2 := Option.some.inj hf; subst hf2
    exact V_zret (pc := 12) hF g9 dX4_readComb_12
set_option maxRecDepth 20000 in
theorem wX4_isNewName_j61 {G : Wc} {Γ : Cx} {o oa : Nat} {S : Ob} {Sa : Ob} {r : Int32 × Ob} (hk0 : kd o = 4) (hk1 : kd oa = 8) (hF : Fnl G Γ (some .boolean) (some (.int r.1)) (ov Γ.2.2.2 [(o, S), (oa, r.2)])) (hf : pX4_isNewName_j61 S Sa = some r) : V cX4_isNewName RX4 2 83 2 G Γ [(o, S), (oa, Sa)] 61 [(1, .ref (wA G oa 0))] [] := by
  unfold pX4_isNewName_j61 at hf
  refine v_aload_n (pc := 61) 0 dX4_isNewName_61 rfl ?_
  refine v_iconst (pc := 62) (3 : Int32) dX4_isNewName_62 ci_3 ?_
  replace hf := bd_some hf; obtain ⟨r7, h8, hf⟩ := hf
  refine V_call (pc := 63) (us1 := [_, _]) [1] 1 (kX8_refuse (o := oa) hk1 h8) rfl rfl rfl rfl rfl hk1 (Nat.le_of_ble_eq_true rfl) rfl rfl rfl wm_RX4_134 md_X8_refuse (Nat.le_of_ble_eq_true rfl) (Nat.le_of_ble_eq_true rfl) rfl rfl (Nat.le_of_ble_eq_true rfl) dX4_isNewName_63 ?_
  replace hf := gd_some hf; obtain ⟨g9, hf⟩ := hf
  have hf2 := Option.some.inj hf; subst hf2
  exact V_zret (pc := 66) hF g9 dX4_isNewName_66
set_option maxRecDepth 20000 in
theorem kX4_isNewName {G : Wc} {o oa : Nat} {S : Ob} {Sa : Ob}  {r : Int32 × Ob} (hk0 : kd o = 4) (hk1 : kd oa = 8) (hf : pX4_isNewName S Sa   = some r) : Cn yX4_isNewName cX4_isNewName 2 (some .boolean) 2 83 G [.ref (wA G o 0), .ref (wA G oa 0)] [(o, S), (oa, Sa)] [(o, S), (oa, r.2)] (some (.int r.1)) := by
  refine V_method [(0, .ref (wA G o 0)), (1, .ref (wA G oa 0))] (by decide) rfl (Nat.le_of_ble_eq_true rfl) rfl (fun Γ hF => ?_)
  unfold pX4_isNewName at hf
  refine v_aload_n (pc := 0) 1 dX4_isNewName_0 rfl ?_
  replace hf := bd_some hf; obtain ⟨r1, h2, hf⟩ := hf
  refine V_call (pc := 1) (us1 := [_, _]) [1] 1 (kX8_isName (o := oa) hk1 h2) rfl rfl rfl rfl rfl hk1 (Nat.le_of_ble_eq_true rfl) rfl rfl rfl wm_RX4_165 md_X8_isName (Nat.le_of_ble_eq_true rfl) (Nat.le_of_ble_eq_true rfl) rfl rfl (Nat.le_of_ble_eq_true rfl) dX4_isNewName_1 ?_
  refine v_if_ne (pc := 4) 13 dX4_isNewName_4 (by decide) (fun c3 => ?_) (fun c3 => ?_)
  · replace hf := it_f c3 hf
    refine v_aload_n (pc := 13) 1 dX4_isNewName_13 rfl ?_
    refine v_aload_n (pc := 14) 0 dX4_isNewName_14 rfl ?_
    refine gf_RX4_9 (pc := 15) 0 rfl hk0 dX4_isNewName_15 ?_
    refine v_aload_n (pc := 18) 0 dX4_isNewName_18 rfl ?_
    refine gf_RX4_47 (pc := 19) 0 rfl hk0 dX4_isNewName_19 ?_
    replace hf := bd_some hf; obtain ⟨r4, h5, hf⟩ := hf
    refine V_call (pc := 22) (us1 := [_, _]) [1, 0] 1 (kX8_placeIn (o := oa) (au := o) hk1 hk0 (Nat.le_of_ble_eq_true rfl) (rfl : _[1]? = _) h5) rfl rfl rfl rfl rfl hk1 (Nat.le_of_ble_eq_true rfl) rfl rfl rfl wm_RX4_169 md_X8_placeIn (Nat.le_of_ble_eq_true rfl) (Nat.le_of_ble_eq_true rfl) rfl rfl (Nat.le_of_ble_eq_true rfl) dX4_isNewName_22 ?_
    refine v_iconst (pc := 25) (-1 : Int32) dX4_isNewName_25 ci_m1 ?_
    refine v_icmp_ne (pc := 26) 61 dX4_isNewName_26 (by decide) (fun c6 => ?_) (fun c6 => ?_)
    · replace hf := it_f c6 hf
      exact V_sub [1] rfl (wX4_isNewName_j61 hk0 hk1 hF hf)
    · replace hf := it_t c6 hf
      refine v_aload_n (pc := 29) 1 dX4_isNewName_29 rfl ?_
      refine v_aload_n (pc := 30) 0 dX4_isNewName_30 rfl ?_
      refine gf_RX4_22 (pc := 31) 0 rfl hk0 dX4_isNewName_31 ?_
      refine v_aload_n (pc := 34) 0 dX4_isNewName_34 rfl ?_
      refine gf_RX4_56 (pc := 35) 0 rfl hk0 dX4_isNewName_35 ?_
      replace hf := bd_some hf; obtain ⟨r10, h11, hf⟩ := hf
      refine V_call (pc := 38) (us1 := [_, _]) [1, 0] 1 (kX8_placeIn (o := oa) (au := o) hk1 hk0 (Nat.le_of_ble_eq_true rfl) (rfl : _[4]? = _) h11) rfl rfl rfl rfl rfl hk1 (Nat.le_of_ble_eq_true rfl) rfl rfl rfl wm_RX4_169 md_X8_placeIn (Nat.le_of_ble_eq_true rfl) (Nat.le_of_ble_eq_true rfl) rfl rfl (Nat.le_of_ble_eq_true rfl) dX4_isNewName_38 ?_
      refine v_iconst (pc := 41) (-1 : Int32) dX4_isNewName_41 ci_m1 ?_
      refine v_icmp_ne (pc := 42) 61 dX4_isNewName_42 (by decide) (fun c12 => ?_) (fun c12 => ?_)
      · replace hf := it_f c12 hf
        exact V_sub [1] rfl (wX4_isNewName_j61 hk0 hk1 hF hf)
      · replace hf := it_t c12 hf
        refine v_aload_n (pc := 45) 1 dX4_isNewName_45 rfl ?_
        refine v_aload_n (pc := 46) 0 dX4_isNewName_46 rfl ?_
        refine gf_RX4_37 (pc := 47) 0 rfl hk0 dX4_isNewName_47 ?_
        refine v_aload_n (pc := 50) 0 dX4_isNewName_50 rfl ?_
        refine gf_RX4_62 (pc := 51) 0 rfl hk0 dX4_isNewName_51 ?_
        replace hf := bd_some hf; obtain ⟨r13, h14, hf⟩ := hf
        refine V_call (pc := 54) (us1 := [_, _]) [1, 0] 1 (kX8_placeIn (o := oa) (au := o) hk1 hk0 (Nat.le_of_ble_eq_true rfl) (rfl : _[9]? = _) h14) rfl rfl rfl rfl rfl hk1 (Nat.le_of_ble_eq_true rfl) rfl rfl rfl wm_RX4_169 md_X8_placeIn (Nat.le_of_ble_eq_true rfl) (Nat.le_of_ble_eq_true rfl) rfl rfl (Nat.le_of_ble_eq_true rfl) dX4_isNewName_54 ?_
        refine v_iconst (pc := 57) (-1 : Int32) dX4_isNewName_57 ci_m1 ?_
        refine v_icmp_eq (pc := 58) 67 dX4_isNewName_58 (by decide) (fun c15 => ?_) (fun c15 => ?_)
        · replace hf := it_t c15 hf
          refine v_iconst (pc := 67) (1 : Int32) dX4_isNewName_67 ci_1 ?_
          have hf2 := Option.some.inj hf; subst hf2
          exact V_zret (pc := 68) hF rfl dX4_isNewName_68
        · replace hf := it_f c15 hf
          exact V_sub [1] rfl (wX4_isNewName_j61 hk0 hk1 hF hf)
  · replace hf := it_t c3 hf
    refine v_aload_n (pc := 7) 1 dX4_isNewName_7 rfl ?_
    refine v_iconst (pc := 8) (1 : Int32) dX4_isNewName_8 ci_1 ?_
    replace hf := bd_some hf; obtain ⟨r16, h17, hf⟩ := hf
    refine V_call (pc := 9) (us1 := [_, _]) [1] 1 (kX8_refuse (o := oa) hk1 h17) rfl rfl rfl rfl rfl hk1 (Nat.le_of_ble_eq_true rfl) rfl rfl rfl wm_RX4_134 md_X8_refuse (Nat.le_of_ble_eq_true rfl) (Nat.le_of_ble_eq_true rfl) rfl rfl (Nat.le_of_ble_eq_true rfl) dX4_isNewName_9 ?_
    replace hf := gd_some hf; obtain ⟨g18, hf⟩ := hf
    have hf2 := Option.some.inj hf; subst hf2
    exact V_zret (pc := 12) hF g18 dX4_isNewName_12
set_option maxRecDepth 20000 in
theorem kX4_readBed {G : Wc} {o oa : Nat} {S : Ob} {Sa : Ob}  {r : Int32 × Ob × Ob} (hk0 : kd o = 4) (hk1 : kd oa = 8) (hf : pX4_readBed S Sa   = some r) : Cn yX4_readBed cX4_readBed 3 (some .boolean) 4 128 G [.ref (wA G o 0), .ref (wA G oa 0)] [(o, S), (oa, Sa)] [(o, r.2.1), (oa, r.2.2)] (some (.int r.1)) := by
  refine V_method [(0, .ref (wA G o 0)), (1, .ref (wA G oa 0))] (by decide) rfl (Nat.le_of_ble_eq_true rfl) rfl (fun Γ hF => ?_)
  unfold pX4_readBed at hf
  refine v_aload_n (pc := 0) 0 dX4_readBed_0 rfl ?_
  refine gf_RX4_62 (pc := 1) 0 rfl hk0 dX4_readBed_1 ?_
  refine v_iconst (pc := 4) (4 : Int32) dX4_readBed_4 ci_4 ?_
  refine v_icmp_lt (pc := 5) 14 dX4_readBed_5 (by decide) (fun c1 => ?_) (fun c1 => ?_)
  · replace hf := it_t c1 hf
    refine v_aload_n (pc := 14) 1 dX4_readBed_14 rfl ?_
    replace hf := bd_some hf; obtain ⟨r2, h3, hf⟩ := hf
    refine V_call (pc := 15) (us1 := [_, _]) [1] 1 (kX8_advance (o := oa) hk1 h3) rfl rfl rfl rfl rfl hk1 (Nat.le_of_ble_eq_true rfl) rfl rfl rfl wm_RX4_137 md_X8_advance (Nat.le_of_ble_eq_true rfl) (Nat.le_of_ble_eq_true rfl) rfl rfl (Nat.le_of_ble_eq_true rfl) dX4_readBed_15 ?_
    refine v_aload_n (pc := 18) 0 dX4_readBed_18 rfl ?_
    refine v_aload_n (pc := 19) 1 dX4_readBed_19 rfl ?_
    replace hf := bd_some hf; obtain ⟨r4, h5, hf⟩ := hf
    refine V_call (pc := 20) (us1 := [_, _]) [0, 1] 0 (kX4_isNewName (o := o) (oa := oa) hk0 hk1 h5) rfl rfl rfl rfl rfl hk0 (Nat.le_of_ble_eq_true rfl) rfl rfl rfl wm_RX4_140 md_X4_isNewName (Nat.le_of_ble_eq_true rfl) (Nat.le_of_ble_eq_true rfl) rfl rfl (Nat.le_of_ble_eq_true rfl) dX4_readBed_20 ?_
    refine v_if_ne (pc := 23) 28 dX4_readBed_23 (by decide) (fun c6 => ?_) (fun c6 => ?_)
    · replace hf := it_f c6 hf
      refine v_aload_n (pc := 28) 0 dX4_readBed_28 rfl ?_
      refine gf_RX4_37 (pc := 29) 0 rfl hk0 dX4_readBed_29 ?_
      refine v_aload_n (pc := 32) 0 dX4_readBed_32 rfl ?_
      refine gf_RX4_62 (pc := 33) 0 rfl hk0 dX4_readBed_33 ?_
      refine v_aload_n (pc := 36) 1 dX4_readBed_36 rfl ?_
      refine gf_RX4_143 (pc := 37) 1 rfl hk1 dX4_readBed_37 ?_
      replace hf := gd_some hf; obtain ⟨g7, hf⟩ := hf
      refine as_X4_12 (pc := 40) [_, _] _ 0 rfl hk0 rfl g7 rfl dX4_readBed_40 ?_
      refine v_aload_n (pc := 41) 1 dX4_readBed_41 rfl ?_
      replace hf := bd_some hf; obtain ⟨r8, h9, hf⟩ := hf
      refine V_call (pc := 42) (us1 := [_, _]) [1] 1 (kX8_advance (o := oa) hk1 h9) rfl rfl rfl rfl rfl hk1 (Nat.le_of_ble_eq_true rfl) rfl rfl rfl wm_RX4_137 md_X8_advance (Nat.le_of_ble_eq_true rfl) (Nat.le_of_ble_eq_true rfl) rfl rfl (Nat.le_of_ble_eq_true rfl) dX4_readBed_42 ?_
      refine v_aload_n (pc := 45) 1 dX4_readBed_45 rfl ?_
      refine v_iconst (pc := 46) (1 : Int32) dX4_readBed_46 ci_1 ?_
      refine v_bipush (pc := 47) (99 : Int32) dX4_readBed_47 cb_99 ?_
      replace hf := bd_some hf; obtain ⟨r10, h11, hf⟩ := hf
      refine V_call (pc := 49) (us1 := [_, _]) [1] 1 (kX8_takeNumber (o := oa) hk1 h11) rfl rfl rfl rfl rfl hk1 (Nat.le_of_ble_eq_true rfl) rfl rfl rfl wm_RX4_147 md_X8_takeNumber (Nat.le_of_ble_eq_true rfl) (Nat.le_of_ble_eq_true rfl) rfl rfl (Nat.le_of_ble_eq_true rfl) dX4_readBed_49 ?_
      refine v_istore_n (pc := 52) [(2, _), (0, _), (1, _)] dX4_readBed_52 (Nat.le_of_ble_eq_true rfl) rfl ?_
      refine v_iload_n (pc := 53) 0 dX4_readBed_53 rfl ?_
      refine v_iconst (pc := 54) (-1 : Int32) dX4_readBed_54 ci_m1 ?_
      refine v_icmp_ne (pc := 55) 60 dX4_readBed_55 (by decide) (fun c12 => ?_) (fun c12 => ?_)
      · replace hf := it_f c12 hf
        refine v_aload_n (pc := 60) 1 dX4_readBed_60 rfl ?_
        refine gf_RX4_40 (pc := 61) 0 rfl hk0 dX4_readBed_61 ?_
        refine v_aload_n (pc := 64) 1 dX4_readBed_64 rfl ?_
        refine gf_RX4_62 (pc := 65) 0 rfl hk0 dX4_readBed_65 ?_
        refine v_iload_n (pc := 68) 0 dX4_readBed_68 rfl ?_
        replace hf := gd_some hf; obtain ⟨g13, hf⟩ := hf
        refine as_X4_13 (pc := 69) [_, _] _ 0 rfl hk0 rfl g13 rfl dX4_readBed_69 ?_
        refine v_aload_n (pc := 70) 1 dX4_readBed_70 rfl ?_
        refine v_dup (pc := 71) dX4_readBed_71 rfl ?_
        refine gf_RX4_62 (pc := 72) 0 rfl hk0 dX4_readBed_72 ?_
        refine v_iconst (pc := 75) (1 : Int32) dX4_readBed_75 ci_1 ?_
        refine v_iadd (pc := 76) dX4_readBed_76 ?_
        refine pf_RX4_62 (pc := 77) [_, _] 0 rfl hk0 rfl dX4_readBed_77 ?_
        refine v_iconst (pc := 80) (1 : Int32) dX4_readBed_80 ci_1 ?_
        have hf2 := Option.some.inj hf; subst hf2
        exact V_zret (pc := 81) hF rfl dX4_readBed_81
      · replace hf := it_t c12 hf
        refine v_iconst (pc := 58) (0 : Int32) dX4_readBed_58 ci_0 ?_
        have hf2 := Option.some.inj hf; subst hf2
        exact V_zret (pc := 59) hF rfl dX4_readBed_59
    · replace hf := it_t c6 hf
      refine v_iconst (pc := 26) (0 : Int32) dX4_readBed_26 ci_0 ?_
      have hf2 := Option.some.inj hf; subst hf2
      exact V_zret (pc := 27) hF rfl dX4_readBed_27
  · replace hf := it_f c1 hf
    refine v_aload_n (pc := 8) 1 dX4_readBed_8 rfl ?_
    refine v_iconst (pc := 9) (4 : Int32) dX4_readBed_9 ci_4 ?_
    replace hf := bd_some hf; obtain ⟨r14, h15, hf⟩ := hf
    refine V_call (pc := 10) (us1 := [_, _]) [1] 1 (kX8_refuse (o := oa) hk1 h15) rfl rfl rfl rfl rfl hk1 (Nat.le_of_ble_eq_true rfl) rfl rfl rfl wm_RX4_134 md_X8_refuse (Nat.le_of_ble_eq_true rfl) (Nat.le_of_ble_eq_true rfl) rfl rfl (Nat.le_of_ble_eq_true rfl) dX4_readBed_10 ?_
    replace hf := gd_some hf; obtain ⟨g16, hf⟩ := hf
    have hf2 := Option.some.inj hf; subst hf2
    exact V_zret (pc := 13) hF g16 dX4_readBed_13
set_option maxRecDepth 20000 in
theorem kX4_readDaily {G : Wc} {o oa : Nat} {S : Ob} {Sa : Ob}  {r : Int32 × Ob × Ob} (hk0 : kd o = 4) (hk1 : kd oa = 8) (hf : pX4_readDaily S Sa   = some r) : Cn yX4_readDaily cX4_readDaily 5 (some .boolean) 4 129 G [.ref (wA G o 0), .ref (wA G oa 0)] [(o, S), (oa, Sa)] [(o, r.2.1), (oa, r.2.2)] (some (.int r.1)) := by
  refine V_method [(0, .ref (wA G o 0)), (1, .ref (wA G oa 0))] (by decide) rfl (Nat.le_of_ble_eq_true rfl) rfl (fun Γ hF => ?_)
  unfold pX4_readDaily at hf
  refine v_aload_n (pc := 0) 0 dX4_readDaily_0 rfl ?_
  refine gf_RX4_59 (pc := 1) 0 rfl hk0 dX4_readDaily_1 ?_
  refine v_bipush (pc := 4) (12 : Int32) dX4_readDaily_4 cb_12 ?_
  refine v_icmp_lt (pc := 6) 15 dX4_readDaily_6 (by decide) (fun c1 => ?_) (fun c1 => ?_)
  · replace hf := it_t c1 hf
    refine v_aload_n (pc := 15) 1 dX4_readDaily_15 rfl ?_
    replace hf := bd_some hf; obtain ⟨r2, h3, hf⟩ := hf
    refine V_call (pc := 16) (us1 := [_, _]) [1] 1 (kX8_advance (o := oa) hk1 h3) rfl rfl rfl rfl rfl hk1 (Nat.le_of_ble_eq_true rfl) rfl rfl rfl wm_RX4_137 md_X8_advance (Nat.le_of_ble_eq_true rfl) (Nat.le_of_ble_eq_true rfl) rfl rfl (Nat.le_of_ble_eq_true rfl) dX4_readDaily_16 ?_
    refine v_aload_n (pc := 19) 1 dX4_readDaily_19 rfl ?_
    refine v_aload_n (pc := 20) 0 dX4_readDaily_20 rfl ?_
    refine gf_RX4_22 (pc := 21) 0 rfl hk0 dX4_readDaily_21 ?_
    refine v_aload_n (pc := 24) 0 dX4_readDaily_24 rfl ?_
    refine gf_RX4_56 (pc := 25) 0 rfl hk0 dX4_readDaily_25 ?_
    replace hf := bd_some hf; obtain ⟨r4, h5, hf⟩ := hf
    refine V_call (pc := 28) (us1 := [_, _]) [1, 0] 1 (kX8_takeName (o := oa) (au := o) hk1 hk0 (Nat.le_of_ble_eq_true rfl) (rfl : _[4]? = _) h5) rfl rfl rfl rfl rfl hk1 (Nat.le_of_ble_eq_true rfl) rfl rfl rfl wm_RX4_158 md_X8_takeName (Nat.le_of_ble_eq_true rfl) (Nat.le_of_ble_eq_true rfl) rfl rfl (Nat.le_of_ble_eq_true rfl) dX4_readDaily_28 ?_
    refine v_istore_n (pc := 31) [(2, _), (0, _), (1, _)] dX4_readDaily_31 (Nat.le_of_ble_eq_true rfl) rfl ?_
    refine v_iload_n (pc := 32) 0 dX4_readDaily_32 rfl ?_
    refine v_iconst (pc := 33) (-1 : Int32) dX4_readDaily_33 ci_m1 ?_
    refine v_icmp_ne (pc := 34) 39 dX4_readDaily_34 (by decide) (fun c6 => ?_) (fun c6 => ?_)
    · replace hf := it_f c6 hf
      refine v_aload_n (pc := 39) 2 dX4_readDaily_39 rfl ?_
      refine v_aload_n (pc := 40) 1 dX4_readDaily_40 rfl ?_
      refine gf_RX4_9 (pc := 41) 0 rfl hk0 dX4_readDaily_41 ?_
      refine v_aload_n (pc := 44) 1 dX4_readDaily_44 rfl ?_
      refine gf_RX4_47 (pc := 45) 0 rfl hk0 dX4_readDaily_45 ?_
      replace hf := bd_some hf; obtain ⟨r7, h8, hf⟩ := hf
      refine V_call (pc := 48) (us1 := [_, _]) [1, 0] 1 (kX8_takeName (o := oa) (au := o) hk1 hk0 (Nat.le_of_ble_eq_true rfl) (rfl : _[1]? = _) h8) rfl rfl rfl rfl rfl hk1 (Nat.le_of_ble_eq_true rfl) rfl rfl rfl wm_RX4_158 md_X8_takeName (Nat.le_of_ble_eq_true rfl) (Nat.le_of_ble_eq_true rfl) rfl rfl (Nat.le_of_ble_eq_true rfl) dX4_readDaily_48 ?_
      refine v_istore_n (pc := 51) [(3, _), (2, _), (0, _), (1, _)] dX4_readDaily_51 (Nat.le_of_ble_eq_true rfl) rfl ?_
      refine v_iload_n (pc := 52) 0 dX4_readDaily_52 rfl ?_
      refine v_iconst (pc := 53) (-1 : Int32) dX4_readDaily_53 ci_m1 ?_
      refine v_icmp_ne (pc := 54) 59 dX4_readDaily_54 (by decide) (fun c9 => ?_) (fun c9 => ?_)
      · replace hf := it_f c9 hf
        refine v_aload_n (pc := 59) 3 dX4_readDaily_59 rfl ?_
        refine v_iconst (pc := 60) (1 : Int32) dX4_readDaily_60 ci_1 ?_
        refine v_bipush (pc := 61) (9 : Int32) dX4_readDaily_61 cb_9 ?_
        replace hf := bd_some hf; obtain ⟨r10, h11, hf⟩ := hf
        refine V_call (pc := 63) (us1 := [_, _]) [1] 1 (kX8_takeNumber (o := oa) hk1 h11) rfl rfl rfl rfl rfl hk1 (Nat.le_of_ble_eq_true rfl) rfl rfl rfl wm_RX4_147 md_X8_takeNumber (Nat.le_of_ble_eq_true rfl) (Nat.le_of_ble_eq_true rfl) rfl rfl (Nat.le_of_ble_eq_true rfl) dX4_readDaily_63 ?_
        refine v_istore (pc := 66) [(4, _), (3, _), (2, _), (0, _), (1, _)] dX4_readDaily_66 (Nat.le_of_ble_eq_true rfl) rfl ?_
        refine v_iload (pc := 68) 0 dX4_readDaily_68 rfl ?_
        refine v_iconst (pc := 70) (-1 : Int32) dX4_readDaily_70 ci_m1 ?_
        refine v_icmp_ne (pc := 71) 76 dX4_readDaily_71 (by decide) (fun c12 => ?_) (fun c12 => ?_)
        · replace hf := it_f c12 hf
          refine v_aload_n (pc := 76) 3 dX4_readDaily_76 rfl ?_
          refine gf_RX4_28 (pc := 77) 0 rfl hk0 dX4_readDaily_77 ?_
          refine v_aload_n (pc := 80) 3 dX4_readDaily_80 rfl ?_
          refine gf_RX4_59 (pc := 81) 0 rfl hk0 dX4_readDaily_81 ?_
          refine v_iload_n (pc := 84) 2 dX4_readDaily_84 rfl ?_
          replace hf := gd_some hf; obtain ⟨g13, hf⟩ := hf
          refine as_X4_8 (pc := 85) [_, _] _ 0 rfl hk0 rfl g13 rfl dX4_readDaily_85 ?_
          refine v_aload_n (pc := 86) 3 dX4_readDaily_86 rfl ?_
          refine gf_RX4_31 (pc := 87) 0 rfl hk0 dX4_readDaily_87 ?_
          refine v_aload_n (pc := 90) 3 dX4_readDaily_90 rfl ?_
          refine gf_RX4_59 (pc := 91) 0 rfl hk0 dX4_readDaily_91 ?_
          refine v_iload_n (pc := 94) 1 dX4_readDaily_94 rfl ?_
          replace hf := gd_some hf; obtain ⟨g14, hf⟩ := hf
          refine as_X4_9 (pc := 95) [_, _] _ 0 rfl hk0 rfl g14 rfl dX4_readDaily_95 ?_
          refine v_aload_n (pc := 96) 3 dX4_readDaily_96 rfl ?_
          refine gf_RX4_34 (pc := 97) 0 rfl hk0 dX4_readDaily_97 ?_
          refine v_aload_n (pc := 100) 3 dX4_readDaily_100 rfl ?_
          refine gf_RX4_59 (pc := 101) 0 rfl hk0 dX4_readDaily_101 ?_
          refine v_iload (pc := 104) 0 dX4_readDaily_104 rfl ?_
          replace hf := gd_some hf; obtain ⟨g15, hf⟩ := hf
          refine as_X4_10 (pc := 106) [_, _] _ 0 rfl hk0 rfl g15 rfl dX4_readDaily_106 ?_
          refine v_aload_n (pc := 107) 3 dX4_readDaily_107 rfl ?_
          refine v_dup (pc := 108) dX4_readDaily_108 rfl ?_
          refine gf_RX4_59 (pc := 109) 0 rfl hk0 dX4_readDaily_109 ?_
          refine v_iconst (pc := 112) (1 : Int32) dX4_readDaily_112 ci_1 ?_
          refine v_iadd (pc := 113) dX4_readDaily_113 ?_
          refine pf_RX4_59 (pc := 114) [_, _] 0 rfl hk0 rfl dX4_readDaily_114 ?_
          refine v_iconst (pc := 117) (1 : Int32) dX4_readDaily_117 ci_1 ?_
          have hf2 := Option.some.inj hf; subst hf2
          exact V_zret (pc := 118) hF rfl dX4_readDaily_118
        · replace hf := it_t c12 hf
          refine v_iconst (pc := 74) (0 : Int32) dX4_readDaily_74 ci_0 ?_
          have hf2 := Option.some.inj hf; subst hf2
          exact V_zret (pc := 75) hF rfl dX4_readDaily_75
      · replace hf := it_t c9 hf
        refine v_iconst (pc := 57) (0 : Int32) dX4_readDaily_57 ci_0 ?_
        have hf2 := Option.some.inj hf; subst hf2
        exact V_zret (pc := 58) hF rfl dX4_readDaily_58
    · replace hf := it_t c6 hf
      refine v_iconst (pc := 37) (0 : Int32) dX4_readDaily_37 ci_0 ?_
      have hf2 := Option.some.inj hf; subst hf2
      exact V_zret (pc := 38) hF rfl dX4_readDaily_38
  · replace hf := it_f c1 hf
    refine v_aload_n (pc := 9) 1 dX4_readDaily_9 rfl ?_
    refine v_iconst (pc := 10) (4 : Int32) dX4_readDaily_10 ci_4 ?_
    replace hf := bd_some hf; obtain ⟨r16, h17, hf⟩ := hf
    refine V_call (pc := 11) (us1 := [_, _]) [1] 1 (kX8_refuse (o := oa) hk1 h17) rfl rfl rfl rfl rfl hk1 (Nat.le_of_ble_eq_true rfl) rfl rfl rfl wm_RX4_134 md_X8_refuse (Nat.le_of_ble_eq_true rfl) (Nat.le_of_ble_eq_true rfl) rfl rfl (Nat.le_of_ble_eq_true rfl) dX4_readDaily_11 ?_
    replace hf := gd_some hf; obtain ⟨g18, hf⟩ := hf
    have hf2 := Option.some.inj hf; subst hf2
    exact V_zret (pc := 14) hF g18 dX4_readDaily_14
set_option maxRecDepth 20000 in
theorem kX4_readCaught {G : Wc} {o oa ob : Nat} {S : Ob} {Sa : Ob} {Sb : Ob}  {r : Int32 × Ob × Ob} (hk0 : kd o = 4) (hk1 : kd oa = 8) (hk2 : kd ob = 6) (hf : pX4_readCaught S Sa Sb   = some r) : Cn yX4_readCaught cX4_readCaught 5 (some .boolean) 4 129 G [.ref (wA G o 0), .ref (wA G oa 0), .ref (wA G ob 0)] [(o, S), (oa, Sa), (ob, Sb)] [(o, S), (oa, r.2.1), (ob, r.2.2)] (some (.int r.1)) := by
  refine V_method [(0, .ref (wA G o 0)), (1, .ref (wA G oa 0)), (2, .ref (wA G ob 0))] (by decide) rfl (Nat.le_of_ble_eq_true rfl) rfl (fun Γ hF => ?_)
  unfold pX4_readCaught at hf
  refine v_aload_n (pc := 0) 1 dX4_readCaught_0 rfl ?_
  replace hf := bd_some hf; obtain ⟨r1, h2, hf⟩ := hf
  refine V_call (pc := 1) (us1 := [_, _, _]) [1] 1 (kX8_advance (o := oa) hk1 h2) rfl rfl rfl rfl rfl hk1 (Nat.le_of_ble_eq_true rfl) rfl rfl rfl wm_RX4_137 md_X8_advance (Nat.le_of_ble_eq_true rfl) (Nat.le_of_ble_eq_true rfl) rfl rfl (Nat.le_of_ble_eq_true rfl) dX4_readCaught_1 ?_
  refine v_aload_n (pc := 4) 1 dX4_readCaught_4 rfl ?_
  refine v_aload_n (pc := 5) 0 dX4_readCaught_5 rfl ?_
  refine gf_RX4_22 (pc := 6) 0 rfl hk0 dX4_readCaught_6 ?_
  refine v_aload_n (pc := 9) 0 dX4_readCaught_9 rfl ?_
  refine gf_RX4_56 (pc := 10) 0 rfl hk0 dX4_readCaught_10 ?_
  replace hf := bd_some hf; obtain ⟨r3, h4, hf⟩ := hf
  refine V_call (pc := 13) (us1 := [_, _, _]) [1, 0] 1 (kX8_findName (o := oa) (au := o) hk1 hk0 (Nat.le_of_ble_eq_true rfl) (rfl : _[4]? = _) h4) rfl rfl rfl rfl rfl hk1 (Nat.le_of_ble_eq_true rfl) rfl rfl rfl wm_RX4_151 md_X8_findName (Nat.le_of_ble_eq_true rfl) (Nat.le_of_ble_eq_true rfl) rfl rfl (Nat.le_of_ble_eq_true rfl) dX4_readCaught_13 ?_
  refine v_istore_n (pc := 16) [(3, _), (0, _), (1, _), (2, _)] dX4_readCaught_16 (Nat.le_of_ble_eq_true rfl) rfl ?_
  refine v_iload_n (pc := 17) 0 dX4_readCaught_17 rfl ?_
  refine v_iconst (pc := 18) (-1 : Int32) dX4_readCaught_18 ci_m1 ?_
  refine v_icmp_ne (pc := 19) 24 dX4_readCaught_19 (by decide) (fun c5 => ?_) (fun c5 => ?_)
  · replace hf := it_f c5 hf
    refine v_aload_n (pc := 24) 3 dX4_readCaught_24 rfl ?_
    refine v_iload_n (pc := 25) 0 dX4_readCaught_25 rfl ?_
    replace hf := bd_some hf; obtain ⟨r6, h7, hf⟩ := hf
    refine V_call (pc := 26) (us1 := [_, _, _]) [2] 2 (kX6_isNest (o := ob) hk2 h7) rfl rfl rfl rfl rfl hk2 (Nat.le_of_ble_eq_true rfl) rfl rfl rfl wm_RX4_155 md_X6_isNest (Nat.le_of_ble_eq_true rfl) (Nat.le_of_ble_eq_true rfl) rfl rfl (Nat.le_of_ble_eq_true rfl) dX4_readCaught_26 ?_
    refine v_if_eq (pc := 29) 38 dX4_readCaught_29 (by decide) (fun c8 => ?_) (fun c8 => ?_)
    · replace hf := it_t c8 hf
      refine v_aload_n (pc := 38) 2 dX4_readCaught_38 rfl ?_
      replace hf := bd_some hf; obtain ⟨r9, h10, hf⟩ := hf
      refine V_call (pc := 39) (us1 := [_, _, _]) [1] 1 (kX8_advance (o := oa) hk1 h10) rfl rfl rfl rfl rfl hk1 (Nat.le_of_ble_eq_true rfl) rfl rfl rfl wm_RX4_137 md_X8_advance (Nat.le_of_ble_eq_true rfl) (Nat.le_of_ble_eq_true rfl) rfl rfl (Nat.le_of_ble_eq_true rfl) dX4_readCaught_39 ?_
      refine v_aload_n (pc := 42) 2 dX4_readCaught_42 rfl ?_
      refine v_aload_n (pc := 43) 1 dX4_readCaught_43 rfl ?_
      refine gf_RX4_9 (pc := 44) 0 rfl hk0 dX4_readCaught_44 ?_
      refine v_aload_n (pc := 47) 1 dX4_readCaught_47 rfl ?_
      refine gf_RX4_47 (pc := 48) 0 rfl hk0 dX4_readCaught_48 ?_
      replace hf := bd_some hf; obtain ⟨r11, h12, hf⟩ := hf
      refine V_call (pc := 51) (us1 := [_, _, _]) [1, 0] 1 (kX8_takeName (o := oa) (au := o) hk1 hk0 (Nat.le_of_ble_eq_true rfl) (rfl : _[1]? = _) h12) rfl rfl rfl rfl rfl hk1 (Nat.le_of_ble_eq_true rfl) rfl rfl rfl wm_RX4_158 md_X8_takeName (Nat.le_of_ble_eq_true rfl) (Nat.le_of_ble_eq_true rfl) rfl rfl (Nat.le_of_ble_eq_true rfl) dX4_readCaught_51 ?_
      refine v_istore (pc := 54) [(4, _), (3, _), (0, _), (1, _), (2, _)] dX4_readCaught_54 (Nat.le_of_ble_eq_true rfl) rfl ?_
      refine v_iload (pc := 56) 0 dX4_readCaught_56 rfl ?_
      refine v_iconst (pc := 58) (-1 : Int32) dX4_readCaught_58 ci_m1 ?_
      refine v_icmp_ne (pc := 59) 64 dX4_readCaught_59 (by decide) (fun c13 => ?_) (fun c13 => ?_)
      · replace hf := it_f c13 hf
        refine v_aload_n (pc := 64) 4 dX4_readCaught_64 rfl ?_
        refine v_iload_n (pc := 65) 1 dX4_readCaught_65 rfl ?_
        refine v_iload (pc := 66) 0 dX4_readCaught_66 rfl ?_
        replace hf := bd_some hf; obtain ⟨r14, h15, hf⟩ := hf
        refine V_call (pc := 68) (us1 := [_, _, _]) [2] 2 (kX6_catchThing (o := ob) hk2 h15) rfl rfl rfl rfl rfl hk2 (Nat.le_of_ble_eq_true rfl) rfl rfl rfl wm_RX4_161 md_X6_catchThing (Nat.le_of_ble_eq_true rfl) (Nat.le_of_ble_eq_true rfl) rfl rfl (Nat.le_of_ble_eq_true rfl) dX4_readCaught_68 ?_
        refine v_iconst (pc := 71) (1 : Int32) dX4_readCaught_71 ci_1 ?_
        have hf2 := Option.some.inj hf; subst hf2
        exact V_zret (pc := 72) hF rfl dX4_readCaught_72
      · replace hf := it_t c13 hf
        refine v_iconst (pc := 62) (0 : Int32) dX4_readCaught_62 ci_0 ?_
        have hf2 := Option.some.inj hf; subst hf2
        exact V_zret (pc := 63) hF rfl dX4_readCaught_63
    · replace hf := it_f c8 hf
      refine v_aload_n (pc := 32) 2 dX4_readCaught_32 rfl ?_
      refine v_iconst (pc := 33) (4 : Int32) dX4_readCaught_33 ci_4 ?_
      replace hf := bd_some hf; obtain ⟨r16, h17, hf⟩ := hf
      refine V_call (pc := 34) (us1 := [_, _, _]) [1] 1 (kX8_refuse (o := oa) hk1 h17) rfl rfl rfl rfl rfl hk1 (Nat.le_of_ble_eq_true rfl) rfl rfl rfl wm_RX4_134 md_X8_refuse (Nat.le_of_ble_eq_true rfl) (Nat.le_of_ble_eq_true rfl) rfl rfl (Nat.le_of_ble_eq_true rfl) dX4_readCaught_34 ?_
      replace hf := gd_some hf; obtain ⟨g18, hf⟩ := hf
      have hf2 := Option.some.inj hf; subst hf2
      exact V_zret (pc := 37) hF g18 dX4_readCaught_37
  · replace hf := it_t c5 hf
    refine v_iconst (pc := 22) (0 : Int32) dX4_readCaught_22 ci_0 ?_
    have hf2 := Option.some.inj hf; subst hf2
    exact V_zret (pc := 23) hF rfl dX4_readCaught_23
set_option maxRecDepth 20000 in
theorem kX4_readPerson {G : Wc} {o oa : Nat} {S : Ob} {Sa : Ob}  {r : Int32 × Ob × Ob} (hk0 : kd o = 4) (hk1 : kd oa = 8) (hf : pX4_readPerson S Sa   = some r) : Cn yX4_readPerson cX4_readPerson 3 (some .boolean) 4 128 G [.ref (wA G o 0), .ref (wA G oa 0)] [(o, S), (oa, Sa)] [(o, r.2.1), (oa, r.2.2)] (some (.int r.1)) := by
  refine V_method [(0, .ref (wA G o 0)), (1, .ref (wA G oa 0))] (by decide) rfl (Nat.le_of_ble_eq_true rfl) rfl (fun Γ hF => ?_)
  unfold pX4_readPerson at hf
  refine v_aload_n (pc := 0) 0 dX4_readPerson_0 rfl ?_
  refine gf_RX4_56 (pc := 1) 0 rfl hk0 dX4_readPerson_1 ?_
  refine v_bipush (pc := 4) (6 : Int32) dX4_readPerson_4 cb_6 ?_
  refine v_icmp_lt (pc := 6) 15 dX4_readPerson_6 (by decide) (fun c1 => ?_) (fun c1 => ?_)
  · replace hf := it_t c1 hf
    refine v_aload_n (pc := 15) 1 dX4_readPerson_15 rfl ?_
    replace hf := bd_some hf; obtain ⟨r2, h3, hf⟩ := hf
    refine V_call (pc := 16) (us1 := [_, _]) [1] 1 (kX8_advance (o := oa) hk1 h3) rfl rfl rfl rfl rfl hk1 (Nat.le_of_ble_eq_true rfl) rfl rfl rfl wm_RX4_137 md_X8_advance (Nat.le_of_ble_eq_true rfl) (Nat.le_of_ble_eq_true rfl) rfl rfl (Nat.le_of_ble_eq_true rfl) dX4_readPerson_16 ?_
    refine v_aload_n (pc := 19) 0 dX4_readPerson_19 rfl ?_
    refine v_aload_n (pc := 20) 1 dX4_readPerson_20 rfl ?_
    replace hf := bd_some hf; obtain ⟨r4, h5, hf⟩ := hf
    refine V_call (pc := 21) (us1 := [_, _]) [0, 1] 0 (kX4_isNewName (o := o) (oa := oa) hk0 hk1 h5) rfl rfl rfl rfl rfl hk0 (Nat.le_of_ble_eq_true rfl) rfl rfl rfl wm_RX4_140 md_X4_isNewName (Nat.le_of_ble_eq_true rfl) (Nat.le_of_ble_eq_true rfl) rfl rfl (Nat.le_of_ble_eq_true rfl) dX4_readPerson_21 ?_
    refine v_if_ne (pc := 24) 29 dX4_readPerson_24 (by decide) (fun c6 => ?_) (fun c6 => ?_)
    · replace hf := it_f c6 hf
      refine v_aload_n (pc := 29) 0 dX4_readPerson_29 rfl ?_
      refine gf_RX4_22 (pc := 30) 0 rfl hk0 dX4_readPerson_30 ?_
      refine v_aload_n (pc := 33) 0 dX4_readPerson_33 rfl ?_
      refine gf_RX4_56 (pc := 34) 0 rfl hk0 dX4_readPerson_34 ?_
      refine v_aload_n (pc := 37) 1 dX4_readPerson_37 rfl ?_
      refine gf_RX4_143 (pc := 38) 1 rfl hk1 dX4_readPerson_38 ?_
      replace hf := gd_some hf; obtain ⟨g7, hf⟩ := hf
      refine as_X4_5 (pc := 41) [_, _] _ 0 rfl hk0 rfl g7 rfl dX4_readPerson_41 ?_
      refine v_aload_n (pc := 42) 1 dX4_readPerson_42 rfl ?_
      replace hf := bd_some hf; obtain ⟨r8, h9, hf⟩ := hf
      refine V_call (pc := 43) (us1 := [_, _]) [1] 1 (kX8_advance (o := oa) hk1 h9) rfl rfl rfl rfl rfl hk1 (Nat.le_of_ble_eq_true rfl) rfl rfl rfl wm_RX4_137 md_X8_advance (Nat.le_of_ble_eq_true rfl) (Nat.le_of_ble_eq_true rfl) rfl rfl (Nat.le_of_ble_eq_true rfl) dX4_readPerson_43 ?_
      refine v_aload_n (pc := 46) 1 dX4_readPerson_46 rfl ?_
      refine v_iconst (pc := 47) (1 : Int32) dX4_readPerson_47 ci_1 ?_
      refine v_bipush (pc := 48) (99 : Int32) dX4_readPerson_48 cb_99 ?_
      replace hf := bd_some hf; obtain ⟨r10, h11, hf⟩ := hf
      refine V_call (pc := 50) (us1 := [_, _]) [1] 1 (kX8_takeNumber (o := oa) hk1 h11) rfl rfl rfl rfl rfl hk1 (Nat.le_of_ble_eq_true rfl) rfl rfl rfl wm_RX4_147 md_X8_takeNumber (Nat.le_of_ble_eq_true rfl) (Nat.le_of_ble_eq_true rfl) rfl rfl (Nat.le_of_ble_eq_true rfl) dX4_readPerson_50 ?_
      refine v_istore_n (pc := 53) [(2, _), (0, _), (1, _)] dX4_readPerson_53 (Nat.le_of_ble_eq_true rfl) rfl ?_
      refine v_iload_n (pc := 54) 0 dX4_readPerson_54 rfl ?_
      refine v_iconst (pc := 55) (-1 : Int32) dX4_readPerson_55 ci_m1 ?_
      refine v_icmp_ne (pc := 56) 61 dX4_readPerson_56 (by decide) (fun c12 => ?_) (fun c12 => ?_)
      · replace hf := it_f c12 hf
        refine v_aload_n (pc := 61) 1 dX4_readPerson_61 rfl ?_
        refine gf_RX4_25 (pc := 62) 0 rfl hk0 dX4_readPerson_62 ?_
        refine v_aload_n (pc := 65) 1 dX4_readPerson_65 rfl ?_
        refine gf_RX4_56 (pc := 66) 0 rfl hk0 dX4_readPerson_66 ?_
        refine v_iload_n (pc := 69) 0 dX4_readPerson_69 rfl ?_
        replace hf := gd_some hf; obtain ⟨g13, hf⟩ := hf
        refine as_X4_6 (pc := 70) [_, _] _ 0 rfl hk0 rfl g13 rfl dX4_readPerson_70 ?_
        refine v_aload_n (pc := 71) 1 dX4_readPerson_71 rfl ?_
        refine v_dup (pc := 72) dX4_readPerson_72 rfl ?_
        refine gf_RX4_56 (pc := 73) 0 rfl hk0 dX4_readPerson_73 ?_
        refine v_iconst (pc := 76) (1 : Int32) dX4_readPerson_76 ci_1 ?_
        refine v_iadd (pc := 77) dX4_readPerson_77 ?_
        refine pf_RX4_56 (pc := 78) [_, _] 0 rfl hk0 rfl dX4_readPerson_78 ?_
        refine v_iconst (pc := 81) (1 : Int32) dX4_readPerson_81 ci_1 ?_
        have hf2 := Option.some.inj hf; subst hf2
        exact V_zret (pc := 82) hF rfl dX4_readPerson_82
      · replace hf := it_t c12 hf
        refine v_iconst (pc := 59) (0 : Int32) dX4_readPerson_59 ci_0 ?_
        have hf2 := Option.some.inj hf; subst hf2
        exact V_zret (pc := 60) hF rfl dX4_readPerson_60
    · replace hf := it_t c6 hf
      refine v_iconst (pc := 27) (0 : Int32) dX4_readPerson_27 ci_0 ?_
      have hf2 := Option.some.inj hf; subst hf2
      exact V_zret (pc := 28) hF rfl dX4_readPerson_28
  · replace hf := it_f c1 hf
    refine v_aload_n (pc := 9) 1 dX4_readPerson_9 rfl ?_
    refine v_iconst (pc := 10) (4 : Int32) dX4_readPerson_10 ci_4 ?_
    replace hf := bd_some hf; obtain ⟨r14, h15, hf⟩ := hf
    refine V_call (pc := 11) (us1 := [_, _]) [1] 1 (kX8_refuse (o := oa) hk1 h15) rfl rfl rfl rfl rfl hk1 (Nat.le_of_ble_eq_true rfl) rfl rfl rfl wm_RX4_134 md_X8_refuse (Nat.le_of_ble_eq_true rfl) (Nat.le_of_ble_eq_true rfl) rfl rfl (Nat.le_of_ble_eq_true rfl) dX4_readPerson_11 ?_
    replace hf := gd_some hf; obtain ⟨g16, hf⟩ := hf
    have hf2 := Option.some.inj hf; subst hf2
    exact V_zret (pc := 14) hF g16 dX4_readPerson_14
set_option maxRecDepth 20000 in
theorem kX4_readThing {G : Wc} {o oa : Nat} {S : Ob} {Sa : Ob}  {r : Int32 × Ob × Ob} (hk0 : kd o = 4) (hk1 : kd oa = 8) (hf : pX4_readThing S Sa   = some r) : Cn yX4_readThing cX4_readThing 4 (some .boolean) 4 128 G [.ref (wA G o 0), .ref (wA G oa 0)] [(o, S), (oa, Sa)] [(o, r.2.1), (oa, r.2.2)] (some (.int r.1)) := by
  refine V_method [(0, .ref (wA G o 0)), (1, .ref (wA G oa 0))] (by decide) rfl (Nat.le_of_ble_eq_true rfl) rfl (fun Γ hF => ?_)
  unfold pX4_readThing at hf
  refine v_aload_n (pc := 0) 0 dX4_readThing_0 rfl ?_
  refine gf_RX4_47 (pc := 1) 0 rfl hk0 dX4_readThing_1 ?_
  refine v_bipush (pc := 4) (8 : Int32) dX4_readThing_4 cb_8 ?_
  refine v_icmp_lt (pc := 6) 15 dX4_readThing_6 (by decide) (fun c1 => ?_) (fun c1 => ?_)
  · replace hf := it_t c1 hf
    refine v_aload_n (pc := 15) 1 dX4_readThing_15 rfl ?_
    replace hf := bd_some hf; obtain ⟨r2, h3, hf⟩ := hf
    refine V_call (pc := 16) (us1 := [_, _]) [1] 1 (kX8_advance (o := oa) hk1 h3) rfl rfl rfl rfl rfl hk1 (Nat.le_of_ble_eq_true rfl) rfl rfl rfl wm_RX4_137 md_X8_advance (Nat.le_of_ble_eq_true rfl) (Nat.le_of_ble_eq_true rfl) rfl rfl (Nat.le_of_ble_eq_true rfl) dX4_readThing_16 ?_
    refine v_aload_n (pc := 19) 0 dX4_readThing_19 rfl ?_
    refine v_aload_n (pc := 20) 1 dX4_readThing_20 rfl ?_
    replace hf := bd_some hf; obtain ⟨r4, h5, hf⟩ := hf
    refine V_call (pc := 21) (us1 := [_, _]) [0, 1] 0 (kX4_isNewName (o := o) (oa := oa) hk0 hk1 h5) rfl rfl rfl rfl rfl hk0 (Nat.le_of_ble_eq_true rfl) rfl rfl rfl wm_RX4_140 md_X4_isNewName (Nat.le_of_ble_eq_true rfl) (Nat.le_of_ble_eq_true rfl) rfl rfl (Nat.le_of_ble_eq_true rfl) dX4_readThing_21 ?_
    refine v_if_ne (pc := 24) 29 dX4_readThing_24 (by decide) (fun c6 => ?_) (fun c6 => ?_)
    · replace hf := it_f c6 hf
      refine v_aload_n (pc := 29) 0 dX4_readThing_29 rfl ?_
      refine gf_RX4_9 (pc := 30) 0 rfl hk0 dX4_readThing_30 ?_
      refine v_aload_n (pc := 33) 0 dX4_readThing_33 rfl ?_
      refine gf_RX4_47 (pc := 34) 0 rfl hk0 dX4_readThing_34 ?_
      refine v_aload_n (pc := 37) 1 dX4_readThing_37 rfl ?_
      refine gf_RX4_143 (pc := 38) 1 rfl hk1 dX4_readThing_38 ?_
      replace hf := gd_some hf; obtain ⟨g7, hf⟩ := hf
      refine as_X4_1 (pc := 41) [_, _] _ 0 rfl hk0 rfl g7 rfl dX4_readThing_41 ?_
      refine v_aload_n (pc := 42) 1 dX4_readThing_42 rfl ?_
      replace hf := bd_some hf; obtain ⟨r8, h9, hf⟩ := hf
      refine V_call (pc := 43) (us1 := [_, _]) [1] 1 (kX8_advance (o := oa) hk1 h9) rfl rfl rfl rfl rfl hk1 (Nat.le_of_ble_eq_true rfl) rfl rfl rfl wm_RX4_137 md_X8_advance (Nat.le_of_ble_eq_true rfl) (Nat.le_of_ble_eq_true rfl) rfl rfl (Nat.le_of_ble_eq_true rfl) dX4_readThing_43 ?_
      refine v_aload_n (pc := 46) 1 dX4_readThing_46 rfl ?_
      refine v_iconst (pc := 47) (1 : Int32) dX4_readThing_47 ci_1 ?_
      refine v_bipush (pc := 48) (9 : Int32) dX4_readThing_48 cb_9 ?_
      replace hf := bd_some hf; obtain ⟨r10, h11, hf⟩ := hf
      refine V_call (pc := 50) (us1 := [_, _]) [1] 1 (kX8_takeNumber (o := oa) hk1 h11) rfl rfl rfl rfl rfl hk1 (Nat.le_of_ble_eq_true rfl) rfl rfl rfl wm_RX4_147 md_X8_takeNumber (Nat.le_of_ble_eq_true rfl) (Nat.le_of_ble_eq_true rfl) rfl rfl (Nat.le_of_ble_eq_true rfl) dX4_readThing_50 ?_
      refine v_istore_n (pc := 53) [(2, _), (0, _), (1, _)] dX4_readThing_53 (Nat.le_of_ble_eq_true rfl) rfl ?_
      refine v_iload_n (pc := 54) 0 dX4_readThing_54 rfl ?_
      refine v_iconst (pc := 55) (-1 : Int32) dX4_readThing_55 ci_m1 ?_
      refine v_icmp_ne (pc := 56) 61 dX4_readThing_56 (by decide) (fun c12 => ?_) (fun c12 => ?_)
      · replace hf := it_f c12 hf
        refine v_aload_n (pc := 61) 2 dX4_readThing_61 rfl ?_
        refine v_iconst (pc := 62) (0 : Int32) dX4_readThing_62 ci_0 ?_
        refine v_bipush (pc := 63) (9 : Int32) dX4_readThing_63 cb_9 ?_
        replace hf := bd_some hf; obtain ⟨r13, h14, hf⟩ := hf
        refine V_call (pc := 65) (us1 := [_, _]) [1] 1 (kX8_takeNumber (o := oa) hk1 h14) rfl rfl rfl rfl rfl hk1 (Nat.le_of_ble_eq_true rfl) rfl rfl rfl wm_RX4_147 md_X8_takeNumber (Nat.le_of_ble_eq_true rfl) (Nat.le_of_ble_eq_true rfl) rfl rfl (Nat.le_of_ble_eq_true rfl) dX4_readThing_65 ?_
        refine v_istore_n (pc := 68) [(3, _), (2, _), (0, _), (1, _)] dX4_readThing_68 (Nat.le_of_ble_eq_true rfl) rfl ?_
        refine v_iload_n (pc := 69) 0 dX4_readThing_69 rfl ?_
        refine v_iconst (pc := 70) (-1 : Int32) dX4_readThing_70 ci_m1 ?_
        refine v_icmp_ne (pc := 71) 76 dX4_readThing_71 (by decide) (fun c15 => ?_) (fun c15 => ?_)
        · replace hf := it_f c15 hf
          refine v_aload_n (pc := 76) 2 dX4_readThing_76 rfl ?_
          refine gf_RX4_15 (pc := 77) 0 rfl hk0 dX4_readThing_77 ?_
          refine v_aload_n (pc := 80) 2 dX4_readThing_80 rfl ?_
          refine gf_RX4_47 (pc := 81) 0 rfl hk0 dX4_readThing_81 ?_
          refine v_iload_n (pc := 84) 1 dX4_readThing_84 rfl ?_
          replace hf := gd_some hf; obtain ⟨g16, hf⟩ := hf
          refine as_X4_2 (pc := 85) [_, _] _ 0 rfl hk0 rfl g16 rfl dX4_readThing_85 ?_
          refine v_aload_n (pc := 86) 2 dX4_readThing_86 rfl ?_
          refine gf_RX4_19 (pc := 87) 0 rfl hk0 dX4_readThing_87 ?_
          refine v_aload_n (pc := 90) 2 dX4_readThing_90 rfl ?_
          refine gf_RX4_47 (pc := 91) 0 rfl hk0 dX4_readThing_91 ?_
          refine v_iload_n (pc := 94) 0 dX4_readThing_94 rfl ?_
          replace hf := gd_some hf; obtain ⟨g17, hf⟩ := hf
          refine as_X4_3 (pc := 95) [_, _] _ 0 rfl hk0 rfl g17 rfl dX4_readThing_95 ?_
          refine v_aload_n (pc := 96) 2 dX4_readThing_96 rfl ?_
          refine v_dup (pc := 97) dX4_readThing_97 rfl ?_
          refine gf_RX4_47 (pc := 98) 0 rfl hk0 dX4_readThing_98 ?_
          refine v_iconst (pc := 101) (1 : Int32) dX4_readThing_101 ci_1 ?_
          refine v_iadd (pc := 102) dX4_readThing_102 ?_
          refine pf_RX4_47 (pc := 103) [_, _] 0 rfl hk0 rfl dX4_readThing_103 ?_
          refine v_iconst (pc := 106) (1 : Int32) dX4_readThing_106 ci_1 ?_
          have hf2 := Option.some.inj hf; subst hf2
          exact V_zret (pc := 107) hF rfl dX4_readThing_107
        · replace hf := it_t c15 hf
          refine v_iconst (pc := 74) (0 : Int32) dX4_readThing_74 ci_0 ?_
          have hf2 := Option.some.inj hf; subst hf2
          exact V_zret (pc := 75) hF rfl dX4_readThing_75
      · replace hf := it_t c12 hf
        refine v_iconst (pc := 59) (0 : Int32) dX4_readThing_59 ci_0 ?_
        have hf2 := Option.some.inj hf; subst hf2
        exact V_zret (pc := 60) hF rfl dX4_readThing_60
    · replace hf := it_t c6 hf
      refine v_iconst (pc := 27) (0 : Int32) dX4_readThing_27 ci_0 ?_
      have hf2 := Option.some.inj hf; subst hf2
      exact V_zret (pc := 28) hF rfl dX4_readThing_28
  · replace hf := it_f c1 hf
    refine v_aload_n (pc := 9) 1 dX4_readThing_9 rfl ?_
    refine v_iconst (pc := 10) (4 : Int32) dX4_readThing_10 ci_4 ?_
    replace hf := bd_some hf; obtain ⟨r18, h19, hf⟩ := hf
    refine V_call (pc := 11) (us1 := [_, _]) [1] 1 (kX8_refuse (o := oa) hk1 h19) rfl rfl rfl rfl rfl hk1 (Nat.le_of_ble_eq_true rfl) rfl rfl rfl wm_RX4_134 md_X8_refuse (Nat.le_of_ble_eq_true rfl) (Nat.le_of_ble_eq_true rfl) rfl rfl (Nat.le_of_ble_eq_true rfl) dX4_readThing_11 ?_
    replace hf := gd_some hf; obtain ⟨g20, hf⟩ := hf
    have hf2 := Option.some.inj hf; subst hf2
    exact V_zret (pc := 14) hF g20 dX4_readThing_14
set_option maxRecDepth 20000 in
theorem kX4_readLine {G : Wc} {o oa ob : Nat} {S : Ob} {Sa : Ob} {Sb : Ob}  {r : Int32 × Ob × Ob × Ob} (hk0 : kd o = 4) (hk1 : kd oa = 8) (hk2 : kd ob = 6) (hf : pX4_readLine S Sa Sb   = some r) : Cn yX4_readLine cX4_readLine 3 (some .boolean) 5 153 G [.ref (wA G o 0), .ref (wA G oa 0), .ref (wA G ob 0)] [(o, S), (oa, Sa), (ob, Sb)] [(o, r.2.1), (oa, r.2.2.1), (ob, r.2.2.2)] (some (.int r.1)) := by
  refine V_method [(0, .ref (wA G o 0)), (1, .ref (wA G oa 0)), (2, .ref (wA G ob 0))] (by decide) rfl (Nat.le_of_ble_eq_true rfl) rfl (fun Γ hF => ?_)
  unfold pX4_readLine at hf
  refine v_aload_n (pc := 0) 1 dX4_readLine_0 rfl ?_
  refine gf_RX4_91 (pc := 1) 1 rfl hk1 dX4_readLine_1 ?_
  refine V_gete (pc := 4) 0 "THING" (by decide) rfl wf_RX4_95 dX4_readLine_4 ?_
  replace hf := gd_some hf; obtain ⟨g1, hf⟩ := hf
  refine v_acmp_ne (pc := 7) g1 rfl 16 dX4_readLine_7 (by decide) (fun c2 => ?_) (fun c2 => ?_)
  · replace hf := it_f c2 hf
    refine v_aload_n (pc := 16) 1 dX4_readLine_16 rfl ?_
    refine gf_RX4_91 (pc := 17) 1 rfl hk1 dX4_readLine_17 ?_
    refine V_gete (pc := 20) 1 "PERSON" (by decide) rfl wf_RX4_104 dX4_readLine_20 ?_
    replace hf := gd_some hf; obtain ⟨g3, hf⟩ := hf
    refine v_acmp_ne (pc := 23) g3 rfl 32 dX4_readLine_23 (by decide) (fun c4 => ?_) (fun c4 => ?_)
    · replace hf := it_f c4 hf
      refine v_aload_n (pc := 32) 1 dX4_readLine_32 rfl ?_
      refine gf_RX4_91 (pc := 33) 1 rfl hk1 dX4_readLine_33 ?_
      refine V_gete (pc := 36) 2 "CAUGHT" (by decide) rfl wf_RX4_110 dX4_readLine_36 ?_
      replace hf := gd_some hf; obtain ⟨g5, hf⟩ := hf
      refine v_acmp_ne (pc := 39) g5 rfl 49 dX4_readLine_39 (by decide) (fun c6 => ?_) (fun c6 => ?_)
      · replace hf := it_f c6 hf
        refine v_aload_n (pc := 49) 1 dX4_readLine_49 rfl ?_
        refine gf_RX4_91 (pc := 50) 1 rfl hk1 dX4_readLine_50 ?_
        refine V_gete (pc := 53) 3 "DAILY" (by decide) rfl wf_RX4_116 dX4_readLine_53 ?_
        replace hf := gd_some hf; obtain ⟨g7, hf⟩ := hf
        refine v_acmp_ne (pc := 56) g7 rfl 65 dX4_readLine_56 (by decide) (fun c8 => ?_) (fun c8 => ?_)
        · replace hf := it_f c8 hf
          refine v_aload_n (pc := 65) 1 dX4_readLine_65 rfl ?_
          refine gf_RX4_91 (pc := 66) 1 rfl hk1 dX4_readLine_66 ?_
          refine V_gete (pc := 69) 4 "BED" (by decide) rfl wf_RX4_122 dX4_readLine_69 ?_
          replace hf := gd_some hf; obtain ⟨g9, hf⟩ := hf
          refine v_acmp_ne (pc := 72) g9 rfl 81 dX4_readLine_72 (by decide) (fun c10 => ?_) (fun c10 => ?_)
          · replace hf := it_f c10 hf
            refine v_aload_n (pc := 81) 1 dX4_readLine_81 rfl ?_
            refine gf_RX4_91 (pc := 82) 1 rfl hk1 dX4_readLine_82 ?_
            refine V_gete (pc := 85) 5 "COMB" (by decide) rfl wf_RX4_128 dX4_readLine_85 ?_
            replace hf := gd_some hf; obtain ⟨g11, hf⟩ := hf
            refine v_acmp_ne (pc := 88) g11 rfl 99 dX4_readLine_88 (by decide) (fun c12 => ?_) (fun c12 => ?_)
            · replace hf := it_f c12 hf
              refine v_aload_n (pc := 99) 1 dX4_readLine_99 rfl ?_
              refine v_iconst (pc := 100) (1 : Int32) dX4_readLine_100 ci_1 ?_
              replace hf := bd_some hf; obtain ⟨r13, h14, hf⟩ := hf
              refine V_call (pc := 101) (us1 := [_, _, _]) [1] 1 (kX8_refuse (o := oa) hk1 h14) rfl rfl rfl rfl rfl hk1 (Nat.le_of_ble_eq_true rfl) rfl rfl rfl wm_RX4_134 md_X8_refuse (Nat.le_of_ble_eq_true rfl) (Nat.le_of_ble_eq_true rfl) rfl rfl (Nat.le_of_ble_eq_true rfl) dX4_readLine_101 ?_
              replace hf := gd_some hf; obtain ⟨g15, hf⟩ := hf
              have hf2 := Option.some.inj hf; subst hf2
              exact V_zret (pc := 104) hF g15 dX4_readLine_104
            · replace hf := it_t c12 hf
              refine v_aload_n (pc := 91) 0 dX4_readLine_91 rfl ?_
              refine v_aload_n (pc := 92) 1 dX4_readLine_92 rfl ?_
              replace hf := bd_some hf; obtain ⟨r16, h17, hf⟩ := hf
              refine V_call (pc := 93) (us1 := [_, _, _]) [0, 1] 0 (kX4_readComb (o := o) (oa := oa) hk0 hk1 h17) rfl rfl rfl rfl rfl hk0 (Nat.le_of_ble_eq_true rfl) rfl rfl rfl wm_RX4_131 md_X4_readComb (Nat.le_of_ble_eq_true rfl) (Nat.le_of_ble_eq_true rfl) rfl rfl (Nat.le_of_ble_eq_true rfl) dX4_readLine_93 ?_
              refine v_goto (pc := 96) 104 dX4_readLine_96 (by decide) ?_
              replace hf := gd_some hf; obtain ⟨g18, hf⟩ := hf
              have hf2 := Option.some.inj hf; subst hf2
              exact V_zret (pc := 104) hF g18 dX4_readLine_104
          · replace hf := it_t c10 hf
            refine v_aload_n (pc := 75) 0 dX4_readLine_75 rfl ?_
            refine v_aload_n (pc := 76) 1 dX4_readLine_76 rfl ?_
            replace hf := bd_some hf; obtain ⟨r19, h20, hf⟩ := hf
            refine V_call (pc := 77) (us1 := [_, _, _]) [0, 1] 0 (kX4_readBed (o := o) (oa := oa) hk0 hk1 h20) rfl rfl rfl rfl rfl hk0 (Nat.le_of_ble_eq_true rfl) rfl rfl rfl wm_RX4_125 md_X4_readBed (Nat.le_of_ble_eq_true rfl) (Nat.le_of_ble_eq_true rfl) rfl rfl (Nat.le_of_ble_eq_true rfl) dX4_readLine_77 ?_
            replace hf := gd_some hf; obtain ⟨g21, hf⟩ := hf
            have hf2 := Option.some.inj hf; subst hf2
            exact V_zret (pc := 80) hF g21 dX4_readLine_80
        · replace hf := it_t c8 hf
          refine v_aload_n (pc := 59) 0 dX4_readLine_59 rfl ?_
          refine v_aload_n (pc := 60) 1 dX4_readLine_60 rfl ?_
          replace hf := bd_some hf; obtain ⟨r22, h23, hf⟩ := hf
          refine V_call (pc := 61) (us1 := [_, _, _]) [0, 1] 0 (kX4_readDaily (o := o) (oa := oa) hk0 hk1 h23) rfl rfl rfl rfl rfl hk0 (Nat.le_of_ble_eq_true rfl) rfl rfl rfl wm_RX4_119 md_X4_readDaily (Nat.le_of_ble_eq_true rfl) (Nat.le_of_ble_eq_true rfl) rfl rfl (Nat.le_of_ble_eq_true rfl) dX4_readLine_61 ?_
          replace hf := gd_some hf; obtain ⟨g24, hf⟩ := hf
          have hf2 := Option.some.inj hf; subst hf2
          exact V_zret (pc := 64) hF g24 dX4_readLine_64
      · replace hf := it_t c6 hf
        refine v_aload_n (pc := 42) 0 dX4_readLine_42 rfl ?_
        refine v_aload_n (pc := 43) 1 dX4_readLine_43 rfl ?_
        refine v_aload_n (pc := 44) 2 dX4_readLine_44 rfl ?_
        replace hf := bd_some hf; obtain ⟨r25, h26, hf⟩ := hf
        refine V_call (pc := 45) (us1 := [_, _, _]) [0, 1, 2] 0 (kX4_readCaught (o := o) (oa := oa) (ob := ob) hk0 hk1 hk2 h26) rfl rfl rfl rfl rfl hk0 (Nat.le_of_ble_eq_true rfl) rfl rfl rfl wm_RX4_113 md_X4_readCaught (Nat.le_of_ble_eq_true rfl) (Nat.le_of_ble_eq_true rfl) rfl rfl (Nat.le_of_ble_eq_true rfl) dX4_readLine_45 ?_
        replace hf := gd_some hf; obtain ⟨g27, hf⟩ := hf
        have hf2 := Option.some.inj hf; subst hf2
        exact V_zret (pc := 48) hF g27 dX4_readLine_48
    · replace hf := it_t c4 hf
      refine v_aload_n (pc := 26) 0 dX4_readLine_26 rfl ?_
      refine v_aload_n (pc := 27) 1 dX4_readLine_27 rfl ?_
      replace hf := bd_some hf; obtain ⟨r28, h29, hf⟩ := hf
      refine V_call (pc := 28) (us1 := [_, _, _]) [0, 1] 0 (kX4_readPerson (o := o) (oa := oa) hk0 hk1 h29) rfl rfl rfl rfl rfl hk0 (Nat.le_of_ble_eq_true rfl) rfl rfl rfl wm_RX4_107 md_X4_readPerson (Nat.le_of_ble_eq_true rfl) (Nat.le_of_ble_eq_true rfl) rfl rfl (Nat.le_of_ble_eq_true rfl) dX4_readLine_28 ?_
      replace hf := gd_some hf; obtain ⟨g30, hf⟩ := hf
      have hf2 := Option.some.inj hf; subst hf2
      exact V_zret (pc := 31) hF g30 dX4_readLine_31
  · replace hf := it_t c2 hf
    refine v_aload_n (pc := 10) 0 dX4_readLine_10 rfl ?_
    refine v_aload_n (pc := 11) 1 dX4_readLine_11 rfl ?_
    replace hf := bd_some hf; obtain ⟨r31, h32, hf⟩ := hf
    refine V_call (pc := 12) (us1 := [_, _, _]) [0, 1] 0 (kX4_readThing (o := o) (oa := oa) hk0 hk1 h32) rfl rfl rfl rfl rfl hk0 (Nat.le_of_ble_eq_true rfl) rfl rfl rfl wm_RX4_100 md_X4_readThing (Nat.le_of_ble_eq_true rfl) (Nat.le_of_ble_eq_true rfl) rfl rfl (Nat.le_of_ble_eq_true rfl) dX4_readLine_12 ?_
    replace hf := gd_some hf; obtain ⟨g33, hf⟩ := hf
    have hf2 := Option.some.inj hf; subst hf2
    exact V_zret (pc := 15) hF g33 dX4_readLine_15
set_option maxRecDepth 20000 in
theorem wX4_readFrom_l44 {G : Wc} {Γ : Cx} {o oa ob : Nat}  {r : Int32 × Ob × Ob × Ob} (hk0 : kd o = 4) (hk1 : kd oa = 8) (hk2 : kd ob = 6) (hF : Fnl G Γ (some .int) (some (.int r.1)) (ov Γ.2.2.2 [(o, r.2.1), (oa, r.2.2.1), (ob, r.2.2.2)])) : ∀ (n : Nat) {l3 : Int32} {S : Ob} {Sa : Ob} {Sb : Ob}, pX4_readFrom_l44   n l3 S Sa Sb = some r → V cX4_readFrom RX4 6 175 4 G Γ [(o, S), (oa, Sa), (ob, Sb)] 44 [(0, .ref (wA G o 0)), (1, .ref (wA G oa 0)), (2, .ref (wA G ob 0)), (3, .int l3)] [] := by
  intro n
  induction n with
  | zero => intro l3 S Sa Sb hf; unfold pX4_readFrom_l44 at hf; cases hf
  | succ n ih =>
    intro l3 S Sa Sb hf
    have hrec : ∀ {l3 : Int32} {S : Ob} {Sa : Ob} {Sb : Ob}, pX4_readFrom_l44   n l3 S Sa Sb = some r → V cX4_readFrom RX4 6 175 4 G Γ [(o, S), (oa, Sa), (ob, Sb)] 44 [(0, .ref (wA G o 0)), (1, .ref (wA G oa 0)), (2, .ref (wA G ob 0)), (3, .int l3)] [] := fun h => ih h
    clear ih
    unfold pX4_readFrom_l44 at hf
    refine v_aload_n (pc := 44) 1 dX4_readFrom_44 rfl ?_
    refine gf_RX4_80 (pc := 45) 1 rfl hk1 dX4_readFrom_45 ?_
    refine v_if_eq (pc := 48) 84 dX4_readFrom_48 (by decide) (fun c5 => ?_) (fun c5 => ?_)
    · replace hf := it_t c5 hf
      refine v_iload_n (pc := 84) 3 dX4_readFrom_84 rfl ?_
      have hf2 := Option.some.inj hf; subst hf2
      exact V_iret (pc := 85) hF dX4_readFrom_85
    · replace hf := it_f c5 hf
      refine v_iload_n (pc := 51) 3 dX4_readFrom_51 rfl ?_
      refine v_sipush (pc := 52) (900 : Int32) dX4_readFrom_52 cs_900 ?_
      refine v_icmp_ge (pc := 55) 84 dX4_readFrom_55 (by decide) (fun c6 => ?_) (fun c6 => ?_)
      · replace hf := it_t c6 hf
        refine v_iload_n (pc := 84) 3 dX4_readFrom_84 rfl ?_
        have hf2 := Option.some.inj hf; subst hf2
        exact V_iret (pc := 85) hF dX4_readFrom_85
      · replace hf := it_f c6 hf
        refine v_aload_n (pc := 58) 0 dX4_readFrom_58 rfl ?_
        refine v_aload_n (pc := 59) 1 dX4_readFrom_59 rfl ?_
        refine v_aload_n (pc := 60) 2 dX4_readFrom_60 rfl ?_
        replace hf := bd_some hf; obtain ⟨r7, h8, hf⟩ := hf
        refine V_call (pc := 61) (us1 := [_, _, _]) [0, 1, 2] 0 (kX4_readLine (o := o) (oa := oa) (ob := ob) hk0 hk1 hk2 h8) rfl rfl rfl rfl rfl hk0 (Nat.le_of_ble_eq_true rfl) rfl rfl rfl wm_RX4_83 md_X4_readLine (Nat.le_of_ble_eq_true rfl) (Nat.le_of_ble_eq_true rfl) rfl rfl (Nat.le_of_ble_eq_true rfl) dX4_readFrom_61 ?_
        refine v_if_eq (pc := 64) 76 dX4_readFrom_64 (by decide) (fun c9 => ?_) (fun c9 => ?_)
        · replace hf := it_t c9 hf
          refine v_iconst (pc := 76) (-1 : Int32) dX4_readFrom_76 ci_m1 ?_
          have hf2 := Option.some.inj hf; subst hf2
          exact V_iret (pc := 77) hF dX4_readFrom_77
        · replace hf := it_f c9 hf
          refine v_aload_n (pc := 67) 1 dX4_readFrom_67 rfl ?_
          refine v_bipush (pc := 68) (59 : Int32) dX4_readFrom_68 cb_59 ?_
          replace hf := bd_some hf; obtain ⟨r10, h11, hf⟩ := hf
          refine V_call (pc := 70) (us1 := [_, _, _]) [1] 1 (kX8_takeSign (o := oa) hk1 h11) rfl rfl rfl rfl rfl hk1 (Nat.le_of_ble_eq_true rfl) rfl rfl rfl wm_RX4_87 md_X8_takeSign (Nat.le_of_ble_eq_true rfl) (Nat.le_of_ble_eq_true rfl) rfl rfl (Nat.le_of_ble_eq_true rfl) dX4_readFrom_70 ?_
          refine v_if_ne (pc := 73) 78 dX4_readFrom_73 (by decide) (fun c12 => ?_) (fun c12 => ?_)
          · replace hf := it_f c12 hf
            refine v_iinc (pc := 78) 3 (l3 + (1 : Int32)) [(3, _), (0, _), (1, _), (2, _)] dX4_readFrom_78 rfl (congrArg (fun z => _ + z) ci_1) (Nat.le_of_ble_eq_true rfl) rfl ?_
            refine v_goto (pc := 81) 44 dX4_readFrom_81 (by decide) ?_
            exact V_sub [1, 2, 3, 0] rfl (hrec hf)
          · replace hf := it_t c12 hf
            refine v_iconst (pc := 76) (-1 : Int32) dX4_readFrom_76 ci_m1 ?_
            have hf2 := Option.some.inj hf; subst hf2
            exact V_iret (pc := 77) hF dX4_readFrom_77
set_option maxRecDepth 20000 in
theorem kX4_readFrom {G : Wc} {o oa ob : Nat} {S : Ob} {Sa : Ob} {Sb : Ob}  {r : Int32 × Ob × Ob × Ob} (hk0 : kd o = 4) (hk1 : kd oa = 8) (hk2 : kd ob = 6) (hf : pX4_readFrom S Sa Sb   = some r) : Cn yX4_readFrom cX4_readFrom 4 (some .int) 6 175 G [.ref (wA G o 0), .ref (wA G oa 0), .ref (wA G ob 0)] [(o, S), (oa, Sa), (ob, Sb)] [(o, r.2.1), (oa, r.2.2.1), (ob, r.2.2.2)] (some (.int r.1)) := by
  refine V_method [(0, .ref (wA G o 0)), (1, .ref (wA G oa 0)), (2, .ref (wA G ob 0))] (by decide) rfl (Nat.le_of_ble_eq_true rfl) rfl (fun Γ hF => ?_)
  unfold pX4_readFrom at hf
  refine v_aload_n (pc := 0) 0 dX4_readFrom_0 rfl ?_
  refine v_iconst (pc := 1) (0 : Int32) dX4_readFrom_1 ci_0 ?_
  refine pf_RX4_47 (pc := 2) [_, _, _] 0 rfl hk0 rfl dX4_readFrom_2 ?_
  refine v_aload_n (pc := 5) 0 dX4_readFrom_5 rfl ?_
  refine v_iconst (pc := 6) (0 : Int32) dX4_readFrom_6 ci_0 ?_
  refine pf_RX4_56 (pc := 7) [_, _, _] 0 rfl hk0 rfl dX4_readFrom_7 ?_
  refine v_aload_n (pc := 10) 0 dX4_readFrom_10 rfl ?_
  refine v_iconst (pc := 11) (0 : Int32) dX4_readFrom_11 ci_0 ?_
  refine pf_RX4_59 (pc := 12) [_, _, _] 0 rfl hk0 rfl dX4_readFrom_12 ?_
  refine v_aload_n (pc := 15) 0 dX4_readFrom_15 rfl ?_
  refine v_iconst (pc := 16) (0 : Int32) dX4_readFrom_16 ci_0 ?_
  refine pf_RX4_62 (pc := 17) [_, _, _] 0 rfl hk0 rfl dX4_readFrom_17 ?_
  refine v_aload_n (pc := 20) 0 dX4_readFrom_20 rfl ?_
  refine v_bipush (pc := 21) (9 : Int32) dX4_readFrom_21 cb_9 ?_
  refine pf_RX4_43 (pc := 23) [_, _, _] 0 rfl hk0 rfl dX4_readFrom_23 ?_
  refine v_aload_n (pc := 26) 0 dX4_readFrom_26 rfl ?_
  refine v_iconst (pc := 27) (0 : Int32) dX4_readFrom_27 ci_0 ?_
  refine pf_RX4_65 (pc := 28) [_, _, _] 0 rfl hk0 rfl rfl dX4_readFrom_28 ?_
  refine v_aload_n (pc := 31) 2 dX4_readFrom_31 rfl ?_
  replace hf := bd_some hf; obtain ⟨r1, h2, hf⟩ := hf
  refine V_call (pc := 32) (us1 := [_, _, _]) [2] 2 (kX6_clear (o := ob) hk2 h2) rfl rfl rfl rfl rfl hk2 (Nat.le_of_ble_eq_true rfl) rfl rfl rfl wm_RX4_69 md_X6_clear (Nat.le_of_ble_eq_true rfl) (Nat.le_of_ble_eq_true rfl) rfl rfl (Nat.le_of_ble_eq_true rfl) dX4_readFrom_32 ?_
  refine v_aload_n (pc := 35) 1 dX4_readFrom_35 rfl ?_
  refine v_sipush (pc := 36) (900 : Int32) dX4_readFrom_36 cs_900 ?_
  replace hf := bd_some hf; obtain ⟨r3, h4, hf⟩ := hf
  refine V_call (pc := 39) (us1 := [_, _, _]) [1] 1 (kX8_open (o := oa) hk1 h4) rfl rfl rfl rfl rfl hk1 (Nat.le_of_ble_eq_true rfl) rfl rfl rfl wm_RX4_74 md_X8_open (Nat.le_of_ble_eq_true rfl) (Nat.le_of_ble_eq_true rfl) rfl rfl (Nat.le_of_ble_eq_true rfl) dX4_readFrom_39 ?_
  refine v_iconst (pc := 42) (0 : Int32) dX4_readFrom_42 ci_0 ?_
  refine v_istore_n (pc := 43) [(3, _), (0, _), (1, _), (2, _)] dX4_readFrom_43 (Nat.le_of_ble_eq_true rfl) rfl ?_
  exact V_sub [1, 2, 3, 0] rfl (wX4_readFrom_l44 hk0 hk1 hk2 hF fu hf)
set_option maxRecDepth 20000 in
theorem kX5_forget {G : Wc} {o : Nat} {S : Ob}  {r : Ob} (hk0 : kd o = 5) (hf : pX5_forget S   = some r) : Cn yX5_forget cX5_forget 1 (none) 1 60 G [.ref (wA G o 0)] [(o, S)] [(o, r)] none := by
  refine V_method [(0, .ref (wA G o 0))] (by decide) rfl (Nat.le_of_ble_eq_true rfl) rfl (fun Γ hF => ?_)
  unfold pX5_forget at hf
  refine v_aload_n (pc := 0) 0 dX5_forget_0 rfl ?_
  refine v_iconst (pc := 1) (0 : Int32) dX5_forget_1 ci_0 ?_
  refine pf_RX5_24 (pc := 2) [_] 0 rfl hk0 rfl dX5_forget_2 ?_
  refine v_aload_n (pc := 5) 0 dX5_forget_5 rfl ?_
  refine v_iconst (pc := 6) (0 : Int32) dX5_forget_6 ci_0 ?_
  refine pf_RX5_28 (pc := 7) [_] 0 rfl hk0 rfl dX5_forget_7 ?_
  have hf2 := Option.some.inj hf; subst hf2
  exact V_vret (pc := 10) hF dX5_forget_10
set_option maxRecDepth 20000 in
theorem kX5_addStep {G : Wc} {o : Nat} {S : Ob} {a : Option Nat} {b : Int32} {c : Int32} {r : Ob} (hk0 : kd o = 5) (hf : pX5_addStep S  a b c = some r) : Cn yX5_addStep cX5_addStep 4 (none) 1 60 G [.ref (wA G o 0), va_re (wE G) a, .int b, .int c] [(o, S)] [(o, r)] none := by
  refine V_method [(0, .ref (wA G o 0)), (1, va_re (wE G) a), (2, .int b), (3, .int c)] (by decide) rfl (by cases a <;> exact Nat.le_of_ble_eq_true rfl) (by cases a <;> rfl) (fun Γ hF => ?_)
  unfold pX5_addStep at hf
  refine v_aload_n (pc := 0) 0 dX5_addStep_0 rfl ?_
  refine gf_RX5_24 (pc := 1) 0 rfl hk0 dX5_addStep_1 ?_
  refine v_bipush (pc := 4) (40 : Int32) dX5_addStep_4 cb_40 ?_
  refine v_icmp_ge (pc := 6) 49 dX5_addStep_6 (by decide) (fun c1 => ?_) (fun c1 => ?_)
  · replace hf := it_t c1 hf
    have hf2 := Option.some.inj hf; subst hf2
    exact V_vret (pc := 49) hF dX5_addStep_49
  · replace hf := it_f c1 hf
    refine v_aload_n (pc := 9) 0 dX5_addStep_9 rfl ?_
    refine gf_RX5_13 (pc := 10) 0 rfl hk0 dX5_addStep_10 ?_
    refine v_aload_n (pc := 13) 0 dX5_addStep_13 rfl ?_
    refine gf_RX5_24 (pc := 14) 0 rfl hk0 dX5_addStep_14 ?_
    refine v_eload_n (pc := 17) 1 dX5_addStep_17 rfl ?_
    replace hf := gd_some hf; obtain ⟨g2, hf⟩ := hf
    replace hf := gd_some hf; obtain ⟨g3, hf⟩ := hf
    refine as_X5_0 (pc := 18) [_] _ 0 rfl hk0 rfl g3 g2 rfl dX5_addStep_18 ?_
    refine v_aload_n (pc := 19) 0 dX5_addStep_19 rfl ?_
    refine gf_RX5_17 (pc := 20) 0 rfl hk0 dX5_addStep_20 ?_
    refine v_aload_n (pc := 23) 0 dX5_addStep_23 rfl ?_
    refine gf_RX5_24 (pc := 24) 0 rfl hk0 dX5_addStep_24 ?_
    refine v_iload_n (pc := 27) 2 dX5_addStep_27 rfl ?_
    replace hf := gd_some hf; obtain ⟨g4, hf⟩ := hf
    refine as_X5_1 (pc := 28) [_] _ 0 rfl hk0 rfl g4 rfl dX5_addStep_28 ?_
    refine v_aload_n (pc := 29) 0 dX5_addStep_29 rfl ?_
    refine gf_RX5_21 (pc := 30) 0 rfl hk0 dX5_addStep_30 ?_
    refine v_aload_n (pc := 33) 0 dX5_addStep_33 rfl ?_
    refine gf_RX5_24 (pc := 34) 0 rfl hk0 dX5_addStep_34 ?_
    refine v_iload_n (pc := 37) 3 dX5_addStep_37 rfl ?_
    replace hf := gd_some hf; obtain ⟨g5, hf⟩ := hf
    refine as_X5_2 (pc := 38) [_] _ 0 rfl hk0 rfl g5 rfl dX5_addStep_38 ?_
    refine v_aload_n (pc := 39) 0 dX5_addStep_39 rfl ?_
    refine v_dup (pc := 40) dX5_addStep_40 rfl ?_
    refine gf_RX5_24 (pc := 41) 0 rfl hk0 dX5_addStep_41 ?_
    refine v_iconst (pc := 44) (1 : Int32) dX5_addStep_44 ci_1 ?_
    refine v_iadd (pc := 45) dX5_addStep_45 ?_
    refine pf_RX5_24 (pc := 46) [_] 0 rfl hk0 rfl dX5_addStep_46 ?_
    have hf2 := Option.some.inj hf; subst hf2
    exact V_vret (pc := 49) hF dX5_addStep_49
set_option maxRecDepth 20000 in
theorem kX5_isMeasured {G : Wc}  {a : Option Nat} {r : Int32}  (hf : pX5_isMeasured   a = some r) : Cn yX5_isMeasured cX5_isMeasured 1 (some .boolean) 1 60 G [va_re (wE G) a] [] [] (some (.int r)) := by
  refine V_method [(0, va_re (wE G) a)] (by decide) rfl (by cases a <;> exact Nat.le_of_ble_eq_true rfl) (by cases a <;> rfl) (fun Γ hF => ?_)
  unfold pX5_isMeasured at hf
  refine v_eload_n (pc := 0) 0 dX5_isMeasured_0 rfl ?_
  refine V_gete (pc := 1) 2 "CAUGHT" (by decide) rfl wf_RX5_109 dX5_isMeasured_1 ?_
  replace hf := gd_some hf; obtain ⟨g1, hf⟩ := hf
  refine v_acmp_eq (pc := 4) g1 rfl 28 dX5_isMeasured_4 (by decide) (fun c2 => ?_) (fun c2 => ?_)
  · replace hf := it_t c2 hf
    refine v_iconst (pc := 28) (1 : Int32) dX5_isMeasured_28 ci_1 ?_
    refine v_goto (pc := 29) 33 dX5_isMeasured_29 (by decide) ?_
    have hf2 := Option.some.inj hf; subst hf2
    exact V_zret (pc := 33) hF rfl dX5_isMeasured_33
  · replace hf := it_f c2 hf
    refine v_eload_n (pc := 7) 0 dX5_isMeasured_7 rfl ?_
    refine V_gete (pc := 8) 19 "KNOTS" (by decide) rfl wf_RX5_112 dX5_isMeasured_8 ?_
    replace hf := gd_some hf; obtain ⟨g3, hf⟩ := hf
    refine v_acmp_eq (pc := 11) g3 rfl 28 dX5_isMeasured_11 (by decide) (fun c4 => ?_) (fun c4 => ?_)
    · replace hf := it_t c4 hf
      refine v_iconst (pc := 28) (1 : Int32) dX5_isMeasured_28 ci_1 ?_
      refine v_goto (pc := 29) 33 dX5_isMeasured_29 (by decide) ?_
      have hf2 := Option.some.inj hf; subst hf2
      exact V_zret (pc := 33) hF rfl dX5_isMeasured_33
    · replace hf := it_f c4 hf
      refine v_eload_n (pc := 14) 0 dX5_isMeasured_14 rfl ?_
      refine V_gete (pc := 15) 20 "PAIN" (by decide) rfl wf_RX5_115 dX5_isMeasured_15 ?_
      replace hf := gd_some hf; obtain ⟨g5, hf⟩ := hf
      refine v_acmp_eq (pc := 18) g5 rfl 28 dX5_isMeasured_18 (by decide) (fun c6 => ?_) (fun c6 => ?_)
      · replace hf := it_t c6 hf
        refine v_iconst (pc := 28) (1 : Int32) dX5_isMeasured_28 ci_1 ?_
        refine v_goto (pc := 29) 33 dX5_isMeasured_29 (by decide) ?_
        have hf2 := Option.some.inj hf; subst hf2
        exact V_zret (pc := 33) hF rfl dX5_isMeasured_33
      · replace hf := it_f c6 hf
        refine v_eload_n (pc := 21) 0 dX5_isMeasured_21 rfl ?_
        refine V_gete (pc := 22) 21 "NUMBER" (by decide) rfl wf_RX5_118 dX5_isMeasured_22 ?_
        replace hf := gd_some hf; obtain ⟨g7, hf⟩ := hf
        refine v_acmp_ne (pc := 25) g7 rfl 32 dX5_isMeasured_25 (by decide) (fun c8 => ?_) (fun c8 => ?_)
        · replace hf := it_f c8 hf
          refine v_iconst (pc := 32) (0 : Int32) dX5_isMeasured_32 ci_0 ?_
          have hf2 := Option.some.inj hf; subst hf2
          exact V_zret (pc := 33) hF rfl dX5_isMeasured_33
        · replace hf := it_t c8 hf
          refine v_iconst (pc := 28) (1 : Int32) dX5_isMeasured_28 ci_1 ?_
          refine v_goto (pc := 29) 33 dX5_isMeasured_29 (by decide) ?_
          have hf2 := Option.some.inj hf; subst hf2
          exact V_zret (pc := 33) hF rfl dX5_isMeasured_33
set_option maxRecDepth 20000 in
theorem wX5_readPlain_j131 {G : Wc} {Γ : Cx} {o oa ob : Nat} {S : Ob} {Sa : Ob} {Sb : Ob} {l3 : Option Nat} {l4 : Int32} {r : Int32 × Ob × Ob} (hk0 : kd o = 5) (hk1 : kd oa = 8) (hk2 : kd ob = 4) (hF : Fnl G Γ (some .boolean) (some (.int r.1)) (ov Γ.2.2.2 [(o, r.2.1), (oa, r.2.2), (ob, Sb)])) (hf : pX5_readPlain_j131 S Sa Sb l3 l4 = some r) : V cX5_readPlain RX5 4 129 6 G Γ [(o, S), (oa, Sa), (ob, Sb)] 131 [(0, .ref (wA G o 0)), (1, .ref (wA G oa 0)), (3, va_re (wE G) l3), (4, .int l4)] [] := by
  unfold pX5_readPlain_j131 at hf
  refine v_aload_n (pc := 131) 1 dX5_readPlain_131 rfl ?_
  replace hf := bd_some hf; obtain ⟨r9, h10, hf⟩ := hf
  refine V_call (pc := 132) (us1 := [_, _, _]) [1] 1 (kX8_advance (o := oa) hk1 h10) rfl rfl rfl rfl rfl hk1 (Nat.le_of_ble_eq_true rfl) rfl rfl rfl wm_RX5_74 md_X8_advance (Nat.le_of_ble_eq_true rfl) (Nat.le_of_ble_eq_true rfl) rfl rfl (Nat.le_of_ble_eq_true rfl) dX5_readPlain_132 ?_
  refine v_aload_n (pc := 135) 1 dX5_readPlain_135 rfl ?_
  refine v_iconst (pc := 136) (0 : Int32) dX5_readPlain_136 ci_0 ?_
  refine v_sipush (pc := 137) (999 : Int32) dX5_readPlain_137 cs_999 ?_
  replace hf := bd_some hf; obtain ⟨r11, h12, hf⟩ := hf
  refine V_call (pc := 140) (us1 := [_, _, _]) [1] 1 (kX8_takeNumber (o := oa) hk1 h12) rfl rfl rfl rfl rfl hk1 (Nat.le_of_ble_eq_true rfl) rfl rfl rfl wm_RX5_140 md_X8_takeNumber (Nat.le_of_ble_eq_true rfl) (Nat.le_of_ble_eq_true rfl) rfl rfl (Nat.le_of_ble_eq_true rfl) dX5_readPlain_140 ?_
  refine v_istore (pc := 143) [(5, _), (0, _), (1, _), (3, _), (4, _)] dX5_readPlain_143 (Nat.le_of_ble_eq_true rfl) rfl ?_
  refine v_aload_n (pc := 145) 1 dX5_readPlain_145 rfl ?_
  refine v_eload_n (pc := 146) 3 dX5_readPlain_146 rfl ?_
  refine v_iload (pc := 147) 4 dX5_readPlain_147 rfl ?_
  refine v_iload (pc := 149) 0 dX5_readPlain_149 rfl ?_
  replace hf := bd_some hf; obtain ⟨r13, h14, hf⟩ := hf
  refine V_call (pc := 151) (us1 := [_, _, _]) [0] 0 (kX5_addStep (o := o) hk0 h14) rfl rfl rfl rfl rfl hk0 (Nat.le_of_ble_eq_true rfl) rfl rfl rfl wm_RX5_70 md_X5_addStep (Nat.le_of_ble_eq_true rfl) (Nat.le_of_ble_eq_true rfl) rfl rfl (Nat.le_of_ble_eq_true rfl) dX5_readPlain_151 ?_
  refine v_iload (pc := 154) 0 dX5_readPlain_154 rfl ?_
  refine v_iconst (pc := 156) (-1 : Int32) dX5_readPlain_156 ci_m1 ?_
  refine v_icmp_eq (pc := 157) 164 dX5_readPlain_157 (by decide) (fun c15 => ?_) (fun c15 => ?_)
  · replace hf := it_t c15 hf
    refine v_iconst (pc := 164) (0 : Int32) dX5_readPlain_164 ci_0 ?_
    have hf2 := Option.some.inj hf; subst hf2
    exact V_zret (pc := 165) hF rfl dX5_readPlain_165
  · replace hf := it_f c15 hf
    refine v_iconst (pc := 160) (1 : Int32) dX5_readPlain_160 ci_1 ?_
    refine v_goto (pc := 161) 165 dX5_readPlain_161 (by decide) ?_
    have hf2 := Option.some.inj hf; subst hf2
    exact V_zret (pc := 165) hF rfl dX5_readPlain_165
set_option maxRecDepth 20000 in
theorem kX5_readPlain {G : Wc} {o oa ob : Nat} {S : Ob} {Sa : Ob} {Sb : Ob} {c : Option Nat} {r : Int32 × Ob × Ob} (hk0 : kd o = 5) (hk1 : kd oa = 8) (hk2 : kd ob = 4) (hf : pX5_readPlain S Sa Sb  c = some r) : Cn yX5_readPlain cX5_readPlain 6 (some .boolean) 4 129 G [.ref (wA G o 0), .ref (wA G oa 0), .ref (wA G ob 0), va_re (wE G) c] [(o, S), (oa, Sa), (ob, Sb)] [(o, r.2.1), (oa, r.2.2), (ob, Sb)] (some (.int r.1)) := by
  refine V_method [(0, .ref (wA G o 0)), (1, .ref (wA G oa 0)), (2, .ref (wA G ob 0)), (3, va_re (wE G) c)] (by decide) rfl (by cases c <;> exact Nat.le_of_ble_eq_true rfl) (by cases c <;> rfl) (fun Γ hF => ?_)
  unfold pX5_readPlain at hf
  refine v_eload_n (pc := 0) 3 dX5_readPlain_0 rfl ?_
  refine V_gete (pc := 1) 17 "HAS" (by decide) rfl wf_RX5_100 dX5_readPlain_1 ?_
  replace hf := gd_some hf; obtain ⟨g1, hf⟩ := hf
  refine v_acmp_ne (pc := 4) g1 rfl 41 dX5_readPlain_4 (by decide) (fun c2 => ?_) (fun c2 => ?_)
  · replace hf := it_f c2 hf
    refine v_eload_n (pc := 41) 3 dX5_readPlain_41 rfl ?_
    refine V_gete (pc := 42) 18 "LIKE" (by decide) rfl wf_RX5_103 dX5_readPlain_42 ?_
    replace hf := gd_some hf; obtain ⟨g3, hf⟩ := hf
    refine v_acmp_ne (pc := 45) g3 rfl 82 dX5_readPlain_45 (by decide) (fun c4 => ?_) (fun c4 => ?_)
    · replace hf := it_f c4 hf
      refine v_eload_n (pc := 82) 3 dX5_readPlain_82 rfl ?_
      replace hf := bd_some hf; obtain ⟨r5, h6, hf⟩ := hf
      refine V_callS (pc := 83) (us1 := [_, _, _]) [] (kX5_isMeasured  h6) rfl rfl rfl rfl wm_RX5_106 md_X5_isMeasured (Nat.le_of_ble_eq_true rfl) (Nat.le_of_ble_eq_true rfl) rfl rfl (Nat.le_of_ble_eq_true rfl) dX5_readPlain_83 ?_
      refine v_if_ne (pc := 86) 98 dX5_readPlain_86 (by decide) (fun c7 => ?_) (fun c7 => ?_)
      · replace hf := it_f c7 hf
        refine v_aload_n (pc := 98) 1 dX5_readPlain_98 rfl ?_
        refine gf_RX5_50 (pc := 99) 1 rfl hk1 dX5_readPlain_99 ?_
        refine v_istore (pc := 102) [(4, .int (oI Sa 4)), (0, .ref (wA G o 0)), (1, .ref (wA G oa 0)), (2, .ref (wA G ob 0)), (3, va_re (wE G) c)] dX5_readPlain_102 (Nat.le_of_ble_eq_true rfl) (by generalize c = z9; cases z9 <;> rfl) ?_
        refine v_iload (pc := 104) 0 dX5_readPlain_104 rfl ?_
        refine v_bipush (pc := 106) (60 : Int32) dX5_readPlain_106 cb_60 ?_
        refine v_icmp_eq (pc := 108) 131 dX5_readPlain_108 (by decide) (fun c8 => ?_) (fun c8 => ?_)
        · replace hf := it_t c8 hf
          exact V_sub [1, 2, 4, 0] rfl (wX5_readPlain_j131 hk0 hk1 hk2 hF hf)
        · replace hf := it_f c8 hf
          refine v_iload (pc := 111) 0 dX5_readPlain_111 rfl ?_
          refine v_bipush (pc := 113) (61 : Int32) dX5_readPlain_113 cb_61 ?_
          refine v_icmp_eq (pc := 115) 131 dX5_readPlain_115 (by decide) (fun c16 => ?_) (fun c16 => ?_)
          · replace hf := it_t c16 hf
            exact V_sub [1, 2, 4, 0] rfl (wX5_readPlain_j131 hk0 hk1 hk2 hF hf)
          · replace hf := it_f c16 hf
            refine v_iload (pc := 118) 0 dX5_readPlain_118 rfl ?_
            refine v_bipush (pc := 120) (62 : Int32) dX5_readPlain_120 cb_62 ?_
            refine v_icmp_eq (pc := 122) 131 dX5_readPlain_122 (by decide) (fun c17 => ?_) (fun c17 => ?_)
            · replace hf := it_t c17 hf
              exact V_sub [1, 2, 4, 0] rfl (wX5_readPlain_j131 hk0 hk1 hk2 hF hf)
            · replace hf := it_f c17 hf
              refine v_aload_n (pc := 125) 2 dX5_readPlain_125 rfl ?_
              refine v_iconst (pc := 126) (1 : Int32) dX5_readPlain_126 ci_1 ?_
              replace hf := bd_some hf; obtain ⟨r18, h19, hf⟩ := hf
              refine V_call (pc := 127) (us1 := [_, _, _]) [1] 1 (kX8_refuse (o := oa) hk1 h19) rfl rfl rfl rfl rfl hk1 (Nat.le_of_ble_eq_true rfl) rfl rfl rfl wm_RX5_53 md_X8_refuse (Nat.le_of_ble_eq_true rfl) (Nat.le_of_ble_eq_true rfl) rfl rfl (Nat.le_of_ble_eq_true rfl) dX5_readPlain_127 ?_
              replace hf := gd_some hf; obtain ⟨g20, hf⟩ := hf
              have hf2 := Option.some.inj hf; subst hf2
              exact V_zret (pc := 130) hF g20 dX5_readPlain_130
      · replace hf := it_t c7 hf
        refine v_aload_n (pc := 89) 0 dX5_readPlain_89 rfl ?_
        refine v_eload_n (pc := 90) 3 dX5_readPlain_90 rfl ?_
        refine v_iconst (pc := 91) (0 : Int32) dX5_readPlain_91 ci_0 ?_
        refine v_iconst (pc := 92) (0 : Int32) dX5_readPlain_92 ci_0 ?_
        replace hf := bd_some hf; obtain ⟨r21, h22, hf⟩ := hf
        refine V_call (pc := 93) (us1 := [_, _, _]) [0] 0 (kX5_addStep (o := o) hk0 h22) rfl rfl rfl rfl rfl hk0 (Nat.le_of_ble_eq_true rfl) rfl rfl rfl wm_RX5_70 md_X5_addStep (Nat.le_of_ble_eq_true rfl) (Nat.le_of_ble_eq_true rfl) rfl rfl (Nat.le_of_ble_eq_true rfl) dX5_readPlain_93 ?_
        refine v_iconst (pc := 96) (1 : Int32) dX5_readPlain_96 ci_1 ?_
        have hf2 := Option.some.inj hf; subst hf2
        exact V_zret (pc := 97) hF rfl dX5_readPlain_97
    · replace hf := it_t c4 hf
      refine v_aload_n (pc := 48) 1 dX5_readPlain_48 rfl ?_
      refine v_aload_n (pc := 49) 2 dX5_readPlain_49 rfl ?_
      refine gf_RX5_134 (pc := 50) 2 rfl hk2 dX5_readPlain_50 ?_
      refine v_aload_n (pc := 53) 2 dX5_readPlain_53 rfl ?_
      refine gf_RX5_137 (pc := 54) 2 rfl hk2 dX5_readPlain_54 ?_
      replace hf := bd_some hf; obtain ⟨r23, h24, hf⟩ := hf
      refine V_call (pc := 57) (us1 := [_, _, _]) [1, 2] 1 (kX8_takeName (o := oa) (au := ob) hk1 hk2 (Nat.le_of_ble_eq_true rfl) (rfl : _[4]? = _) h24) rfl rfl rfl rfl rfl hk1 (Nat.le_of_ble_eq_true rfl) rfl rfl rfl wm_RX5_130 md_X8_takeName (Nat.le_of_ble_eq_true rfl) (Nat.le_of_ble_eq_true rfl) rfl rfl (Nat.le_of_ble_eq_true rfl) dX5_readPlain_57 ?_
      refine v_istore (pc := 60) [(4, .int r23.1), (0, .ref (wA G o 0)), (1, .ref (wA G oa 0)), (2, .ref (wA G ob 0)), (3, va_re (wE G) c)] dX5_readPlain_60 (Nat.le_of_ble_eq_true rfl) (by generalize c = z9; cases z9 <;> rfl) ?_
      refine v_aload_n (pc := 62) 1 dX5_readPlain_62 rfl ?_
      refine v_eload_n (pc := 63) 4 dX5_readPlain_63 rfl ?_
      refine v_iconst (pc := 64) (0 : Int32) dX5_readPlain_64 ci_0 ?_
      refine v_iload (pc := 65) 0 dX5_readPlain_65 rfl ?_
      replace hf := bd_some hf; obtain ⟨r25, h26, hf⟩ := hf
      refine V_call (pc := 67) (us1 := [_, _, _]) [0] 0 (kX5_addStep (o := o) hk0 h26) rfl rfl rfl rfl rfl hk0 (Nat.le_of_ble_eq_true rfl) rfl rfl rfl wm_RX5_70 md_X5_addStep (Nat.le_of_ble_eq_true rfl) (Nat.le_of_ble_eq_true rfl) rfl rfl (Nat.le_of_ble_eq_true rfl) dX5_readPlain_67 ?_
      refine v_iload (pc := 70) 0 dX5_readPlain_70 rfl ?_
      refine v_iconst (pc := 72) (-1 : Int32) dX5_readPlain_72 ci_m1 ?_
      refine v_icmp_eq (pc := 73) 80 dX5_readPlain_73 (by decide) (fun c27 => ?_) (fun c27 => ?_)
      · replace hf := it_t c27 hf
        refine v_iconst (pc := 80) (0 : Int32) dX5_readPlain_80 ci_0 ?_
        have hf2 := Option.some.inj hf; subst hf2
        exact V_zret (pc := 81) hF rfl dX5_readPlain_81
      · replace hf := it_f c27 hf
        refine v_iconst (pc := 76) (1 : Int32) dX5_readPlain_76 ci_1 ?_
        refine v_goto (pc := 77) 81 dX5_readPlain_77 (by decide) ?_
        have hf2 := Option.some.inj hf; subst hf2
        exact V_zret (pc := 81) hF rfl dX5_readPlain_81
  · replace hf := it_t c2 hf
    refine v_aload_n (pc := 7) 1 dX5_readPlain_7 rfl ?_
    refine v_aload_n (pc := 8) 2 dX5_readPlain_8 rfl ?_
    refine gf_RX5_121 (pc := 9) 2 rfl hk2 dX5_readPlain_9 ?_
    refine v_aload_n (pc := 12) 2 dX5_readPlain_12 rfl ?_
    refine gf_RX5_127 (pc := 13) 2 rfl hk2 dX5_readPlain_13 ?_
    replace hf := bd_some hf; obtain ⟨r28, h29, hf⟩ := hf
    refine V_call (pc := 16) (us1 := [_, _, _]) [1, 2] 1 (kX8_takeName (o := oa) (au := ob) hk1 hk2 (Nat.le_of_ble_eq_true rfl) (rfl : _[1]? = _) h29) rfl rfl rfl rfl rfl hk1 (Nat.le_of_ble_eq_true rfl) rfl rfl rfl wm_RX5_130 md_X8_takeName (Nat.le_of_ble_eq_true rfl) (Nat.le_of_ble_eq_true rfl) rfl rfl (Nat.le_of_ble_eq_true rfl) dX5_readPlain_16 ?_
    refine v_istore (pc := 19) [(4, .int r28.1), (0, .ref (wA G o 0)), (1, .ref (wA G oa 0)), (2, .ref (wA G ob 0)), (3, va_re (wE G) c)] dX5_readPlain_19 (Nat.le_of_ble_eq_true rfl) (by generalize c = z9; cases z9 <;> rfl) ?_
    refine v_aload_n (pc := 21) 1 dX5_readPlain_21 rfl ?_
    refine v_eload_n (pc := 22) 4 dX5_readPlain_22 rfl ?_
    refine v_iconst (pc := 23) (0 : Int32) dX5_readPlain_23 ci_0 ?_
    refine v_iload (pc := 24) 0 dX5_readPlain_24 rfl ?_
    replace hf := bd_some hf; obtain ⟨r30, h31, hf⟩ := hf
    refine V_call (pc := 26) (us1 := [_, _, _]) [0] 0 (kX5_addStep (o := o) hk0 h31) rfl rfl rfl rfl rfl hk0 (Nat.le_of_ble_eq_true rfl) rfl rfl rfl wm_RX5_70 md_X5_addStep (Nat.le_of_ble_eq_true rfl) (Nat.le_of_ble_eq_true rfl) rfl rfl (Nat.le_of_ble_eq_true rfl) dX5_readPlain_26 ?_
    refine v_iload (pc := 29) 0 dX5_readPlain_29 rfl ?_
    refine v_iconst (pc := 31) (-1 : Int32) dX5_readPlain_31 ci_m1 ?_
    refine v_icmp_eq (pc := 32) 39 dX5_readPlain_32 (by decide) (fun c32 => ?_) (fun c32 => ?_)
    · replace hf := it_t c32 hf
      refine v_iconst (pc := 39) (0 : Int32) dX5_readPlain_39 ci_0 ?_
      have hf2 := Option.some.inj hf; subst hf2
      exact V_zret (pc := 40) hF rfl dX5_readPlain_40
    · replace hf := it_f c32 hf
      refine v_iconst (pc := 35) (1 : Int32) dX5_readPlain_35 ci_1 ?_
      refine v_goto (pc := 36) 40 dX5_readPlain_36 (by decide) ?_
      have hf2 := Option.some.inj hf; subst hf2
      exact V_zret (pc := 40) hF rfl dX5_readPlain_40
set_option maxRecDepth 20000 in
theorem kX5_beginsOne {G : Wc}  {a : Option Nat} {r : Int32}  (hf : pX5_beginsOne   a = some r) : Cn yX5_beginsOne cX5_beginsOne 1 (some .boolean) 2 80 G [va_re (wE G) a] [] [] (some (.int r)) := by
  refine V_method [(0, va_re (wE G) a)] (by decide) rfl (by cases a <;> exact Nat.le_of_ble_eq_true rfl) (by cases a <;> rfl) (fun Γ hF => ?_)
  unfold pX5_beginsOne at hf
  refine v_eload_n (pc := 0) 0 dX5_beginsOne_0 rfl ?_
  refine V_gete (pc := 1) 13 "NOT" (by decide) rfl wf_RX5_84 dX5_beginsOne_1 ?_
  replace hf := gd_some hf; obtain ⟨g1, hf⟩ := hf
  refine v_acmp_eq (pc := 4) g1 rfl 49 dX5_beginsOne_4 (by decide) (fun c2 => ?_) (fun c2 => ?_)
  · replace hf := it_t c2 hf
    refine v_iconst (pc := 49) (1 : Int32) dX5_beginsOne_49 ci_1 ?_
    refine v_goto (pc := 50) 54 dX5_beginsOne_50 (by decide) ?_
    have hf2 := Option.some.inj hf; subst hf2
    exact V_zret (pc := 54) hF rfl dX5_beginsOne_54
  · replace hf := it_f c2 hf
    refine v_eload_n (pc := 7) 0 dX5_beginsOne_7 rfl ?_
    refine V_gete (pc := 8) 14 "BARE" (by decide) rfl wf_RX5_91 dX5_beginsOne_8 ?_
    replace hf := gd_some hf; obtain ⟨g3, hf⟩ := hf
    refine v_acmp_eq (pc := 11) g3 rfl 49 dX5_beginsOne_11 (by decide) (fun c4 => ?_) (fun c4 => ?_)
    · replace hf := it_t c4 hf
      refine v_iconst (pc := 49) (1 : Int32) dX5_beginsOne_49 ci_1 ?_
      refine v_goto (pc := 50) 54 dX5_beginsOne_50 (by decide) ?_
      have hf2 := Option.some.inj hf; subst hf2
      exact V_zret (pc := 54) hF rfl dX5_beginsOne_54
    · replace hf := it_f c4 hf
      refine v_eload_n (pc := 14) 0 dX5_beginsOne_14 rfl ?_
      refine V_gete (pc := 15) 15 "NEST" (by decide) rfl wf_RX5_94 dX5_beginsOne_15 ?_
      replace hf := gd_some hf; obtain ⟨g5, hf⟩ := hf
      refine v_acmp_eq (pc := 18) g5 rfl 49 dX5_beginsOne_18 (by decide) (fun c6 => ?_) (fun c6 => ?_)
      · replace hf := it_t c6 hf
        refine v_iconst (pc := 49) (1 : Int32) dX5_beginsOne_49 ci_1 ?_
        refine v_goto (pc := 50) 54 dX5_beginsOne_50 (by decide) ?_
        have hf2 := Option.some.inj hf; subst hf2
        exact V_zret (pc := 54) hF rfl dX5_beginsOne_54
      · replace hf := it_f c6 hf
        refine v_eload_n (pc := 21) 0 dX5_beginsOne_21 rfl ?_
        refine V_gete (pc := 22) 16 "SORE" (by decide) rfl wf_RX5_97 dX5_beginsOne_22 ?_
        replace hf := gd_some hf; obtain ⟨g7, hf⟩ := hf
        refine v_acmp_eq (pc := 25) g7 rfl 49 dX5_beginsOne_25 (by decide) (fun c8 => ?_) (fun c8 => ?_)
        · replace hf := it_t c8 hf
          refine v_iconst (pc := 49) (1 : Int32) dX5_beginsOne_49 ci_1 ?_
          refine v_goto (pc := 50) 54 dX5_beginsOne_50 (by decide) ?_
          have hf2 := Option.some.inj hf; subst hf2
          exact V_zret (pc := 54) hF rfl dX5_beginsOne_54
        · replace hf := it_f c8 hf
          refine v_eload_n (pc := 28) 0 dX5_beginsOne_28 rfl ?_
          refine V_gete (pc := 29) 17 "HAS" (by decide) rfl wf_RX5_100 dX5_beginsOne_29 ?_
          replace hf := gd_some hf; obtain ⟨g9, hf⟩ := hf
          refine v_acmp_eq (pc := 32) g9 rfl 49 dX5_beginsOne_32 (by decide) (fun c10 => ?_) (fun c10 => ?_)
          · replace hf := it_t c10 hf
            refine v_iconst (pc := 49) (1 : Int32) dX5_beginsOne_49 ci_1 ?_
            refine v_goto (pc := 50) 54 dX5_beginsOne_50 (by decide) ?_
            have hf2 := Option.some.inj hf; subst hf2
            exact V_zret (pc := 54) hF rfl dX5_beginsOne_54
          · replace hf := it_f c10 hf
            refine v_eload_n (pc := 35) 0 dX5_beginsOne_35 rfl ?_
            refine V_gete (pc := 36) 18 "LIKE" (by decide) rfl wf_RX5_103 dX5_beginsOne_36 ?_
            replace hf := gd_some hf; obtain ⟨g11, hf⟩ := hf
            refine v_acmp_eq (pc := 39) g11 rfl 49 dX5_beginsOne_39 (by decide) (fun c12 => ?_) (fun c12 => ?_)
            · replace hf := it_t c12 hf
              refine v_iconst (pc := 49) (1 : Int32) dX5_beginsOne_49 ci_1 ?_
              refine v_goto (pc := 50) 54 dX5_beginsOne_50 (by decide) ?_
              have hf2 := Option.some.inj hf; subst hf2
              exact V_zret (pc := 54) hF rfl dX5_beginsOne_54
            · replace hf := it_f c12 hf
              refine v_eload_n (pc := 42) 0 dX5_beginsOne_42 rfl ?_
              replace hf := bd_some hf; obtain ⟨r13, h14, hf⟩ := hf
              refine V_callS (pc := 43) (us1 := []) [] (kX5_isMeasured  h14) rfl rfl rfl rfl wm_RX5_106 md_X5_isMeasured (Nat.le_of_ble_eq_true rfl) (Nat.le_of_ble_eq_true rfl) rfl rfl (Nat.le_of_ble_eq_true rfl) dX5_beginsOne_43 ?_
              refine v_if_eq (pc := 46) 53 dX5_beginsOne_46 (by decide) (fun c15 => ?_) (fun c15 => ?_)
              · replace hf := it_t c15 hf
                refine v_iconst (pc := 53) (0 : Int32) dX5_beginsOne_53 ci_0 ?_
                have hf2 := Option.some.inj hf; subst hf2
                exact V_zret (pc := 54) hF rfl dX5_beginsOne_54
              · replace hf := it_f c15 hf
                refine v_iconst (pc := 49) (1 : Int32) dX5_beginsOne_49 ci_1 ?_
                refine v_goto (pc := 50) 54 dX5_beginsOne_50 (by decide) ?_
                have hf2 := Option.some.inj hf; subst hf2
                exact V_zret (pc := 54) hF rfl dX5_beginsOne_54
