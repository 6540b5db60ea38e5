set_option maxRecDepth 20000 in
theorem wX11_sleptOn_l4 {G : Wc} {Γ : Cx} {o : Nat} {S : Ob} (hk0 : kd o = 10) : ∀ (n : Nat) {l1 : Int32} {l2 : Int32} {r : Int32}, pX11_sleptOn_l4  S n l1 l2 = some r → V cX11_sleptOn RX11 2 81 3 G Γ [(o, S)] 38 [(1, .int r)] [] → V cX11_sleptOn RX11 2 81 3 G Γ [(o, S)] 4 [(0, .ref (wA G o 0)), (1, .int l1), (2, .int l2)] [] := by
  intro n
  induction n with
  | zero => intro l1 l2 r hf hx; unfold pX11_sleptOn_l4 at hf; cases hf
  | succ n ih =>
    intro l1 l2 r hf hx
    have hrec : ∀ {l1 : Int32} {l2 : Int32}, pX11_sleptOn_l4  S n l1 l2 = some r → V cX11_sleptOn RX11 2 81 3 G Γ [(o, S)] 4 [(0, .ref (wA G o 0)), (1, .int l1), (2, .int l2)] [] := fun h => ih h hx
    clear ih
    unfold pX11_sleptOn_l4 at hf
    refine v_iload_n (pc := 4) 2 dX11_sleptOn_4 rfl ?_
    refine v_aload_n (pc := 5) 0 dX11_sleptOn_5 rfl ?_
    refine gf_RX11_33 (pc := 6) 0 rfl hk0 dX11_sleptOn_6 ?_
    refine v_iconst (pc := 9) (3 : Int32) dX11_sleptOn_9 ci_3 ?_
    refine al_X11_6 (pc := 10) 3 0 rfl hk0 rfl ib_3_390 dX11_sleptOn_10 ?_
    refine v_icmp_ge (pc := 11) 38 dX11_sleptOn_11 (by decide) (fun c1 => ?_) (fun c1 => ?_)
    · replace hf := it_t c1 hf
      have hf2 := Option.some.inj hf; subst hf2
      exact V_sub [1] rfl hx
    · replace hf := it_f c1 hf
      refine v_iload_n (pc := 14) 1 dX11_sleptOn_14 rfl ?_
      refine v_aload_n (pc := 15) 0 dX11_sleptOn_15 rfl ?_
      refine v_iload_n (pc := 16) 2 dX11_sleptOn_16 rfl ?_
      replace hf := bd_some hf; obtain ⟨r2, h3, hf⟩ := hf
      refine V_call (pc := 17) (us1 := [_]) [0] 0 (kX11_isSlept (o := o) hk0 h3) rfl rfl rfl rfl rfl hk0 (Nat.le_of_ble_eq_true rfl) rfl rfl rfl wm_RX11_251 md_X11_isSlept (Nat.le_of_ble_eq_true rfl) (Nat.le_of_ble_eq_true rfl) rfl rfl (Nat.le_of_ble_eq_true rfl) dX11_sleptOn_17 ?_
      refine v_if_eq (pc := 20) 29 dX11_sleptOn_20 (by decide) (fun c4 => ?_) (fun c4 => ?_)
      · replace hf := it_t c4 hf
        refine v_iconst (pc := 29) (0 : Int32) dX11_sleptOn_29 ci_0 ?_
        refine v_ior (pc := 30) dX11_sleptOn_30 ?_
        refine v_istore_n (pc := 31) [(1, _), (0, _), (2, _)] dX11_sleptOn_31 (Nat.le_of_ble_eq_true rfl) rfl ?_
        refine v_iinc (pc := 32) 2 (l2 + (1 : Int32)) [(2, _), (1, _), (0, _)] dX11_sleptOn_32 rfl (congrArg (fun z => _ + z) ci_1) (Nat.le_of_ble_eq_true rfl) rfl ?_
        refine v_goto (pc := 35) 4 dX11_sleptOn_35 (by decide) ?_
        exact V_sub [2, 1, 0] rfl (hrec hf)
      · replace hf := it_f c4 hf
        refine v_iconst (pc := 23) (1 : Int32) dX11_sleptOn_23 ci_1 ?_
        refine v_iload_n (pc := 24) 2 dX11_sleptOn_24 rfl ?_
        refine v_ishl (pc := 25) dX11_sleptOn_25 ?_
        refine v_goto (pc := 26) 30 dX11_sleptOn_26 (by decide) ?_
        refine v_ior (pc := 30) dX11_sleptOn_30 ?_
        refine v_istore_n (pc := 31) [(1, _), (0, _), (2, _)] dX11_sleptOn_31 (Nat.le_of_ble_eq_true rfl) rfl ?_
        refine v_iinc (pc := 32) 2 (l2 + (1 : Int32)) [(2, _), (1, _), (0, _)] dX11_sleptOn_32 rfl (congrArg (fun z => _ + z) ci_1) (Nat.le_of_ble_eq_true rfl) rfl ?_
        refine v_goto (pc := 35) 4 dX11_sleptOn_35 (by decide) ?_
        exact V_sub [2, 1, 0] rfl (hrec hf)
set_option maxRecDepth 20000 in
theorem kX11_sleptOn {G : Wc} {o : Nat} {S : Ob}  {r : Int32} (hk0 : kd o = 10) (hf : pX11_sleptOn S   = some r) : Cn yX11_sleptOn cX11_sleptOn 3 (some .int) 2 81 G [.ref (wA G o 0)] [(o, S)] [(o, S)] (some (.int r)) := by
  refine V_method [(0, .ref (wA G o 0))] (by decide) rfl (Nat.le_of_ble_eq_true rfl) rfl (fun Γ hF => ?_)
  unfold pX11_sleptOn at hf
  refine v_iconst (pc := 0) (0 : Int32) dX11_sleptOn_0 ci_0 ?_
  refine v_istore_n (pc := 1) [(1, _), (0, _)] dX11_sleptOn_1 (Nat.le_of_ble_eq_true rfl) rfl ?_
  refine v_iconst (pc := 2) (0 : Int32) dX11_sleptOn_2 ci_0 ?_
  refine v_istore_n (pc := 3) [(2, _), (1, _), (0, _)] dX11_sleptOn_3 (Nat.le_of_ble_eq_true rfl) rfl ?_
  replace hf := bd_some hf; obtain ⟨r5, h6, hf⟩ := hf
  refine V_sub [2, 1, 0] rfl (wX11_sleptOn_l4 hk0 fu h6 ?_)
  refine v_iload_n (pc := 38) 0 dX11_sleptOn_38 rfl ?_
  have hf2 := Option.some.inj hf; subst hf2
  exact V_iret (pc := 39) hF dX11_sleptOn_39
set_option maxRecDepth 20000 in
theorem wX11_stillOf_l37 {G : Wc} {Γ : Cx} {o : Nat} {S : Ob} {l1 : Int32} {l3 : Int32} (hk0 : kd o = 10) : ∀ (n : Nat) {l2 : Int32} {l4 : Int32} {r : Int32}, pX11_stillOf_l37  S l1 l3 n l2 l4 = some r → V cX11_stillOf RX11 1 60 5 G Γ [(o, S)] 85 [(0, .ref (wA G o 0)), (1, .int l1), (2, .int r), (3, .int l3)] [] → V cX11_stillOf RX11 1 60 5 G Γ [(o, S)] 37 [(0, .ref (wA G o 0)), (1, .int l1), (2, .int l2), (3, .int l3), (4, .int l4)] [] := by
  intro n
  induction n with
  | zero => intro l2 l4 r hf hx; unfold pX11_stillOf_l37 at hf; cases hf
  | succ n ih =>
    intro l2 l4 r hf hx
    have hrec : ∀ {l2 : Int32} {l4 : Int32}, pX11_stillOf_l37  S l1 l3 n l2 l4 = some r → V cX11_stillOf RX11 1 60 5 G Γ [(o, S)] 37 [(0, .ref (wA G o 0)), (1, .int l1), (2, .int l2), (3, .int l3), (4, .int l4)] [] := fun h => ih h hx
    clear ih
    unfold pX11_stillOf_l37 at hf
    refine v_iload (pc := 37) 4 dX11_stillOf_37 rfl ?_
    refine v_aload_n (pc := 39) 0 dX11_stillOf_39 rfl ?_
    refine gf_RX11_33 (pc := 40) 0 rfl hk0 dX11_stillOf_40 ?_
    refine v_bipush (pc := 43) (125 : Int32) dX11_stillOf_43 cb_125 ?_
    refine v_iload_n (pc := 45) 3 dX11_stillOf_45 rfl ?_
    refine v_iadd (pc := 46) dX11_stillOf_46 ?_
    replace hf := gd_some hf; obtain ⟨g4, hf⟩ := hf
    refine al_X11_6 (pc := 47) _ 0 rfl hk0 rfl g4 dX11_stillOf_47 ?_
    refine v_icmp_ge (pc := 48) 85 dX11_stillOf_48 (by decide) (fun c5 => ?_) (fun c5 => ?_)
    · replace hf := it_t c5 hf
      have hf2 := Option.some.inj hf; subst hf2
      exact V_sub [0, 1, 2, 3] rfl hx
    · replace hf := it_f c5 hf
      refine v_iload_n (pc := 51) 2 dX11_stillOf_51 rfl ?_
      refine v_aload_n (pc := 52) 0 dX11_stillOf_52 rfl ?_
      refine gf_RX11_33 (pc := 53) 0 rfl hk0 dX11_stillOf_53 ?_
      refine v_sipush (pc := 56) (131 : Int32) dX11_stillOf_56 cs_131 ?_
      refine v_bipush (pc := 59) (8 : Int32) dX11_stillOf_59 cb_8 ?_
      refine v_iload_n (pc := 61) 3 dX11_stillOf_61 rfl ?_
      refine v_imul (pc := 62) dX11_stillOf_62 ?_
      refine v_iadd (pc := 63) dX11_stillOf_63 ?_
      refine v_iload (pc := 64) 4 dX11_stillOf_64 rfl ?_
      refine v_iadd (pc := 66) dX11_stillOf_66 ?_
      replace hf := gd_some hf; obtain ⟨g6, hf⟩ := hf
      refine al_X11_6 (pc := 67) _ 0 rfl hk0 rfl g6 dX11_stillOf_67 ?_
      refine v_iload_n (pc := 68) 1 dX11_stillOf_68 rfl ?_
      refine v_icmp_ne (pc := 69) 76 dX11_stillOf_69 (by decide) (fun c7 => ?_) (fun c7 => ?_)
      · replace hf := it_f c7 hf
        refine v_iconst (pc := 76) (0 : Int32) dX11_stillOf_76 ci_0 ?_
        refine v_iadd (pc := 77) dX11_stillOf_77 ?_
        refine v_istore_n (pc := 78) [(2, _), (0, _), (1, _), (3, _), (4, _)] dX11_stillOf_78 (Nat.le_of_ble_eq_true rfl) rfl ?_
        refine v_iinc (pc := 79) 4 (l4 + (1 : Int32)) [(4, _), (2, _), (0, _), (1, _), (3, _)] dX11_stillOf_79 rfl (congrArg (fun z => _ + z) ci_1) (Nat.le_of_ble_eq_true rfl) rfl ?_
        refine v_goto (pc := 82) 37 dX11_stillOf_82 (by decide) ?_
        exact V_sub [2, 3, 1, 4, 0] rfl (hrec hf)
      · replace hf := it_t c7 hf
        refine v_iconst (pc := 72) (1 : Int32) dX11_stillOf_72 ci_1 ?_
        refine v_goto (pc := 73) 77 dX11_stillOf_73 (by decide) ?_
        refine v_iadd (pc := 77) dX11_stillOf_77 ?_
        refine v_istore_n (pc := 78) [(2, _), (0, _), (1, _), (3, _), (4, _)] dX11_stillOf_78 (Nat.le_of_ble_eq_true rfl) rfl ?_
        refine v_iinc (pc := 79) 4 (l4 + (1 : Int32)) [(4, _), (2, _), (0, _), (1, _), (3, _)] dX11_stillOf_79 rfl (congrArg (fun z => _ + z) ci_1) (Nat.le_of_ble_eq_true rfl) rfl ?_
        refine v_goto (pc := 82) 37 dX11_stillOf_82 (by decide) ?_
        exact V_sub [2, 3, 1, 4, 0] rfl (hrec hf)
set_option maxRecDepth 20000 in
theorem wX11_stillOf_l24 {G : Wc} {Γ : Cx} {o : Nat} {S : Ob} {l1 : Int32} (hk0 : kd o = 10) : ∀ (n : Nat) {l2 : Int32} {l3 : Int32} {r : Int32}, pX11_stillOf_l24  S l1 n l2 l3 = some r → V cX11_stillOf RX11 1 60 5 G Γ [(o, S)] 91 [(2, .int r)] [] → V cX11_stillOf RX11 1 60 5 G Γ [(o, S)] 24 [(0, .ref (wA G o 0)), (1, .int l1), (2, .int l2), (3, .int l3)] [] := by
  intro n
  induction n with
  | zero => intro l2 l3 r hf hx; unfold pX11_stillOf_l24 at hf; cases hf
  | succ n ih =>
    intro l2 l3 r hf hx
    have hrec : ∀ {l2 : Int32} {l3 : Int32}, pX11_stillOf_l24  S l1 n l2 l3 = some r → V cX11_stillOf RX11 1 60 5 G Γ [(o, S)] 24 [(0, .ref (wA G o 0)), (1, .int l1), (2, .int l2), (3, .int l3)] [] := fun h => ih h hx
    clear ih
    unfold pX11_stillOf_l24 at hf
    refine v_iload_n (pc := 24) 3 dX11_stillOf_24 rfl ?_
    refine v_aload_n (pc := 25) 0 dX11_stillOf_25 rfl ?_
    refine gf_RX11_33 (pc := 26) 0 rfl hk0 dX11_stillOf_26 ?_
    refine v_iconst (pc := 29) (1 : Int32) dX11_stillOf_29 ci_1 ?_
    refine al_X11_6 (pc := 30) 1 0 rfl hk0 rfl ib_1_390 dX11_stillOf_30 ?_
    refine v_icmp_ge (pc := 31) 91 dX11_stillOf_31 (by decide) (fun c3 => ?_) (fun c3 => ?_)
    · replace hf := it_t c3 hf
      have hf2 := Option.some.inj hf; subst hf2
      exact V_sub [2] rfl hx
    · replace hf := it_f c3 hf
      refine v_iconst (pc := 34) (0 : Int32) dX11_stillOf_34 ci_0 ?_
      refine v_istore (pc := 35) [(4, _), (0, _), (1, _), (2, _), (3, _)] dX11_stillOf_35 (Nat.le_of_ble_eq_true rfl) rfl ?_
      replace hf := bd_some hf; obtain ⟨r8, h9, hf⟩ := hf
      refine V_sub [1, 2, 3, 4, 0] rfl (wX11_stillOf_l37 hk0 fu h9 ?_)
      refine v_iinc (pc := 85) 3 (l3 + (1 : Int32)) [(3, _), (0, _), (1, _), (2, _)] dX11_stillOf_85 rfl (congrArg (fun z => _ + z) ci_1) (Nat.le_of_ble_eq_true rfl) rfl ?_
      refine v_goto (pc := 88) 24 dX11_stillOf_88 (by decide) ?_
      exact V_sub [1, 2, 3, 0] rfl (hrec hf)
set_option maxRecDepth 20000 in
theorem kX11_stillOf {G : Wc} {o : Nat} {S : Ob} {a : Int32} {r : Int32} (hk0 : kd o = 10) (hf : pX11_stillOf S  a = some r) : Cn yX11_stillOf cX11_stillOf 5 (some .int) 1 60 G [.ref (wA G o 0), .int a] [(o, S)] [(o, S)] (some (.int r)) := by
  refine V_method [(0, .ref (wA G o 0)), (1, .int a)] (by decide) rfl (Nat.le_of_ble_eq_true rfl) rfl (fun Γ hF => ?_)
  unfold pX11_stillOf at hf
  refine v_aload_n (pc := 0) 0 dX11_stillOf_0 rfl ?_
  refine gf_RX11_33 (pc := 1) 0 rfl hk0 dX11_stillOf_1 ?_
  refine v_sipush (pc := 4) (185 : Int32) dX11_stillOf_4 cs_185 ?_
  refine v_iload_n (pc := 7) 1 dX11_stillOf_7 rfl ?_
  refine v_iadd (pc := 8) dX11_stillOf_8 ?_
  replace hf := gd_some hf; obtain ⟨g1, hf⟩ := hf
  refine al_X11_6 (pc := 9) _ 0 rfl hk0 rfl g1 dX11_stillOf_9 ?_
  refine v_aload_n (pc := 10) 0 dX11_stillOf_10 rfl ?_
  refine gf_RX11_33 (pc := 11) 0 rfl hk0 dX11_stillOf_11 ?_
  refine v_sipush (pc := 14) (201 : Int32) dX11_stillOf_14 cs_201 ?_
  refine v_iload_n (pc := 17) 1 dX11_stillOf_17 rfl ?_
  refine v_iadd (pc := 18) dX11_stillOf_18 ?_
  replace hf := gd_some hf; obtain ⟨g2, hf⟩ := hf
  refine al_X11_6 (pc := 19) _ 0 rfl hk0 rfl g2 dX11_stillOf_19 ?_
  refine v_iadd (pc := 20) dX11_stillOf_20 ?_
  refine v_istore_n (pc := 21) [(2, _), (0, _), (1, _)] dX11_stillOf_21 (Nat.le_of_ble_eq_true rfl) rfl ?_
  refine v_iconst (pc := 22) (0 : Int32) dX11_stillOf_22 ci_0 ?_
  refine v_istore_n (pc := 23) [(3, _), (2, _), (0, _), (1, _)] dX11_stillOf_23 (Nat.le_of_ble_eq_true rfl) rfl ?_
  replace hf := bd_some hf; obtain ⟨r10, h11, hf⟩ := hf
  refine V_sub [2, 3, 1, 0] rfl (wX11_stillOf_l24 hk0 fu h11 ?_)
  refine v_iload_n (pc := 91) 0 dX11_stillOf_91 rfl ?_
  have hf2 := Option.some.inj hf; subst hf2
  exact V_iret (pc := 92) hF dX11_stillOf_92
set_option maxRecDepth 20000 in
theorem wX11_person_j24 {G : Wc} {Γ : Cx} {o : Nat} {S : Ob} {l1 : Int32} {l2 : Int32} {s1 : Int32} {r : Int32 × Ob} (hk0 : kd o = 10) (hF : Fnl G Γ (some .int) (some (.int r.1)) (ov Γ.2.2.2 [(o, r.2)])) (hf : pX11_person_j24 S l1 l2 s1 = some r) : V cX11_person RX11 4 128 3 G Γ [(o, S)] 24 [(0, .ref (wA G o 0)), (1, .int l1), (2, .int l2)] [.int s1, .ref (wA G o 0)] := by
  unfold pX11_person_j24 at hf
  replace hf := bd_some hf; obtain ⟨r4, h5, hf⟩ := hf
  refine V_call (pc := 24) (us1 := [_]) [0] 0 (kX11_throwsIf (o := o) hk0 h5) rfl rfl rfl rfl rfl hk0 (Nat.le_of_ble_eq_true rfl) rfl rfl rfl wm_RX11_257 md_X11_throwsIf (Nat.le_of_ble_eq_true rfl) (Nat.le_of_ble_eq_true rfl) rfl rfl (Nat.le_of_ble_eq_true rfl) dX11_person_24 ?_
  refine v_if_eq (pc := 27) 32 dX11_person_27 (by decide) (fun c6 => ?_) (fun c6 => ?_)
  · replace hf := it_t c6 hf
    refine v_iload_n (pc := 32) 2 dX11_person_32 rfl ?_
    by_cases c7 : l2 = (0 : Int32)
    · replace hf := it_t c7 hf
      refine v_tsIn (pc := 33) (0 : Int32) 72 dX11_person_33 c7 (by decide) (by decide) rfl (by decide) ?_
      refine v_aload_n (pc := 72) 0 dX11_person_72 rfl ?_
      refine gf_RX11_33 (pc := 73) 0 rfl hk0 dX11_person_73 ?_
      refine v_bipush (pc := 76) (21 : Int32) dX11_person_76 cb_21 ?_
      refine v_iload_n (pc := 78) 1 dX11_person_78 rfl ?_
      refine v_iadd (pc := 79) dX11_person_79 ?_
      replace hf := gd_some hf; obtain ⟨g13, hf⟩ := hf
      refine al_X11_6 (pc := 80) _ 0 rfl hk0 rfl g13 dX11_person_80 ?_
      have hf2 := Option.some.inj hf; subst hf2
      exact V_iret (pc := 81) hF dX11_person_81
    replace hf := it_f c7 hf
    by_cases c8 : l2 = (1 : Int32)
    · replace hf := it_t c8 hf
      refine v_tsIn (1 : Int32) 82 dX11_person_33 c8 (by decide) (by decide) rfl (by decide) ?_
      refine v_aload_n (pc := 82) 0 dX11_person_82 rfl ?_
      refine gf_RX11_33 (pc := 83) 0 rfl hk0 dX11_person_83 ?_
      refine v_sipush (pc := 86) (179 : Int32) dX11_person_86 cs_179 ?_
      refine v_iload_n (pc := 89) 1 dX11_person_89 rfl ?_
      refine v_iadd (pc := 90) dX11_person_90 ?_
      replace hf := gd_some hf; obtain ⟨g14, hf⟩ := hf
      refine al_X11_6 (pc := 91) _ 0 rfl hk0 rfl g14 dX11_person_91 ?_
      have hf2 := Option.some.inj hf; subst hf2
      exact V_iret (pc := 92) hF dX11_person_92
    replace hf := it_f c8 hf
    by_cases c9 : l2 = (2 : Int32)
    · replace hf := it_t c9 hf
      refine v_tsIn (2 : Int32) 93 dX11_person_33 c9 (by decide) (by decide) rfl (by decide) ?_
      refine v_aload_n (pc := 93) 0 dX11_person_93 rfl ?_
      refine gf_RX11_33 (pc := 94) 0 rfl hk0 dX11_person_94 ?_
      refine v_bipush (pc := 97) (125 : Int32) dX11_person_97 cb_125 ?_
      refine v_iload_n (pc := 99) 1 dX11_person_99 rfl ?_
      refine v_iadd (pc := 100) dX11_person_100 ?_
      replace hf := gd_some hf; obtain ⟨g15, hf⟩ := hf
      refine al_X11_6 (pc := 101) _ 0 rfl hk0 rfl g15 dX11_person_101 ?_
      have hf2 := Option.some.inj hf; subst hf2
      exact V_iret (pc := 102) hF dX11_person_102
    replace hf := it_f c9 hf
    by_cases c10 : l2 = (3 : Int32)
    · replace hf := it_t c10 hf
      refine v_tsIn (3 : Int32) 103 dX11_person_33 c10 (by decide) (by decide) rfl (by decide) ?_
      refine v_aload_n (pc := 103) 0 dX11_person_103 rfl ?_
      refine v_iload_n (pc := 104) 1 dX11_person_104 rfl ?_
      replace hf := bd_some hf; obtain ⟨r16, h17, hf⟩ := hf
      refine V_call (pc := 105) (us1 := [_]) [0] 0 (kX11_knotsOf (o := o) hk0 h17) rfl rfl rfl rfl rfl hk0 (Nat.le_of_ble_eq_true rfl) rfl rfl rfl wm_RX11_261 md_X11_knotsOf (Nat.le_of_ble_eq_true rfl) (Nat.le_of_ble_eq_true rfl) rfl rfl (Nat.le_of_ble_eq_true rfl) dX11_person_105 ?_
      have hf2 := Option.some.inj hf; subst hf2
      exact V_iret (pc := 108) hF dX11_person_108
    replace hf := it_f c10 hf
    by_cases c11 : l2 = (4 : Int32)
    · replace hf := it_t c11 hf
      refine v_tsIn (4 : Int32) 109 dX11_person_33 c11 (by decide) (by decide) rfl (by decide) ?_
      refine v_aload_n (pc := 109) 0 dX11_person_109 rfl ?_
      refine v_iload_n (pc := 110) 1 dX11_person_110 rfl ?_
      refine v_iconst (pc := 111) (0 : Int32) dX11_person_111 ci_0 ?_
      replace hf := bd_some hf; obtain ⟨r18, h19, hf⟩ := hf
      refine V_call (pc := 112) (us1 := [_]) [0] 0 (kX11_knotHolds (o := o) hk0 h19) rfl rfl rfl rfl rfl hk0 (Nat.le_of_ble_eq_true rfl) rfl rfl rfl wm_RX11_265 md_X11_knotHolds (Nat.le_of_ble_eq_true rfl) (Nat.le_of_ble_eq_true rfl) rfl rfl (Nat.le_of_ble_eq_true rfl) dX11_person_112 ?_
      have hf2 := Option.some.inj hf; subst hf2
      exact V_iret (pc := 115) hF dX11_person_115
    replace hf := it_f c11 hf
    by_cases c12 : l2 = (5 : Int32)
    · replace hf := it_t c12 hf
      refine v_tsIn (5 : Int32) 116 dX11_person_33 c12 (by decide) (by decide) rfl (by decide) ?_
      refine v_aload_n (pc := 116) 0 dX11_person_116 rfl ?_
      refine v_iload_n (pc := 117) 1 dX11_person_117 rfl ?_
      replace hf := bd_some hf; obtain ⟨r20, h21, hf⟩ := hf
      refine V_call (pc := 118) (us1 := [_]) [0] 0 (kX11_holdsOf (o := o) hk0 h21) rfl rfl rfl rfl rfl hk0 (Nat.le_of_ble_eq_true rfl) rfl rfl rfl wm_RX11_268 md_X11_holdsOf (Nat.le_of_ble_eq_true rfl) (Nat.le_of_ble_eq_true rfl) rfl rfl (Nat.le_of_ble_eq_true rfl) dX11_person_118 ?_
      have hf2 := Option.some.inj hf; subst hf2
      exact V_iret (pc := 121) hF dX11_person_121
    replace hf := it_f c12 hf
    refine v_tsOut 122 dX11_person_33 6 (fun k hk => match k, hk with | 0, _ => c7 | 1, _ => c8 | 2, _ => c9 | 3, _ => c10 | 4, _ => c11 | 5, _ => c12 | k + 6, h => absurd h (by omega)) (by decide) (by decide) (by decide) ?_
    refine v_aload_n (pc := 122) 0 dX11_person_122 rfl ?_
    refine v_iload_n (pc := 123) 1 dX11_person_123 rfl ?_
    replace hf := bd_some hf; obtain ⟨r22, h23, hf⟩ := hf
    refine V_call (pc := 124) (us1 := [_]) [0] 0 (kX11_isNest (o := o) hk0 h23) rfl rfl rfl rfl rfl hk0 (Nat.le_of_ble_eq_true rfl) rfl rfl rfl wm_RX11_271 md_X11_isNest (Nat.le_of_ble_eq_true rfl) (Nat.le_of_ble_eq_true rfl) rfl rfl (Nat.le_of_ble_eq_true rfl) dX11_person_124 ?_
    refine v_if_eq (pc := 127) 134 dX11_person_127 (by decide) (fun c24 => ?_) (fun c24 => ?_)
    · replace hf := it_t c24 hf
      refine v_iconst (pc := 134) (0 : Int32) dX11_person_134 ci_0 ?_
      have hf2 := Option.some.inj hf; subst hf2
      exact V_iret (pc := 135) hF dX11_person_135
    · replace hf := it_f c24 hf
      refine v_iconst (pc := 130) (1 : Int32) dX11_person_130 ci_1 ?_
      refine v_goto (pc := 131) 135 dX11_person_131 (by decide) ?_
      have hf2 := Option.some.inj hf; subst hf2
      exact V_iret (pc := 135) hF dX11_person_135
  · replace hf := it_f c6 hf
    refine v_iconst (pc := 30) (0 : Int32) dX11_person_30 ci_0 ?_
    have hf2 := Option.some.inj hf; subst hf2
    exact V_iret (pc := 31) hF dX11_person_31
set_option maxRecDepth 20000 in
theorem wX11_person_j19 {G : Wc} {Γ : Cx} {o : Nat} {S : Ob} {l1 : Int32} {l2 : Int32} {r : Int32 × Ob} (hk0 : kd o = 10) (hF : Fnl G Γ (some .int) (some (.int r.1)) (ov Γ.2.2.2 [(o, r.2)])) (hf : pX11_person_j19 S l1 l2 = some r) : V cX11_person RX11 4 128 3 G Γ [(o, S)] 19 [(0, .ref (wA G o 0)), (1, .int l1), (2, .int l2)] [.ref (wA G o 0)] := by
  unfold pX11_person_j19 at hf
  refine v_iconst (pc := 19) (1 : Int32) dX11_person_19 ci_1 ?_
  refine v_goto (pc := 20) 24 dX11_person_20 (by decide) ?_
  exact V_sub [0, 1, 2] rfl (wX11_person_j24 hk0 hF hf)
set_option maxRecDepth 20000 in
theorem kX11_person {G : Wc} {o : Nat} {S : Ob} {a : Int32} {b : Int32} {r : Int32 × Ob} (hk0 : kd o = 10) (hf : pX11_person S  a b = some r) : Cn yX11_person cX11_person 3 (some .int) 4 128 G [.ref (wA G o 0), .int a, .int b] [(o, S)] [(o, r.2)] (some (.int r.1)) := by
  refine V_method [(0, .ref (wA G o 0)), (1, .int a), (2, .int b)] (by decide) rfl (Nat.le_of_ble_eq_true rfl) rfl (fun Γ hF => ?_)
  unfold pX11_person at hf
  refine v_aload_n (pc := 0) 0 dX11_person_0 rfl ?_
  refine v_aload_n (pc := 1) 0 dX11_person_1 rfl ?_
  refine v_iload_n (pc := 2) 1 dX11_person_2 rfl ?_
  replace hf := bd_some hf; obtain ⟨r1, h2, hf⟩ := hf
  refine V_call (pc := 3) (us1 := [_]) [0] 0 (kX11_isPerson (o := o) hk0 h2) rfl rfl rfl rfl rfl hk0 (Nat.le_of_ble_eq_true rfl) rfl rfl rfl wm_RX11_254 md_X11_isPerson (Nat.le_of_ble_eq_true rfl) (Nat.le_of_ble_eq_true rfl) rfl rfl (Nat.le_of_ble_eq_true rfl) dX11_person_3 ?_
  refine v_if_eq (pc := 6) 19 dX11_person_6 (by decide) (fun c3 => ?_) (fun c3 => ?_)
  · replace hf := it_t c3 hf
    exact V_sub [0, 1, 2] rfl (wX11_person_j19 hk0 hF hf)
  · replace hf := it_f c3 hf
    refine v_iload_n (pc := 9) 2 dX11_person_9 rfl ?_
    refine v_iconst (pc := 10) (0 : Int32) dX11_person_10 ci_0 ?_
    refine v_bipush (pc := 11) (6 : Int32) dX11_person_11 cb_6 ?_
    replace hf := bd_some hf; obtain ⟨r25, h26, hf⟩ := hf
    refine V_callS (pc := 13) (us1 := [_]) [] (kX11_isIn  h26) rfl rfl rfl rfl wm_RX11_176 md_X11_isIn (Nat.le_of_ble_eq_true rfl) (Nat.le_of_ble_eq_true rfl) rfl rfl (Nat.le_of_ble_eq_true rfl) dX11_person_13 ?_
    refine v_if_ne (pc := 16) 23 dX11_person_16 (by decide) (fun c27 => ?_) (fun c27 => ?_)
    · replace hf := it_f c27 hf
      refine v_iconst (pc := 23) (0 : Int32) dX11_person_23 ci_0 ?_
      exact V_sub [0, 1, 2] rfl (wX11_person_j24 hk0 hF hf)
    · replace hf := it_t c27 hf
      exact V_sub [0, 1, 2] rfl (wX11_person_j19 hk0 hF hf)
set_option maxRecDepth 20000 in
theorem kX11_layer {G : Wc} {o : Nat} {S : Ob} {a : Int32} {b : Int32} {r : Int32 × Ob} (hk0 : kd o = 10) (hf : pX11_layer S  a b = some r) : Cn yX11_layer cX11_layer 3 (some .int) 3 103 G [.ref (wA G o 0), .int a, .int b] [(o, S)] [(o, r.2)] (some (.int r.1)) := by
  refine V_method [(0, .ref (wA G o 0)), (1, .int a), (2, .int b)] (by decide) rfl (Nat.le_of_ble_eq_true rfl) rfl (fun Γ hF => ?_)
  unfold pX11_layer at hf
  refine v_aload_n (pc := 0) 0 dX11_layer_0 rfl ?_
  refine v_iconst (pc := 1) (0 : Int32) dX11_layer_1 ci_0 ?_
  refine pf_RX11_1 (pc := 2) [_] 0 rfl hk0 rfl dX11_layer_2 ?_
  refine v_aload_n (pc := 5) 0 dX11_layer_5 rfl ?_
  refine v_iload_n (pc := 6) 1 dX11_layer_6 rfl ?_
  replace hf := bd_some hf; obtain ⟨r1, h2, hf⟩ := hf
  refine V_call (pc := 7) (us1 := [_]) [0] 0 (kX11_isPerson (o := o) hk0 h2) rfl rfl rfl rfl rfl hk0 (Nat.le_of_ble_eq_true rfl) rfl rfl rfl wm_RX11_254 md_X11_isPerson (Nat.le_of_ble_eq_true rfl) (Nat.le_of_ble_eq_true rfl) rfl rfl (Nat.le_of_ble_eq_true rfl) dX11_layer_7 ?_
  refine v_if_eq (pc := 10) 50 dX11_layer_10 (by decide) (fun c3 => ?_) (fun c3 => ?_)
  · replace hf := it_t c3 hf
    refine v_iconst (pc := 50) (-1 : Int32) dX11_layer_50 ci_m1 ?_
    have hf2 := Option.some.inj hf; subst hf2
    exact V_iret (pc := 51) hF dX11_layer_51
  · replace hf := it_f c3 hf
    refine v_iload_n (pc := 13) 2 dX11_layer_13 rfl ?_
    refine v_iconst (pc := 14) (0 : Int32) dX11_layer_14 ci_0 ?_
    refine v_aload_n (pc := 15) 0 dX11_layer_15 rfl ?_
    refine gf_RX11_33 (pc := 16) 0 rfl hk0 dX11_layer_16 ?_
    refine v_bipush (pc := 19) (125 : Int32) dX11_layer_19 cb_125 ?_
    refine v_iload_n (pc := 21) 1 dX11_layer_21 rfl ?_
    refine v_iadd (pc := 22) dX11_layer_22 ?_
    replace hf := gd_some hf; obtain ⟨g4, hf⟩ := hf
    refine al_X11_6 (pc := 23) _ 0 rfl hk0 rfl g4 dX11_layer_23 ?_
    refine v_iconst (pc := 24) (1 : Int32) dX11_layer_24 ci_1 ?_
    refine v_isub (pc := 25) dX11_layer_25 ?_
    replace hf := bd_some hf; obtain ⟨r5, h6, hf⟩ := hf
    refine V_callS (pc := 26) (us1 := [_]) [] (kX11_isIn  h6) rfl rfl rfl rfl wm_RX11_176 md_X11_isIn (Nat.le_of_ble_eq_true rfl) (Nat.le_of_ble_eq_true rfl) rfl rfl (Nat.le_of_ble_eq_true rfl) dX11_layer_26 ?_
    refine v_if_eq (pc := 29) 50 dX11_layer_29 (by decide) (fun c7 => ?_) (fun c7 => ?_)
    · replace hf := it_t c7 hf
      refine v_iconst (pc := 50) (-1 : Int32) dX11_layer_50 ci_m1 ?_
      have hf2 := Option.some.inj hf; subst hf2
      exact V_iret (pc := 51) hF dX11_layer_51
    · replace hf := it_f c7 hf
      refine v_aload_n (pc := 32) 0 dX11_layer_32 rfl ?_
      refine gf_RX11_33 (pc := 33) 0 rfl hk0 dX11_layer_33 ?_
      refine v_sipush (pc := 36) (131 : Int32) dX11_layer_36 cs_131 ?_
      refine v_bipush (pc := 39) (8 : Int32) dX11_layer_39 cb_8 ?_
      refine v_iload_n (pc := 41) 1 dX11_layer_41 rfl ?_
      refine v_imul (pc := 42) dX11_layer_42 ?_
      refine v_iadd (pc := 43) dX11_layer_43 ?_
      refine v_iload_n (pc := 44) 2 dX11_layer_44 rfl ?_
      refine v_iadd (pc := 45) dX11_layer_45 ?_
      replace hf := gd_some hf; obtain ⟨g8, hf⟩ := hf
      refine al_X11_6 (pc := 46) _ 0 rfl hk0 rfl g8 dX11_layer_46 ?_
      refine v_goto (pc := 47) 51 dX11_layer_47 (by decide) ?_
      have hf2 := Option.some.inj hf; subst hf2
      exact V_iret (pc := 51) hF dX11_layer_51
set_option maxRecDepth 20000 in
theorem wX11_thing_l20 {G : Wc} {Γ : Cx} {o : Nat} {S : Ob} {l1 : Int32} {l2 : Int32} (hk0 : kd o = 10) : ∀ (n : Nat) {l3 : Int32} {l4 : Int32} {r : Int32}, pX11_thing_l20  S l1 l2 n l3 l4 = some r → V cX11_thing RX11 3 103 5 G Γ [(o, S)] 58 [(0, .ref (wA G o 0)), (1, .int l1), (2, .int l2), (3, .int r)] [] → V cX11_thing RX11 3 103 5 G Γ [(o, S)] 20 [(0, .ref (wA G o 0)), (1, .int l1), (2, .int l2), (3, .int l3), (4, .int l4)] [] := by
  intro n
  induction n with
  | zero => intro l3 l4 r hf hx; unfold pX11_thing_l20 at hf; cases hf
  | succ n ih =>
    intro l3 l4 r hf hx
    have hrec : ∀ {l3 : Int32} {l4 : Int32}, pX11_thing_l20  S l1 l2 n l3 l4 = some r → V cX11_thing RX11 3 103 5 G Γ [(o, S)] 20 [(0, .ref (wA G o 0)), (1, .int l1), (2, .int l2), (3, .int l3), (4, .int l4)] [] := fun h => ih h hx
    clear ih
    unfold pX11_thing_l20 at hf
    refine v_iload (pc := 20) 4 dX11_thing_20 rfl ?_
    refine v_aload_n (pc := 22) 0 dX11_thing_22 rfl ?_
    refine gf_RX11_33 (pc := 23) 0 rfl hk0 dX11_thing_23 ?_
    refine v_iconst (pc := 26) (1 : Int32) dX11_thing_26 ci_1 ?_
    refine al_X11_6 (pc := 27) 1 0 rfl hk0 rfl ib_1_390 dX11_thing_27 ?_
    refine v_icmp_ge (pc := 28) 58 dX11_thing_28 (by decide) (fun c4 => ?_) (fun c4 => ?_)
    · replace hf := it_t c4 hf
      have hf2 := Option.some.inj hf; subst hf2
      exact V_sub [0, 1, 2, 3] rfl hx
    · replace hf := it_f c4 hf
      refine v_iload_n (pc := 31) 3 dX11_thing_31 rfl ?_
      refine v_aload_n (pc := 32) 0 dX11_thing_32 rfl ?_
      refine v_iload (pc := 33) 4 dX11_thing_33 rfl ?_
      refine v_iload_n (pc := 35) 1 dX11_thing_35 rfl ?_
      replace hf := bd_some hf; obtain ⟨r5, h6, hf⟩ := hf
      refine V_call (pc := 36) (us1 := [_]) [0] 0 (kX11_hasThing (o := o) hk0 h6) rfl rfl rfl rfl rfl hk0 (Nat.le_of_ble_eq_true rfl) rfl rfl rfl wm_RX11_277 md_X11_hasThing (Nat.le_of_ble_eq_true rfl) (Nat.le_of_ble_eq_true rfl) rfl rfl (Nat.le_of_ble_eq_true rfl) dX11_thing_36 ?_
      refine v_if_eq (pc := 39) 49 dX11_thing_39 (by decide) (fun c7 => ?_) (fun c7 => ?_)
      · replace hf := it_t c7 hf
        refine v_iconst (pc := 49) (0 : Int32) dX11_thing_49 ci_0 ?_
        refine v_ior (pc := 50) dX11_thing_50 ?_
        refine v_istore_n (pc := 51) [(3, _), (0, _), (1, _), (2, _), (4, _)] dX11_thing_51 (Nat.le_of_ble_eq_true rfl) rfl ?_
        refine v_iinc (pc := 52) 4 (l4 + (1 : Int32)) [(4, _), (3, _), (0, _), (1, _), (2, _)] dX11_thing_52 rfl (congrArg (fun z => _ + z) ci_1) (Nat.le_of_ble_eq_true rfl) rfl ?_
        refine v_goto (pc := 55) 20 dX11_thing_55 (by decide) ?_
        exact V_sub [2, 3, 4, 1, 0] rfl (hrec hf)
      · replace hf := it_f c7 hf
        refine v_iconst (pc := 42) (1 : Int32) dX11_thing_42 ci_1 ?_
        refine v_iload (pc := 43) 4 dX11_thing_43 rfl ?_
        refine v_ishl (pc := 45) dX11_thing_45 ?_
        refine v_goto (pc := 46) 50 dX11_thing_46 (by decide) ?_
        refine v_ior (pc := 50) dX11_thing_50 ?_
        refine v_istore_n (pc := 51) [(3, _), (0, _), (1, _), (2, _), (4, _)] dX11_thing_51 (Nat.le_of_ble_eq_true rfl) rfl ?_
        refine v_iinc (pc := 52) 4 (l4 + (1 : Int32)) [(4, _), (3, _), (0, _), (1, _), (2, _)] dX11_thing_52 rfl (congrArg (fun z => _ + z) ci_1) (Nat.le_of_ble_eq_true rfl) rfl ?_
        refine v_goto (pc := 55) 20 dX11_thing_55 (by decide) ?_
        exact V_sub [2, 3, 4, 1, 0] rfl (hrec hf)
set_option maxRecDepth 20000 in
theorem kX11_thing {G : Wc} {o : Nat} {S : Ob} {a : Int32} {b : Int32} {r : Int32 × Ob} (hk0 : kd o = 10) (hf : pX11_thing S  a b = some r) : Cn yX11_thing cX11_thing 5 (some .int) 3 103 G [.ref (wA G o 0), .int a, .int b] [(o, S)] [(o, r.2)] (some (.int r.1)) := by
  refine V_method [(0, .ref (wA G o 0)), (1, .int a), (2, .int b)] (by decide) rfl (Nat.le_of_ble_eq_true rfl) rfl (fun Γ hF => ?_)
  unfold pX11_thing at hf
  refine v_aload_n (pc := 0) 0 dX11_thing_0 rfl ?_
  refine v_iconst (pc := 1) (0 : Int32) dX11_thing_1 ci_0 ?_
  refine pf_RX11_1 (pc := 2) [_] 0 rfl hk0 rfl dX11_thing_2 ?_
  refine v_aload_n (pc := 5) 0 dX11_thing_5 rfl ?_
  refine v_iload_n (pc := 6) 1 dX11_thing_6 rfl ?_
  replace hf := bd_some hf; obtain ⟨r1, h2, hf⟩ := hf
  refine V_call (pc := 7) (us1 := [_]) [0] 0 (kX11_isThing (o := o) hk0 h2) rfl rfl rfl rfl rfl hk0 (Nat.le_of_ble_eq_true rfl) rfl rfl rfl wm_RX11_274 md_X11_isThing (Nat.le_of_ble_eq_true rfl) (Nat.le_of_ble_eq_true rfl) rfl rfl (Nat.le_of_ble_eq_true rfl) dX11_thing_7 ?_
  refine v_if_ne (pc := 10) 15 dX11_thing_10 (by decide) (fun c3 => ?_) (fun c3 => ?_)
  · replace hf := it_f c3 hf
    refine v_iconst (pc := 15) (0 : Int32) dX11_thing_15 ci_0 ?_
    refine v_istore_n (pc := 16) [(3, _), (0, _), (1, _), (2, _)] dX11_thing_16 (Nat.le_of_ble_eq_true rfl) rfl ?_
    refine v_iconst (pc := 17) (0 : Int32) dX11_thing_17 ci_0 ?_
    refine v_istore (pc := 18) [(4, _), (3, _), (0, _), (1, _), (2, _)] dX11_thing_18 (Nat.le_of_ble_eq_true rfl) rfl ?_
    replace hf := bd_some hf; obtain ⟨r8, h9, hf⟩ := hf
    refine V_sub [2, 3, 4, 1, 0] rfl (wX11_thing_l20 hk0 fu h9 ?_)
    refine v_iload_n (pc := 58) 2 dX11_thing_58 rfl ?_
    by_cases c10 : b = (0 : Int32)
    · replace hf := it_t c10 hf
      refine v_tsIn (pc := 59) (0 : Int32) 92 dX11_thing_59 c10 (by decide) (by decide) rfl (by decide) ?_
      refine v_aload_n (pc := 92) 0 dX11_thing_92 rfl ?_
      refine gf_RX11_33 (pc := 93) 0 rfl hk0 dX11_thing_93 ?_
      refine v_iconst (pc := 96) (5 : Int32) dX11_thing_96 ci_5 ?_
      refine v_iload_n (pc := 97) 1 dX11_thing_97 rfl ?_
      refine v_iadd (pc := 98) dX11_thing_98 ?_
      replace hf := gd_some hf; obtain ⟨g15, hf⟩ := hf
      refine al_X11_6 (pc := 99) _ 0 rfl hk0 rfl g15 dX11_thing_99 ?_
      have hf2 := Option.some.inj hf; subst hf2
      exact V_iret (pc := 100) hF dX11_thing_100
    replace hf := it_f c10 hf
    by_cases c11 : b = (1 : Int32)
    · replace hf := it_t c11 hf
      refine v_tsIn (1 : Int32) 101 dX11_thing_59 c11 (by decide) (by decide) rfl (by decide) ?_
      refine v_aload_n (pc := 101) 0 dX11_thing_101 rfl ?_
      refine gf_RX11_33 (pc := 102) 0 rfl hk0 dX11_thing_102 ?_
      refine v_bipush (pc := 105) (13 : Int32) dX11_thing_105 cb_13 ?_
      refine v_iload_n (pc := 107) 1 dX11_thing_107 rfl ?_
      refine v_iadd (pc := 108) dX11_thing_108 ?_
      replace hf := gd_some hf; obtain ⟨g16, hf⟩ := hf
      refine al_X11_6 (pc := 109) _ 0 rfl hk0 rfl g16 dX11_thing_109 ?_
      have hf2 := Option.some.inj hf; subst hf2
      exact V_iret (pc := 110) hF dX11_thing_110
    replace hf := it_f c11 hf
    by_cases c12 : b = (2 : Int32)
    · replace hf := it_t c12 hf
      refine v_tsIn (2 : Int32) 111 dX11_thing_59 c12 (by decide) (by decide) rfl (by decide) ?_
      refine v_aload_n (pc := 111) 0 dX11_thing_111 rfl ?_
      refine gf_RX11_33 (pc := 112) 0 rfl hk0 dX11_thing_112 ?_
      refine v_sipush (pc := 115) (185 : Int32) dX11_thing_115 cs_185 ?_
      refine v_iload_n (pc := 118) 1 dX11_thing_118 rfl ?_
      refine v_iadd (pc := 119) dX11_thing_119 ?_
      replace hf := gd_some hf; obtain ⟨g17, hf⟩ := hf
      refine al_X11_6 (pc := 120) _ 0 rfl hk0 rfl g17 dX11_thing_120 ?_
      have hf2 := Option.some.inj hf; subst hf2
      exact V_iret (pc := 121) hF dX11_thing_121
    replace hf := it_f c12 hf
    by_cases c13 : b = (3 : Int32)
    · replace hf := it_t c13 hf
      refine v_tsIn (3 : Int32) 122 dX11_thing_59 c13 (by decide) (by decide) rfl (by decide) ?_
      refine v_iload_n (pc := 122) 3 dX11_thing_122 rfl ?_
      have hf2 := Option.some.inj hf; subst hf2
      exact V_iret (pc := 123) hF dX11_thing_123
    replace hf := it_f c13 hf
    by_cases c14 : b = (4 : Int32)
    · replace hf := it_t c14 hf
      refine v_tsIn (4 : Int32) 124 dX11_thing_59 c14 (by decide) (by decide) rfl (by decide) ?_
      refine v_aload_n (pc := 124) 0 dX11_thing_124 rfl ?_
      refine v_iload_n (pc := 125) 1 dX11_thing_125 rfl ?_
      replace hf := bd_some hf; obtain ⟨r18, h19, hf⟩ := hf
      refine V_call (pc := 126) (us1 := [_]) [0] 0 (kX11_stillOf (o := o) hk0 h19) rfl rfl rfl rfl rfl hk0 (Nat.le_of_ble_eq_true rfl) rfl rfl rfl wm_RX11_280 md_X11_stillOf (Nat.le_of_ble_eq_true rfl) (Nat.le_of_ble_eq_true rfl) rfl rfl (Nat.le_of_ble_eq_true rfl) dX11_thing_126 ?_
      have hf2 := Option.some.inj hf; subst hf2
      exact V_iret (pc := 129) hF dX11_thing_129
    replace hf := it_f c14 hf
    refine v_tsOut 130 dX11_thing_59 5 (fun k hk => match k, hk with | 0, _ => c10 | 1, _ => c11 | 2, _ => c12 | 3, _ => c13 | 4, _ => c14 | k + 5, h => absurd h (by omega)) (by decide) (by decide) (by decide) ?_
    refine v_iconst (pc := 130) (-1 : Int32) dX11_thing_130 ci_m1 ?_
    have hf2 := Option.some.inj hf; subst hf2
    exact V_iret (pc := 131) hF dX11_thing_131
  · replace hf := it_t c3 hf
    refine v_iconst (pc := 13) (-1 : Int32) dX11_thing_13 ci_m1 ?_
    have hf2 := Option.some.inj hf; subst hf2
    exact V_iret (pc := 14) hF dX11_thing_14
set_option maxRecDepth 20000 in
theorem kX11_bed {G : Wc} {o : Nat} {S : Ob} {a : Int32} {b : Int32} {r : Int32 × Ob} (hk0 : kd o = 10) (hf : pX11_bed S  a b = some r) : Cn yX11_bed cX11_bed 3 (some .int) 3 103 G [.ref (wA G o 0), .int a, .int b] [(o, S)] [(o, r.2)] (some (.int r.1)) := by
  refine V_method [(0, .ref (wA G o 0)), (1, .int a), (2, .int b)] (by decide) rfl (Nat.le_of_ble_eq_true rfl) rfl (fun Γ hF => ?_)
  unfold pX11_bed at hf
  refine v_aload_n (pc := 0) 0 dX11_bed_0 rfl ?_
  refine v_iconst (pc := 1) (0 : Int32) dX11_bed_1 ci_0 ?_
  refine pf_RX11_1 (pc := 2) [_] 0 rfl hk0 rfl dX11_bed_2 ?_
  refine v_aload_n (pc := 5) 0 dX11_bed_5 rfl ?_
  refine v_iload_n (pc := 6) 1 dX11_bed_6 rfl ?_
  replace hf := bd_some hf; obtain ⟨r1, h2, hf⟩ := hf
  refine V_call (pc := 7) (us1 := [_]) [0] 0 (kX11_isBed (o := o) hk0 h2) rfl rfl rfl rfl rfl hk0 (Nat.le_of_ble_eq_true rfl) rfl rfl rfl wm_RX11_283 md_X11_isBed (Nat.le_of_ble_eq_true rfl) (Nat.le_of_ble_eq_true rfl) rfl rfl (Nat.le_of_ble_eq_true rfl) dX11_bed_7 ?_
  refine v_if_ne (pc := 10) 15 dX11_bed_10 (by decide) (fun c3 => ?_) (fun c3 => ?_)
  · replace hf := it_f c3 hf
    refine v_iload_n (pc := 15) 2 dX11_bed_15 rfl ?_
    refine v_if_ne (pc := 16) 31 dX11_bed_16 (by decide) (fun c4 => ?_) (fun c4 => ?_)
    · replace hf := it_f c4 hf
      refine v_iload_n (pc := 31) 2 dX11_bed_31 rfl ?_
      refine v_iconst (pc := 32) (1 : Int32) dX11_bed_32 ci_1 ?_
      refine v_icmp_ne (pc := 33) 49 dX11_bed_33 (by decide) (fun c5 => ?_) (fun c5 => ?_)
      · replace hf := it_f c5 hf
        refine v_iload_n (pc := 49) 2 dX11_bed_49 rfl ?_
        refine v_iconst (pc := 50) (2 : Int32) dX11_bed_50 ci_2 ?_
        refine v_icmp_ne (pc := 51) 70 dX11_bed_51 (by decide) (fun c6 => ?_) (fun c6 => ?_)
        · replace hf := it_f c6 hf
          refine v_iload_n (pc := 70) 2 dX11_bed_70 rfl ?_
          refine v_iconst (pc := 71) (3 : Int32) dX11_bed_71 ci_3 ?_
          refine v_icmp_ne (pc := 72) 88 dX11_bed_72 (by decide) (fun c7 => ?_) (fun c7 => ?_)
          · replace hf := it_f c7 hf
            refine v_iconst (pc := 88) (-1 : Int32) dX11_bed_88 ci_m1 ?_
            have hf2 := Option.some.inj hf; subst hf2
            exact V_iret (pc := 89) hF dX11_bed_89
          · replace hf := it_t c7 hf
            refine v_aload_n (pc := 75) 0 dX11_bed_75 rfl ?_
            refine gf_RX11_33 (pc := 76) 0 rfl hk0 dX11_bed_76 ?_
            refine v_sipush (pc := 79) (197 : Int32) dX11_bed_79 cs_197 ?_
            refine v_iload_n (pc := 82) 1 dX11_bed_82 rfl ?_
            refine v_iadd (pc := 83) dX11_bed_83 ?_
            replace hf := gd_some hf; obtain ⟨g8, hf⟩ := hf
            refine al_X11_6 (pc := 84) _ 0 rfl hk0 rfl g8 dX11_bed_84 ?_
            refine v_goto (pc := 85) 89 dX11_bed_85 (by decide) ?_
            have hf2 := Option.some.inj hf; subst hf2
            exact V_iret (pc := 89) hF dX11_bed_89
        · replace hf := it_t c6 hf
          refine v_aload_n (pc := 54) 0 dX11_bed_54 rfl ?_
          refine v_iload_n (pc := 55) 1 dX11_bed_55 rfl ?_
          replace hf := bd_some hf; obtain ⟨r9, h10, hf⟩ := hf
          refine V_call (pc := 56) (us1 := [_]) [0] 0 (kX11_isSlept (o := o) hk0 h10) rfl rfl rfl rfl rfl hk0 (Nat.le_of_ble_eq_true rfl) rfl rfl rfl wm_RX11_251 md_X11_isSlept (Nat.le_of_ble_eq_true rfl) (Nat.le_of_ble_eq_true rfl) rfl rfl (Nat.le_of_ble_eq_true rfl) dX11_bed_56 ?_
          refine v_if_eq (pc := 59) 66 dX11_bed_59 (by decide) (fun c11 => ?_) (fun c11 => ?_)
          · replace hf := it_t c11 hf
            refine v_iconst (pc := 66) (0 : Int32) dX11_bed_66 ci_0 ?_
            refine v_goto (pc := 67) 89 dX11_bed_67 (by decide) ?_
            have hf2 := Option.some.inj hf; subst hf2
            exact V_iret (pc := 89) hF dX11_bed_89
          · replace hf := it_f c11 hf
            refine v_iconst (pc := 62) (1 : Int32) dX11_bed_62 ci_1 ?_
            refine v_goto (pc := 63) 89 dX11_bed_63 (by decide) ?_
            have hf2 := Option.some.inj hf; subst hf2
            exact V_iret (pc := 89) hF dX11_bed_89
      · replace hf := it_t c5 hf
        refine v_aload_n (pc := 36) 0 dX11_bed_36 rfl ?_
        refine gf_RX11_33 (pc := 37) 0 rfl hk0 dX11_bed_37 ?_
        refine v_sipush (pc := 40) (193 : Int32) dX11_bed_40 cs_193 ?_
        refine v_iload_n (pc := 43) 1 dX11_bed_43 rfl ?_
        refine v_iadd (pc := 44) dX11_bed_44 ?_
        replace hf := gd_some hf; obtain ⟨g12, hf⟩ := hf
        refine al_X11_6 (pc := 45) _ 0 rfl hk0 rfl g12 dX11_bed_45 ?_
        refine v_goto (pc := 46) 89 dX11_bed_46 (by decide) ?_
        have hf2 := Option.some.inj hf; subst hf2
        exact V_iret (pc := 89) hF dX11_bed_89
    · replace hf := it_t c4 hf
      refine v_aload_n (pc := 19) 0 dX11_bed_19 rfl ?_
      refine gf_RX11_33 (pc := 20) 0 rfl hk0 dX11_bed_20 ?_
      refine v_bipush (pc := 23) (117 : Int32) dX11_bed_23 cb_117 ?_
      refine v_iload_n (pc := 25) 1 dX11_bed_25 rfl ?_
      refine v_iadd (pc := 26) dX11_bed_26 ?_
      replace hf := gd_some hf; obtain ⟨g13, hf⟩ := hf
      refine al_X11_6 (pc := 27) _ 0 rfl hk0 rfl g13 dX11_bed_27 ?_
      refine v_goto (pc := 28) 89 dX11_bed_28 (by decide) ?_
      have hf2 := Option.some.inj hf; subst hf2
      exact V_iret (pc := 89) hF dX11_bed_89
  · replace hf := it_t c3 hf
    refine v_iconst (pc := 13) (-1 : Int32) dX11_bed_13 ci_m1 ?_
    have hf2 := Option.some.inj hf; subst hf2
    exact V_iret (pc := 14) hF dX11_bed_14
set_option maxRecDepth 20000 in
theorem wX11_now_l9 {G : Wc} {Γ : Cx} {o : Nat} {S : Ob} {l1 : Int32} (hk0 : kd o = 10) : ∀ (n : Nat) {l2 : Int32} {l3 : Int32} {r : Int32}, pX11_now_l9  S l1 n l2 l3 = some r → V cX11_now RX11 3 103 4 G Γ [(o, S)] 43 [(0, .ref (wA G o 0)), (1, .int l1), (2, .int r)] [] → V cX11_now RX11 3 103 4 G Γ [(o, S)] 9 [(0, .ref (wA G o 0)), (1, .int l1), (2, .int l2), (3, .int l3)] [] := by
  intro n
  induction n with
  | zero => intro l2 l3 r hf hx; unfold pX11_now_l9 at hf; cases hf
  | succ n ih =>
    intro l2 l3 r hf hx
    have hrec : ∀ {l2 : Int32} {l3 : Int32}, pX11_now_l9  S l1 n l2 l3 = some r → V cX11_now RX11 3 103 4 G Γ [(o, S)] 9 [(0, .ref (wA G o 0)), (1, .int l1), (2, .int l2), (3, .int l3)] [] := fun h => ih h hx
    clear ih
    unfold pX11_now_l9 at hf
    refine v_iload_n (pc := 9) 3 dX11_now_9 rfl ?_
    refine v_aload_n (pc := 10) 0 dX11_now_10 rfl ?_
    refine gf_RX11_33 (pc := 11) 0 rfl hk0 dX11_now_11 ?_
    refine v_iconst (pc := 14) (1 : Int32) dX11_now_14 ci_1 ?_
    refine al_X11_6 (pc := 15) 1 0 rfl hk0 rfl ib_1_390 dX11_now_15 ?_
    refine v_icmp_ge (pc := 16) 43 dX11_now_16 (by decide) (fun c1 => ?_) (fun c1 => ?_)
    · replace hf := it_t c1 hf
      have hf2 := Option.some.inj hf; subst hf2
      exact V_sub [0, 1, 2] rfl hx
    · replace hf := it_f c1 hf
      refine v_iload_n (pc := 19) 2 dX11_now_19 rfl ?_
      refine v_aload_n (pc := 20) 0 dX11_now_20 rfl ?_
      refine v_iload_n (pc := 21) 3 dX11_now_21 rfl ?_
      replace hf := bd_some hf; obtain ⟨r2, h3, hf⟩ := hf
      refine V_call (pc := 22) (us1 := [_]) [0] 0 (kX11_isNest (o := o) hk0 h3) rfl rfl rfl rfl rfl hk0 (Nat.le_of_ble_eq_true rfl) rfl rfl rfl wm_RX11_271 md_X11_isNest (Nat.le_of_ble_eq_true rfl) (Nat.le_of_ble_eq_true rfl) rfl rfl (Nat.le_of_ble_eq_true rfl) dX11_now_22 ?_
      refine v_if_eq (pc := 25) 34 dX11_now_25 (by decide) (fun c4 => ?_) (fun c4 => ?_)
      · replace hf := it_t c4 hf
        refine v_iconst (pc := 34) (0 : Int32) dX11_now_34 ci_0 ?_
        refine v_ior (pc := 35) dX11_now_35 ?_
        refine v_istore_n (pc := 36) [(2, _), (0, _), (1, _), (3, _)] dX11_now_36 (Nat.le_of_ble_eq_true rfl) rfl ?_
        refine v_iinc (pc := 37) 3 (l3 + (1 : Int32)) [(3, _), (2, _), (0, _), (1, _)] dX11_now_37 rfl (congrArg (fun z => _ + z) ci_1) (Nat.le_of_ble_eq_true rfl) rfl ?_
        refine v_goto (pc := 40) 9 dX11_now_40 (by decide) ?_
        exact V_sub [2, 3, 1, 0] rfl (hrec hf)
      · replace hf := it_f c4 hf
        refine v_iconst (pc := 28) (1 : Int32) dX11_now_28 ci_1 ?_
        refine v_iload_n (pc := 29) 3 dX11_now_29 rfl ?_
        refine v_ishl (pc := 30) dX11_now_30 ?_
        refine v_goto (pc := 31) 35 dX11_now_31 (by decide) ?_
        refine v_ior (pc := 35) dX11_now_35 ?_
        refine v_istore_n (pc := 36) [(2, _), (0, _), (1, _), (3, _)] dX11_now_36 (Nat.le_of_ble_eq_true rfl) rfl ?_
        refine v_iinc (pc := 37) 3 (l3 + (1 : Int32)) [(3, _), (2, _), (0, _), (1, _)] dX11_now_37 rfl (congrArg (fun z => _ + z) ci_1) (Nat.le_of_ble_eq_true rfl) rfl ?_
        refine v_goto (pc := 40) 9 dX11_now_40 (by decide) ?_
        exact V_sub [2, 3, 1, 0] rfl (hrec hf)
set_option maxRecDepth 20000 in
theorem kX11_now {G : Wc} {o : Nat} {S : Ob} {a : Int32} {r : Int32 × Ob} (hk0 : kd o = 10) (hf : pX11_now S  a = some r) : Cn yX11_now cX11_now 4 (some .int) 3 103 G [.ref (wA G o 0), .int a] [(o, S)] [(o, r.2)] (some (.int r.1)) := by
  refine V_method [(0, .ref (wA G o 0)), (1, .int a)] (by decide) rfl (Nat.le_of_ble_eq_true rfl) rfl (fun Γ hF => ?_)
  unfold pX11_now at hf
  refine v_aload_n (pc := 0) 0 dX11_now_0 rfl ?_
  refine v_iconst (pc := 1) (0 : Int32) dX11_now_1 ci_0 ?_
  refine pf_RX11_1 (pc := 2) [_] 0 rfl hk0 rfl dX11_now_2 ?_
  refine v_iconst (pc := 5) (0 : Int32) dX11_now_5 ci_0 ?_
  refine v_istore_n (pc := 6) [(2, _), (0, _), (1, _)] dX11_now_6 (Nat.le_of_ble_eq_true rfl) rfl ?_
  refine v_iconst (pc := 7) (0 : Int32) dX11_now_7 ci_0 ?_
  refine v_istore_n (pc := 8) [(3, _), (2, _), (0, _), (1, _)] dX11_now_8 (Nat.le_of_ble_eq_true rfl) rfl ?_
  replace hf := bd_some hf; obtain ⟨r5, h6, hf⟩ := hf
  refine V_sub [2, 3, 1, 0] rfl (wX11_now_l9 hk0 fu h6 ?_)
  refine v_iload_n (pc := 43) 1 dX11_now_43 rfl ?_
  by_cases c7 : a = (0 : Int32)
  · replace hf := it_t c7 hf
    refine v_tsIn (pc := 44) (0 : Int32) 88 dX11_now_44 c7 (by decide) (by decide) rfl (by decide) ?_
    refine v_aload_n (pc := 88) 0 dX11_now_88 rfl ?_
    refine gf_RX11_33 (pc := 89) 0 rfl hk0 dX11_now_89 ?_
    refine v_bipush (pc := 92) (121 : Int32) dX11_now_92 cb_121 ?_
    refine al_X11_6 (pc := 94) 121 0 rfl hk0 rfl ib_121_390 dX11_now_94 ?_
    have hf2 := Option.some.inj hf; subst hf2
    exact V_iret (pc := 95) hF dX11_now_95
  replace hf := it_f c7 hf
  by_cases c8 : a = (1 : Int32)
  · replace hf := it_t c8 hf
    refine v_tsIn (1 : Int32) 96 dX11_now_44 c8 (by decide) (by decide) rfl (by decide) ?_
    refine v_aload_n (pc := 96) 0 dX11_now_96 rfl ?_
    replace hf := bd_some hf; obtain ⟨r14, h15, hf⟩ := hf
    refine V_call (pc := 97) (us1 := [_]) [0] 0 (kX11_bagged (o := o) hk0 h15) rfl rfl rfl rfl rfl hk0 (Nat.le_of_ble_eq_true rfl) rfl rfl rfl wm_RX11_286 md_X11_bagged (Nat.le_of_ble_eq_true rfl) (Nat.le_of_ble_eq_true rfl) rfl rfl (Nat.le_of_ble_eq_true rfl) dX11_now_97 ?_
    have hf2 := Option.some.inj hf; subst hf2
    exact V_iret (pc := 100) hF dX11_now_100
  replace hf := it_f c8 hf
  by_cases c9 : a = (2 : Int32)
  · replace hf := it_t c9 hf
    refine v_tsIn (2 : Int32) 101 dX11_now_44 c9 (by decide) (by decide) rfl (by decide) ?_
    refine v_aload_n (pc := 101) 0 dX11_now_101 rfl ?_
    replace hf := bd_some hf; obtain ⟨r16, h17, hf⟩ := hf
    refine V_call (pc := 102) (us1 := [_]) [0] 0 (kX11_sleptOn (o := o) hk0 h17) rfl rfl rfl rfl rfl hk0 (Nat.le_of_ble_eq_true rfl) rfl rfl rfl wm_RX11_289 md_X11_sleptOn (Nat.le_of_ble_eq_true rfl) (Nat.le_of_ble_eq_true rfl) rfl rfl (Nat.le_of_ble_eq_true rfl) dX11_now_102 ?_
    have hf2 := Option.some.inj hf; subst hf2
    exact V_iret (pc := 105) hF dX11_now_105
  replace hf := it_f c9 hf
  by_cases c10 : a = (3 : Int32)
  · replace hf := it_t c10 hf
    refine v_tsIn (3 : Int32) 106 dX11_now_44 c10 (by decide) (by decide) rfl (by decide) ?_
    refine v_iload_n (pc := 106) 2 dX11_now_106 rfl ?_
    have hf2 := Option.some.inj hf; subst hf2
    exact V_iret (pc := 107) hF dX11_now_107
  replace hf := it_f c10 hf
  by_cases c11 : a = (4 : Int32)
  · replace hf := it_t c11 hf
    refine v_tsIn (4 : Int32) 108 dX11_now_44 c11 (by decide) (by decide) rfl (by decide) ?_
    refine v_aload_n (pc := 108) 0 dX11_now_108 rfl ?_
    refine gf_RX11_33 (pc := 109) 0 rfl hk0 dX11_now_109 ?_
    refine v_bipush (pc := 112) (122 : Int32) dX11_now_112 cb_122 ?_
    refine al_X11_6 (pc := 114) 122 0 rfl hk0 rfl ib_122_390 dX11_now_114 ?_
    have hf2 := Option.some.inj hf; subst hf2
    exact V_iret (pc := 115) hF dX11_now_115
  replace hf := it_f c11 hf
  by_cases c12 : a = (5 : Int32)
  · replace hf := it_t c12 hf
    refine v_tsIn (5 : Int32) 116 dX11_now_44 c12 (by decide) (by decide) rfl (by decide) ?_
    refine v_aload_n (pc := 116) 0 dX11_now_116 rfl ?_
    refine gf_RX11_33 (pc := 117) 0 rfl hk0 dX11_now_117 ?_
    refine v_bipush (pc := 120) (123 : Int32) dX11_now_120 cb_123 ?_
    refine al_X11_6 (pc := 122) 123 0 rfl hk0 rfl ib_123_390 dX11_now_122 ?_
    have hf2 := Option.some.inj hf; subst hf2
    exact V_iret (pc := 123) hF dX11_now_123
  replace hf := it_f c12 hf
  by_cases c13 : a = (6 : Int32)
  · replace hf := it_t c13 hf
    refine v_tsIn (6 : Int32) 124 dX11_now_44 c13 (by decide) (by decide) rfl (by decide) ?_
    refine v_aload_n (pc := 124) 0 dX11_now_124 rfl ?_
    refine gf_RX11_33 (pc := 125) 0 rfl hk0 dX11_now_125 ?_
    refine v_bipush (pc := 128) (124 : Int32) dX11_now_128 cb_124 ?_
    refine al_X11_6 (pc := 130) 124 0 rfl hk0 rfl ib_124_390 dX11_now_130 ?_
    have hf2 := Option.some.inj hf; subst hf2
    exact V_iret (pc := 131) hF dX11_now_131
  replace hf := it_f c13 hf
  refine v_tsOut 132 dX11_now_44 7 (fun k hk => match k, hk with | 0, _ => c7 | 1, _ => c8 | 2, _ => c9 | 3, _ => c10 | 4, _ => c11 | 5, _ => c12 | 6, _ => c13 | k + 7, h => absurd h (by omega)) (by decide) (by decide) (by decide) ?_
  refine v_iconst (pc := 132) (-1 : Int32) dX11_now_132 ci_m1 ?_
  have hf2 := Option.some.inj hf; subst hf2
  exact V_iret (pc := 133) hF dX11_now_133
set_option maxRecDepth 20000 in
theorem kX11_whyStroke {G : Wc} {o : Nat} {S : Ob} {a : Int32} {b : Int32} {r : Int32} (hk0 : kd o = 10) (hf : pX11_whyStroke S  a b = some r) : Cn yX11_whyStroke cX11_whyStroke 3 (some .int) 4 127 G [.ref (wA G o 0), .int a, .int b] [(o, S)] [(o, S)] (some (.int r)) := by
  refine V_method [(0, .ref (wA G o 0)), (1, .int a), (2, .int b)] (by decide) rfl (Nat.le_of_ble_eq_true rfl) rfl (fun Γ hF => ?_)
  unfold pX11_whyStroke at hf
  refine v_aload_n (pc := 0) 0 dX11_whyStroke_0 rfl ?_
  refine gf_RX11_33 (pc := 1) 0 rfl hk0 dX11_whyStroke_1 ?_
  refine v_bipush (pc := 4) (125 : Int32) dX11_whyStroke_4 cb_125 ?_
  refine v_iload_n (pc := 6) 1 dX11_whyStroke_6 rfl ?_
  refine v_iadd (pc := 7) dX11_whyStroke_7 ?_
  replace hf := gd_some hf; obtain ⟨g1, hf⟩ := hf
  refine al_X11_6 (pc := 8) _ 0 rfl hk0 rfl g1 dX11_whyStroke_8 ?_
  refine v_if_ne (pc := 9) 14 dX11_whyStroke_9 (by decide) (fun c2 => ?_) (fun c2 => ?_)
  · replace hf := it_f c2 hf
    refine v_aload_n (pc := 14) 0 dX11_whyStroke_14 rfl ?_
    refine v_iload_n (pc := 15) 1 dX11_whyStroke_15 rfl ?_
    refine v_iconst (pc := 16) (0 : Int32) dX11_whyStroke_16 ci_0 ?_
    replace hf := bd_some hf; obtain ⟨r3, h4, hf⟩ := hf
    refine V_call (pc := 17) (us1 := [_]) [0] 0 (kX11_knotHolds (o := o) hk0 h4) rfl rfl rfl rfl rfl hk0 (Nat.le_of_ble_eq_true rfl) rfl rfl rfl wm_RX11_265 md_X11_knotHolds (Nat.le_of_ble_eq_true rfl) (Nat.le_of_ble_eq_true rfl) rfl rfl (Nat.le_of_ble_eq_true rfl) dX11_whyStroke_17 ?_
    refine v_iload_n (pc := 20) 2 dX11_whyStroke_20 rfl ?_
    refine v_icmp_le (pc := 21) 26 dX11_whyStroke_21 (by decide) (fun c5 => ?_) (fun c5 => ?_)
    · replace hf := it_t c5 hf
      refine v_iload_n (pc := 26) 2 dX11_whyStroke_26 rfl ?_
      refine v_aload_n (pc := 27) 0 dX11_whyStroke_27 rfl ?_
      refine gf_RX11_33 (pc := 28) 0 rfl hk0 dX11_whyStroke_28 ?_
      refine v_iconst (pc := 31) (4 : Int32) dX11_whyStroke_31 ci_4 ?_
      refine al_X11_6 (pc := 32) 4 0 rfl hk0 rfl ib_4_390 dX11_whyStroke_32 ?_
      refine v_icmp_le (pc := 33) 38 dX11_whyStroke_33 (by decide) (fun c6 => ?_) (fun c6 => ?_)
      · replace hf := it_t c6 hf
        refine v_aload_n (pc := 38) 0 dX11_whyStroke_38 rfl ?_
        refine gf_RX11_33 (pc := 39) 0 rfl hk0 dX11_whyStroke_39 ?_
        refine v_sipush (pc := 42) (179 : Int32) dX11_whyStroke_42 cs_179 ?_
        refine v_iload_n (pc := 45) 1 dX11_whyStroke_45 rfl ?_
        refine v_iadd (pc := 46) dX11_whyStroke_46 ?_
        replace hf := gd_some hf; obtain ⟨g7, hf⟩ := hf
        refine al_X11_6 (pc := 47) _ 0 rfl hk0 rfl g7 dX11_whyStroke_47 ?_
        refine v_iload_n (pc := 48) 2 dX11_whyStroke_48 rfl ?_
        refine v_iadd (pc := 49) dX11_whyStroke_49 ?_
        refine v_aload_n (pc := 50) 0 dX11_whyStroke_50 rfl ?_
        refine gf_RX11_33 (pc := 51) 0 rfl hk0 dX11_whyStroke_51 ?_
        refine v_bipush (pc := 54) (21 : Int32) dX11_whyStroke_54 cb_21 ?_
        refine v_iload_n (pc := 56) 1 dX11_whyStroke_56 rfl ?_
        refine v_iadd (pc := 57) dX11_whyStroke_57 ?_
        replace hf := gd_some hf; obtain ⟨g8, hf⟩ := hf
        refine al_X11_6 (pc := 58) _ 0 rfl hk0 rfl g8 dX11_whyStroke_58 ?_
        refine v_icmp_le (pc := 59) 66 dX11_whyStroke_59 (by decide) (fun c9 => ?_) (fun c9 => ?_)
        · replace hf := it_t c9 hf
          refine v_iconst (pc := 66) (0 : Int32) dX11_whyStroke_66 ci_0 ?_
          have hf2 := Option.some.inj hf; subst hf2
          exact V_iret (pc := 67) hF dX11_whyStroke_67
        · replace hf := it_f c9 hf
          refine v_iconst (pc := 62) (4 : Int32) dX11_whyStroke_62 ci_4 ?_
          refine v_goto (pc := 63) 67 dX11_whyStroke_63 (by decide) ?_
          have hf2 := Option.some.inj hf; subst hf2
          exact V_iret (pc := 67) hF dX11_whyStroke_67
      · replace hf := it_f c6 hf
        refine v_iconst (pc := 36) (3 : Int32) dX11_whyStroke_36 ci_3 ?_
        have hf2 := Option.some.inj hf; subst hf2
        exact V_iret (pc := 37) hF dX11_whyStroke_37
    · replace hf := it_f c5 hf
      refine v_iconst (pc := 24) (2 : Int32) dX11_whyStroke_24 ci_2 ?_
      have hf2 := Option.some.inj hf; subst hf2
      exact V_iret (pc := 25) hF dX11_whyStroke_25
  · replace hf := it_t c2 hf
    refine v_iconst (pc := 12) (1 : Int32) dX11_whyStroke_12 ci_1 ?_
    have hf2 := Option.some.inj hf; subst hf2
    exact V_iret (pc := 13) hF dX11_whyStroke_13
set_option maxRecDepth 20000 in
theorem wX11_draws_j35 {G : Wc} {Γ : Cx} {o : Nat} {S : Ob} {l1 : Int32} {l3 : Int32} {l4 : Int32} {s0 : Int32} {r : Ob} (hk0 : kd o = 10) (hF : Fnl G Γ (none) none (ov Γ.2.2.2 [(o, r)])) (hf : pX11_draws_j35 S l1 l3 l4 s0 = some r) : V cX11_draws RX11 3 105 6 G Γ [(o, S)] 35 [(0, .ref (wA G o 0)), (1, .int l1), (3, .int l3), (4, .int l4)] [.int s0] := by
  unfold pX11_draws_j35 at hf
  refine v_istore (pc := 35) [(5, _), (0, _), (1, _), (3, _), (4, _)] dX11_draws_35 (Nat.le_of_ble_eq_true rfl) rfl ?_
  refine v_aload_n (pc := 37) 1 dX11_draws_37 rfl ?_
  refine gf_RX11_33 (pc := 38) 0 rfl hk0 dX11_draws_38 ?_
  refine v_sipush (pc := 41) (185 : Int32) dX11_draws_41 cs_185 ?_
  refine v_iload_n (pc := 44) 3 dX11_draws_44 rfl ?_
  refine v_iadd (pc := 45) dX11_draws_45 ?_
  refine v_dup2 (pc := 46) dX11_draws_46 rfl rfl ?_
  replace hf := gd_some hf; obtain ⟨g6, hf⟩ := hf
  refine al_X11_6 (pc := 47) _ 0 rfl hk0 rfl g6 dX11_draws_47 ?_
  refine v_iload (pc := 48) 0 dX11_draws_48 rfl ?_
  refine v_iadd (pc := 50) dX11_draws_50 ?_
  replace hf := gd_some hf; obtain ⟨g7, hf⟩ := hf
  refine as_X11_6 (pc := 51) [_] _ 0 rfl hk0 rfl g7 rfl dX11_draws_51 ?_
  refine v_aload_n (pc := 52) 1 dX11_draws_52 rfl ?_
  refine gf_RX11_33 (pc := 53) 0 rfl hk0 dX11_draws_53 ?_
  refine v_bipush (pc := 56) (124 : Int32) dX11_draws_56 cb_124 ?_
  refine v_dup2 (pc := 58) dX11_draws_58 rfl rfl ?_
  refine al_X11_6 (pc := 59) 124 0 rfl hk0 rfl ib_124_390 dX11_draws_59 ?_
  refine v_iload (pc := 60) 4 dX11_draws_60 rfl ?_
  refine v_iload (pc := 62) 0 dX11_draws_62 rfl ?_
  refine v_isub (pc := 64) dX11_draws_64 ?_
  refine v_iadd (pc := 65) dX11_draws_65 ?_
  refine as_X11_6 (pc := 66) [_] 124 0 rfl hk0 rfl ib_124_390 rfl dX11_draws_66 ?_
  refine v_aload_n (pc := 67) 1 dX11_draws_67 rfl ?_
  refine gf_RX11_33 (pc := 68) 0 rfl hk0 dX11_draws_68 ?_
  refine v_bipush (pc := 71) (125 : Int32) dX11_draws_71 cb_125 ?_
  refine v_iload_n (pc := 73) 2 dX11_draws_73 rfl ?_
  refine v_iadd (pc := 74) dX11_draws_74 ?_
  refine v_dup2 (pc := 75) dX11_draws_75 rfl rfl ?_
  replace hf := gd_some hf; obtain ⟨g8, hf⟩ := hf
  refine al_X11_6 (pc := 76) _ 0 rfl hk0 rfl g8 dX11_draws_76 ?_
  refine v_iload (pc := 77) 4 dX11_draws_77 rfl ?_
  refine v_isub (pc := 79) dX11_draws_79 ?_
  replace hf := gd_some hf; obtain ⟨g9, hf⟩ := hf
  refine as_X11_6 (pc := 80) [_] _ 0 rfl hk0 rfl g9 rfl dX11_draws_80 ?_
  have hf2 := Option.some.inj hf; subst hf2
  exact V_vret (pc := 81) hF dX11_draws_81
set_option maxRecDepth 20000 in
theorem kX11_draws {G : Wc} {o : Nat} {S : Ob} {a : Int32} {b : Int32} {r : Ob} (hk0 : kd o = 10) (hf : pX11_draws S  a b = some r) : Cn yX11_draws cX11_draws 6 (none) 3 105 G [.ref (wA G o 0), .int a, .int b] [(o, S)] [(o, r)] none := by
  refine V_method [(0, .ref (wA G o 0)), (1, .int a), (2, .int b)] (by decide) rfl (Nat.le_of_ble_eq_true rfl) rfl (fun Γ hF => ?_)
  unfold pX11_draws at hf
  refine v_aload_n (pc := 0) 0 dX11_draws_0 rfl ?_
  refine v_iload_n (pc := 1) 1 dX11_draws_1 rfl ?_
  refine v_iconst (pc := 2) (0 : Int32) dX11_draws_2 ci_0 ?_
  replace hf := bd_some hf; obtain ⟨r1, h2, hf⟩ := hf
  refine V_call (pc := 3) (us1 := [_]) [0] 0 (kX11_fromOutside (o := o) hk0 h2) rfl rfl rfl rfl rfl hk0 (Nat.le_of_ble_eq_true rfl) rfl rfl rfl wm_RX11_245 md_X11_fromOutside (Nat.le_of_ble_eq_true rfl) (Nat.le_of_ble_eq_true rfl) rfl rfl (Nat.le_of_ble_eq_true rfl) dX11_draws_3 ?_
  refine v_istore_n (pc := 6) [(3, _), (0, _), (1, _), (2, _)] dX11_draws_6 (Nat.le_of_ble_eq_true rfl) rfl ?_
  refine v_aload_n (pc := 7) 1 dX11_draws_7 rfl ?_
  refine v_iload_n (pc := 8) 2 dX11_draws_8 rfl ?_
  refine v_iconst (pc := 9) (0 : Int32) dX11_draws_9 ci_0 ?_
  replace hf := bd_some hf; obtain ⟨r3, h4, hf⟩ := hf
  refine V_call (pc := 10) (us1 := [_]) [0] 0 (kX11_knotAt (o := o) hk0 h4) rfl rfl rfl rfl rfl hk0 (Nat.le_of_ble_eq_true rfl) rfl rfl rfl wm_RX11_248 md_X11_knotAt (Nat.le_of_ble_eq_true rfl) (Nat.le_of_ble_eq_true rfl) rfl rfl (Nat.le_of_ble_eq_true rfl) dX11_draws_10 ?_
  refine v_istore (pc := 13) [(4, _), (3, _), (0, _), (1, _), (2, _)] dX11_draws_13 (Nat.le_of_ble_eq_true rfl) rfl ?_
  refine v_iload_n (pc := 15) 4 dX11_draws_15 rfl ?_
  refine v_if_eq (pc := 16) 34 dX11_draws_16 (by decide) (fun c5 => ?_) (fun c5 => ?_)
  · replace hf := it_t c5 hf
    refine v_iconst (pc := 34) (0 : Int32) dX11_draws_34 ci_0 ?_
    exact V_sub [2, 3, 1, 0] rfl (wX11_draws_j35 hk0 hF hf)
  · replace hf := it_f c5 hf
    refine v_iload (pc := 19) 0 dX11_draws_19 rfl ?_
    refine v_bipush (pc := 21) (10 : Int32) dX11_draws_21 cb_10 ?_
    refine v_aload_n (pc := 23) 2 dX11_draws_23 rfl ?_
    replace hf := bd_some hf; obtain ⟨r10, h11, hf⟩ := hf
    refine V_call (pc := 24) (us1 := [_]) [0] 0 (kX11_bagged (o := o) hk0 h11) rfl rfl rfl rfl rfl hk0 (Nat.le_of_ble_eq_true rfl) rfl rfl rfl wm_RX11_286 md_X11_bagged (Nat.le_of_ble_eq_true rfl) (Nat.le_of_ble_eq_true rfl) rfl rfl (Nat.le_of_ble_eq_true rfl) dX11_draws_24 ?_
    refine v_isub (pc := 27) dX11_draws_27 ?_
    replace hf := bd_some hf; obtain ⟨r12, h13, hf⟩ := hf
    refine V_callS (pc := 28) (us1 := [_]) [] (kX11_lesser  h13) rfl rfl rfl rfl wm_RX11_292 md_X11_lesser (Nat.le_of_ble_eq_true rfl) (Nat.le_of_ble_eq_true rfl) rfl rfl (Nat.le_of_ble_eq_true rfl) dX11_draws_28 ?_
    refine v_goto (pc := 31) 35 dX11_draws_31 (by decide) ?_
    exact V_sub [2, 3, 1, 0] rfl (wX11_draws_j35 hk0 hF hf)
set_option maxRecDepth 20000 in
theorem wX11_strokes_l2 {G : Wc} {Γ : Cx} {o : Nat} {l1 : Int32} {l2 : Int32} (hk0 : kd o = 10) : ∀ (n : Nat) {l3 : Int32} {S : Ob} {r : Ob}, pX11_strokes_l2  l1 l2 n l3 S = some r → V cX11_strokes RX11 4 130 4 G Γ [(o, r)] 44 [(0, .ref (wA G o 0)), (1, .int l1), (2, .int l2)] [] → V cX11_strokes RX11 4 130 4 G Γ [(o, S)] 2 [(0, .ref (wA G o 0)), (1, .int l1), (2, .int l2), (3, .int l3)] [] := by
  intro n
  induction n with
  | zero => intro l3 S r hf hx; unfold pX11_strokes_l2 at hf; cases hf
  | succ n ih =>
    intro l3 S r hf hx
    have hrec : ∀ {l3 : Int32} {S : Ob}, pX11_strokes_l2  l1 l2 n l3 S = some r → V cX11_strokes RX11 4 130 4 G Γ [(o, S)] 2 [(0, .ref (wA G o 0)), (1, .int l1), (2, .int l2), (3, .int l3)] [] := fun h => ih h hx
    clear ih
    unfold pX11_strokes_l2 at hf
    refine v_aload_n (pc := 2) 0 dX11_strokes_2 rfl ?_
    refine gf_RX11_33 (pc := 3) 0 rfl hk0 dX11_strokes_3 ?_
    refine v_bipush (pc := 6) (125 : Int32) dX11_strokes_6 cb_125 ?_
    refine v_iload_n (pc := 8) 1 dX11_strokes_8 rfl ?_
    refine v_iadd (pc := 9) dX11_strokes_9 ?_
    replace hf := gd_some hf; obtain ⟨g1, hf⟩ := hf
    refine al_X11_6 (pc := 10) _ 0 rfl hk0 rfl g1 dX11_strokes_10 ?_
    refine v_if_le (pc := 11) 44 dX11_strokes_11 (by decide) (fun c2 => ?_) (fun c2 => ?_)
    · replace hf := it_t c2 hf
      have hf2 := Option.some.inj hf; subst hf2
      exact V_sub [0, 1, 2] rfl hx
    · replace hf := it_f c2 hf
      refine v_iload_n (pc := 14) 3 dX11_strokes_14 rfl ?_
      refine v_aload_n (pc := 15) 0 dX11_strokes_15 rfl ?_
      refine v_iload_n (pc := 16) 1 dX11_strokes_16 rfl ?_
      refine v_iconst (pc := 17) (0 : Int32) dX11_strokes_17 ci_0 ?_
      replace hf := bd_some hf; obtain ⟨r3, h4, hf⟩ := hf
      refine V_call (pc := 18) (us1 := [_]) [0] 0 (kX11_knotHolds (o := o) hk0 h4) rfl rfl rfl rfl rfl hk0 (Nat.le_of_ble_eq_true rfl) rfl rfl rfl wm_RX11_265 md_X11_knotHolds (Nat.le_of_ble_eq_true rfl) (Nat.le_of_ble_eq_true rfl) rfl rfl (Nat.le_of_ble_eq_true rfl) dX11_strokes_18 ?_
      refine v_iadd (pc := 21) dX11_strokes_21 ?_
      refine v_iload_n (pc := 22) 2 dX11_strokes_22 rfl ?_
      refine v_icmp_gt (pc := 23) 44 dX11_strokes_23 (by decide) (fun c5 => ?_) (fun c5 => ?_)
      · replace hf := it_t c5 hf
        have hf2 := Option.some.inj hf; subst hf2
        exact V_sub [0, 1, 2] rfl hx
      · replace hf := it_f c5 hf
        refine v_iload_n (pc := 26) 3 dX11_strokes_26 rfl ?_
        refine v_aload_n (pc := 27) 0 dX11_strokes_27 rfl ?_
        refine v_iload_n (pc := 28) 1 dX11_strokes_28 rfl ?_
        refine v_iconst (pc := 29) (0 : Int32) dX11_strokes_29 ci_0 ?_
        replace hf := bd_some hf; obtain ⟨r6, h7, hf⟩ := hf
        refine V_call (pc := 30) (us1 := [_]) [0] 0 (kX11_knotHolds (o := o) hk0 h7) rfl rfl rfl rfl rfl hk0 (Nat.le_of_ble_eq_true rfl) rfl rfl rfl wm_RX11_265 md_X11_knotHolds (Nat.le_of_ble_eq_true rfl) (Nat.le_of_ble_eq_true rfl) rfl rfl (Nat.le_of_ble_eq_true rfl) dX11_strokes_30 ?_
        refine v_iadd (pc := 33) dX11_strokes_33 ?_
        refine v_istore_n (pc := 34) [(3, _), (0, _), (1, _), (2, _)] dX11_strokes_34 (Nat.le_of_ble_eq_true rfl) rfl ?_
        refine v_aload_n (pc := 35) 1 dX11_strokes_35 rfl ?_
        refine v_iload_n (pc := 36) 2 dX11_strokes_36 rfl ?_
        refine v_iconst (pc := 37) (1 : Int32) dX11_strokes_37 ci_1 ?_
        replace hf := bd_some hf; obtain ⟨r8, h9, hf⟩ := hf
        refine V_call (pc := 38) (us1 := [_]) [0] 0 (kX11_draws (o := o) hk0 h9) rfl rfl rfl rfl rfl hk0 (Nat.le_of_ble_eq_true rfl) rfl rfl rfl wm_RX11_295 md_X11_draws (Nat.le_of_ble_eq_true rfl) (Nat.le_of_ble_eq_true rfl) rfl rfl (Nat.le_of_ble_eq_true rfl) dX11_strokes_38 ?_
        refine v_goto (pc := 41) 2 dX11_strokes_41 (by decide) ?_
        exact V_sub [1, 2, 3, 0] rfl (hrec hf)
set_option maxRecDepth 20000 in
theorem kX11_strokes {G : Wc} {o : Nat} {S : Ob} {a : Int32} {b : Int32} {r : Ob} (hk0 : kd o = 10) (hf : pX11_strokes S  a b = some r) : Cn yX11_strokes cX11_strokes 4 (none) 4 130 G [.ref (wA G o 0), .int a, .int b] [(o, S)] [(o, r)] none := by
  refine V_method [(0, .ref (wA G o 0)), (1, .int a), (2, .int b)] (by decide) rfl (Nat.le_of_ble_eq_true rfl) rfl (fun Γ hF => ?_)
  unfold pX11_strokes at hf
  refine v_iconst (pc := 0) (0 : Int32) dX11_strokes_0 ci_0 ?_
  refine v_istore_n (pc := 1) [(3, _), (0, _), (1, _), (2, _)] dX11_strokes_1 (Nat.le_of_ble_eq_true rfl) rfl ?_
  replace hf := bd_some hf; obtain ⟨r10, h11, hf⟩ := hf
  refine V_sub [1, 2, 3, 0] rfl (wX11_strokes_l2 hk0 fu h11 ?_)
  refine v_aload_n (pc := 44) 0 dX11_strokes_44 rfl ?_
  refine gf_RX11_33 (pc := 45) 0 rfl hk0 dX11_strokes_45 ?_
  refine v_sipush (pc := 48) (179 : Int32) dX11_strokes_48 cs_179 ?_
  refine v_iload_n (pc := 51) 1 dX11_strokes_51 rfl ?_
  refine v_iadd (pc := 52) dX11_strokes_52 ?_
  refine v_dup2 (pc := 53) dX11_strokes_53 rfl rfl ?_
  replace hf := gd_some hf; obtain ⟨g12, hf⟩ := hf
  refine al_X11_6 (pc := 54) _ 0 rfl hk0 rfl g12 dX11_strokes_54 ?_
  refine v_iload_n (pc := 55) 2 dX11_strokes_55 rfl ?_
  refine v_iadd (pc := 56) dX11_strokes_56 ?_
  replace hf := gd_some hf; obtain ⟨g13, hf⟩ := hf
  refine as_X11_6 (pc := 57) [_] _ 0 rfl hk0 rfl g13 rfl dX11_strokes_57 ?_
  refine v_aload_n (pc := 58) 0 dX11_strokes_58 rfl ?_
  refine gf_RX11_33 (pc := 59) 0 rfl hk0 dX11_strokes_59 ?_
  refine v_bipush (pc := 62) (122 : Int32) dX11_strokes_62 cb_122 ?_
  refine v_dup2 (pc := 64) dX11_strokes_64 rfl rfl ?_
  refine al_X11_6 (pc := 65) 122 0 rfl hk0 rfl ib_122_390 dX11_strokes_65 ?_
  refine v_iconst (pc := 66) (1 : Int32) dX11_strokes_66 ci_1 ?_
  refine v_iadd (pc := 67) dX11_strokes_67 ?_
  refine as_X11_6 (pc := 68) [_] 122 0 rfl hk0 rfl ib_122_390 rfl dX11_strokes_68 ?_
  have hf2 := Option.some.inj hf; subst hf2
  exact V_vret (pc := 69) hF dX11_strokes_69
set_option maxRecDepth 20000 in
theorem kX11_cuts {G : Wc} {o : Nat} {S : Ob} {a : Int32} {r : Ob} (hk0 : kd o = 10) (hf : pX11_cuts S  a = some r) : Cn yX11_cuts cX11_cuts 2 (none) 4 130 G [.ref (wA G o 0), .int a] [(o, S)] [(o, r)] none := by
  refine V_method [(0, .ref (wA G o 0)), (1, .int a)] (by decide) rfl (Nat.le_of_ble_eq_true rfl) rfl (fun Γ hF => ?_)
  unfold pX11_cuts at hf
  refine v_aload_n (pc := 0) 0 dX11_cuts_0 rfl ?_
  refine v_iload_n (pc := 1) 1 dX11_cuts_1 rfl ?_
  refine v_iconst (pc := 2) (0 : Int32) dX11_cuts_2 ci_0 ?_
  replace hf := bd_some hf; obtain ⟨r1, h2, hf⟩ := hf
  refine V_call (pc := 3) (us1 := [_]) [0] 0 (kX11_draws (o := o) hk0 h2) rfl rfl rfl rfl rfl hk0 (Nat.le_of_ble_eq_true rfl) rfl rfl rfl wm_RX11_295 md_X11_draws (Nat.le_of_ble_eq_true rfl) (Nat.le_of_ble_eq_true rfl) rfl rfl (Nat.le_of_ble_eq_true rfl) dX11_cuts_3 ?_
  refine v_aload_n (pc := 6) 0 dX11_cuts_6 rfl ?_
  refine gf_RX11_33 (pc := 7) 0 rfl hk0 dX11_cuts_7 ?_
  refine v_bipush (pc := 10) (123 : Int32) dX11_cuts_10 cb_123 ?_
  refine v_dup2 (pc := 12) dX11_cuts_12 rfl rfl ?_
  refine al_X11_6 (pc := 13) 123 0 rfl hk0 rfl ib_123_390 dX11_cuts_13 ?_
  refine v_iconst (pc := 14) (1 : Int32) dX11_cuts_14 ci_1 ?_
  refine v_iadd (pc := 15) dX11_cuts_15 ?_
  refine as_X11_6 (pc := 16) [_] 123 0 rfl hk0 rfl ib_123_390 rfl dX11_cuts_16 ?_
  have hf2 := Option.some.inj hf; subst hf2
  exact V_vret (pc := 17) hF dX11_cuts_17
set_option maxRecDepth 20000 in
theorem kX11_catches {G : Wc} {o : Nat} {S : Ob} {a : Int32} {b : Int32} {r : Ob} (hk0 : kd o = 10) (hf : pX11_catches S  a b = some r) : Cn yX11_catches cX11_catches 3 (none) 1 60 G [.ref (wA G o 0), .int a, .int b] [(o, S)] [(o, r)] none := by
  refine V_method [(0, .ref (wA G o 0)), (1, .int a), (2, .int b)] (by decide) rfl (Nat.le_of_ble_eq_true rfl) rfl (fun Γ hF => ?_)
  unfold pX11_catches at hf
  refine v_aload_n (pc := 0) 0 dX11_catches_0 rfl ?_
  refine gf_RX11_33 (pc := 1) 0 rfl hk0 dX11_catches_1 ?_
  refine v_sipush (pc := 4) (131 : Int32) dX11_catches_4 cs_131 ?_
  refine v_bipush (pc := 7) (8 : Int32) dX11_catches_7 cb_8 ?_
  refine v_iload_n (pc := 9) 1 dX11_catches_9 rfl ?_
  refine v_imul (pc := 10) dX11_catches_10 ?_
  refine v_iadd (pc := 11) dX11_catches_11 ?_
  refine v_aload_n (pc := 12) 0 dX11_catches_12 rfl ?_
  refine gf_RX11_33 (pc := 13) 0 rfl hk0 dX11_catches_13 ?_
  refine v_bipush (pc := 16) (125 : Int32) dX11_catches_16 cb_125 ?_
  refine v_iload_n (pc := 18) 1 dX11_catches_18 rfl ?_
  refine v_iadd (pc := 19) dX11_catches_19 ?_
  replace hf := gd_some hf; obtain ⟨g1, hf⟩ := hf
  refine al_X11_6 (pc := 20) _ 0 rfl hk0 rfl g1 dX11_catches_20 ?_
  refine v_iadd (pc := 21) dX11_catches_21 ?_
  refine v_iload_n (pc := 22) 2 dX11_catches_22 rfl ?_
  replace hf := gd_some hf; obtain ⟨g2, hf⟩ := hf
  refine as_X11_6 (pc := 23) [_] _ 0 rfl hk0 rfl g2 rfl dX11_catches_23 ?_
  refine v_aload_n (pc := 24) 0 dX11_catches_24 rfl ?_
  refine gf_RX11_33 (pc := 25) 0 rfl hk0 dX11_catches_25 ?_
  refine v_bipush (pc := 28) (125 : Int32) dX11_catches_28 cb_125 ?_
  refine v_iload_n (pc := 30) 1 dX11_catches_30 rfl ?_
  refine v_iadd (pc := 31) dX11_catches_31 ?_
  refine v_dup2 (pc := 32) dX11_catches_32 rfl rfl ?_
  replace hf := gd_some hf; obtain ⟨g3, hf⟩ := hf
  refine al_X11_6 (pc := 33) _ 0 rfl hk0 rfl g3 dX11_catches_33 ?_
  refine v_iconst (pc := 34) (1 : Int32) dX11_catches_34 ci_1 ?_
  refine v_iadd (pc := 35) dX11_catches_35 ?_
  replace hf := gd_some hf; obtain ⟨g4, hf⟩ := hf
  refine as_X11_6 (pc := 36) [_] _ 0 rfl hk0 rfl g4 rfl dX11_catches_36 ?_
  have hf2 := Option.some.inj hf; subst hf2
  exact V_vret (pc := 37) hF dX11_catches_37
set_option maxRecDepth 20000 in
theorem kX11_stuffs {G : Wc} {o : Nat} {S : Ob} {a : Int32} {b : Int32} {r : Ob} (hk0 : kd o = 10) (hf : pX11_stuffs S  a b = some r) : Cn yX11_stuffs cX11_stuffs 3 (none) 1 60 G [.ref (wA G o 0), .int a, .int b] [(o, S)] [(o, r)] none := by
  refine V_method [(0, .ref (wA G o 0)), (1, .int a), (2, .int b)] (by decide) rfl (Nat.le_of_ble_eq_true rfl) rfl (fun Γ hF => ?_)
  unfold pX11_stuffs at hf
  refine v_aload_n (pc := 0) 0 dX11_stuffs_0 rfl ?_
  refine gf_RX11_33 (pc := 1) 0 rfl hk0 dX11_stuffs_1 ?_
  refine v_sipush (pc := 4) (185 : Int32) dX11_stuffs_4 cs_185 ?_
  refine v_iload_n (pc := 7) 2 dX11_stuffs_7 rfl ?_
  refine v_iadd (pc := 8) dX11_stuffs_8 ?_
  refine v_dup2 (pc := 9) dX11_stuffs_9 rfl rfl ?_
  replace hf := gd_some hf; obtain ⟨g1, hf⟩ := hf
  refine al_X11_6 (pc := 10) _ 0 rfl hk0 rfl g1 dX11_stuffs_10 ?_
  refine v_iconst (pc := 11) (1 : Int32) dX11_stuffs_11 ci_1 ?_
  refine v_isub (pc := 12) dX11_stuffs_12 ?_
  replace hf := gd_some hf; obtain ⟨g2, hf⟩ := hf
  refine as_X11_6 (pc := 13) [_] _ 0 rfl hk0 rfl g2 rfl dX11_stuffs_13 ?_
  refine v_aload_n (pc := 14) 0 dX11_stuffs_14 rfl ?_
  refine gf_RX11_33 (pc := 15) 0 rfl hk0 dX11_stuffs_15 ?_
  refine v_sipush (pc := 18) (193 : Int32) dX11_stuffs_18 cs_193 ?_
  refine v_iload_n (pc := 21) 1 dX11_stuffs_21 rfl ?_
  refine v_iadd (pc := 22) dX11_stuffs_22 ?_
  refine v_dup2 (pc := 23) dX11_stuffs_23 rfl rfl ?_
  replace hf := gd_some hf; obtain ⟨g3, hf⟩ := hf
  refine al_X11_6 (pc := 24) _ 0 rfl hk0 rfl g3 dX11_stuffs_24 ?_
  refine v_aload_n (pc := 25) 0 dX11_stuffs_25 rfl ?_
  refine gf_RX11_33 (pc := 26) 0 rfl hk0 dX11_stuffs_26 ?_
  refine v_bipush (pc := 29) (13 : Int32) dX11_stuffs_29 cb_13 ?_
  refine v_iload_n (pc := 31) 2 dX11_stuffs_31 rfl ?_
  refine v_iadd (pc := 32) dX11_stuffs_32 ?_
  replace hf := gd_some hf; obtain ⟨g4, hf⟩ := hf
  refine al_X11_6 (pc := 33) _ 0 rfl hk0 rfl g4 dX11_stuffs_33 ?_
  refine v_iadd (pc := 34) dX11_stuffs_34 ?_
  replace hf := gd_some hf; obtain ⟨g5, hf⟩ := hf
  refine as_X11_6 (pc := 35) [_] _ 0 rfl hk0 rfl g5 rfl dX11_stuffs_35 ?_
  refine v_aload_n (pc := 36) 0 dX11_stuffs_36 rfl ?_
  refine gf_RX11_33 (pc := 37) 0 rfl hk0 dX11_stuffs_37 ?_
  refine v_sipush (pc := 40) (197 : Int32) dX11_stuffs_40 cs_197 ?_
  refine v_iload_n (pc := 43) 1 dX11_stuffs_43 rfl ?_
  refine v_iadd (pc := 44) dX11_stuffs_44 ?_
  refine v_dup2 (pc := 45) dX11_stuffs_45 rfl rfl ?_
  replace hf := gd_some hf; obtain ⟨g6, hf⟩ := hf
  refine al_X11_6 (pc := 46) _ 0 rfl hk0 rfl g6 dX11_stuffs_46 ?_
  refine v_iconst (pc := 47) (1 : Int32) dX11_stuffs_47 ci_1 ?_
  refine v_iadd (pc := 48) dX11_stuffs_48 ?_
  replace hf := gd_some hf; obtain ⟨g7, hf⟩ := hf
  refine as_X11_6 (pc := 49) [_] _ 0 rfl hk0 rfl g7 rfl dX11_stuffs_49 ?_
  refine v_aload_n (pc := 50) 0 dX11_stuffs_50 rfl ?_
  refine gf_RX11_33 (pc := 51) 0 rfl hk0 dX11_stuffs_51 ?_
  refine v_sipush (pc := 54) (201 : Int32) dX11_stuffs_54 cs_201 ?_
  refine v_iload_n (pc := 57) 2 dX11_stuffs_57 rfl ?_
  refine v_iadd (pc := 58) dX11_stuffs_58 ?_
  refine v_dup2 (pc := 59) dX11_stuffs_59 rfl rfl ?_
  replace hf := gd_some hf; obtain ⟨g8, hf⟩ := hf
  refine al_X11_6 (pc := 60) _ 0 rfl hk0 rfl g8 dX11_stuffs_60 ?_
  refine v_iconst (pc := 61) (1 : Int32) dX11_stuffs_61 ci_1 ?_
  refine v_iadd (pc := 62) dX11_stuffs_62 ?_
  replace hf := gd_some hf; obtain ⟨g9, hf⟩ := hf
  refine as_X11_6 (pc := 63) [_] _ 0 rfl hk0 rfl g9 rfl dX11_stuffs_63 ?_
  have hf2 := Option.some.inj hf; subst hf2
  exact V_vret (pc := 64) hF dX11_stuffs_64
set_option maxRecDepth 20000 in
theorem wX11_day_l2 {G : Wc} {Γ : Cx} {o : Nat}  (hk0 : kd o = 10) : ∀ (n : Nat) {l1 : Int32} {S : Ob} {r : Ob}, pX11_day_l2   n l1 S = some r → V cX11_day RX11 2 82 2 G Γ [(o, r)] 25 [(0, .ref (wA G o 0))] [] → V cX11_day RX11 2 82 2 G Γ [(o, S)] 2 [(0, .ref (wA G o 0)), (1, .int l1)] [] := by
  intro n
  induction n with
  | zero => intro l1 S r hf hx; unfold pX11_day_l2 at hf; cases hf
  | succ n ih =>
    intro l1 S r hf hx
    have hrec : ∀ {l1 : Int32} {S : Ob}, pX11_day_l2   n l1 S = some r → V cX11_day RX11 2 82 2 G Γ [(o, S)] 2 [(0, .ref (wA G o 0)), (1, .int l1)] [] := fun h => ih h hx
    clear ih
    unfold pX11_day_l2 at hf
    refine v_iload_n (pc := 2) 1 dX11_day_2 rfl ?_
    refine v_bipush (pc := 3) (6 : Int32) dX11_day_3 cb_6 ?_
    refine v_icmp_ge (pc := 5) 25 dX11_day_5 (by decide) (fun c1 => ?_) (fun c1 => ?_)
    · replace hf := it_t c1 hf
      have hf2 := Option.some.inj hf; subst hf2
      exact V_sub [0] rfl hx
    · replace hf := it_f c1 hf
      refine v_aload_n (pc := 8) 0 dX11_day_8 rfl ?_
      refine gf_RX11_33 (pc := 9) 0 rfl hk0 dX11_day_9 ?_
      refine v_sipush (pc := 12) (179 : Int32) dX11_day_12 cs_179 ?_
      refine v_iload_n (pc := 15) 1 dX11_day_15 rfl ?_
      refine v_iadd (pc := 16) dX11_day_16 ?_
      refine v_iconst (pc := 17) (0 : Int32) dX11_day_17 ci_0 ?_
      replace hf := gd_some hf; obtain ⟨g2, hf⟩ := hf
      refine as_X11_6 (pc := 18) [_] _ 0 rfl hk0 rfl g2 rfl dX11_day_18 ?_
      refine v_iinc (pc := 19) 1 (l1 + (1 : Int32)) [(1, _), (0, _)] dX11_day_19 rfl (congrArg (fun z => _ + z) ci_1) (Nat.le_of_ble_eq_true rfl) rfl ?_
      refine v_goto (pc := 22) 2 dX11_day_22 (by decide) ?_
      exact V_sub [1, 0] rfl (hrec hf)
set_option maxRecDepth 20000 in
theorem wX11_day_l27 {G : Wc} {Γ : Cx} {o : Nat}  (hk0 : kd o = 10) : ∀ (n : Nat) {l1 : Int32} {S : Ob} {r : Ob}, pX11_day_l27   n l1 S = some r → V cX11_day RX11 2 82 2 G Γ [(o, r)] 103 [(0, .ref (wA G o 0))] [] → V cX11_day RX11 2 82 2 G Γ [(o, S)] 27 [(0, .ref (wA G o 0)), (1, .int l1)] [] := by
  intro n
  induction n with
  | zero => intro l1 S r hf hx; unfold pX11_day_l27 at hf; cases hf
  | succ n ih =>
    intro l1 S r hf hx
    have hrec : ∀ {l1 : Int32} {S : Ob}, pX11_day_l27   n l1 S = some r → V cX11_day RX11 2 82 2 G Γ [(o, S)] 27 [(0, .ref (wA G o 0)), (1, .int l1)] [] := fun h => ih h hx
    clear ih
    unfold pX11_day_l27 at hf
    refine v_iload_n (pc := 27) 1 dX11_day_27 rfl ?_
    refine v_aload_n (pc := 28) 0 dX11_day_28 rfl ?_
    refine gf_RX11_33 (pc := 29) 0 rfl hk0 dX11_day_29 ?_
    refine v_iconst (pc := 32) (2 : Int32) dX11_day_32 ci_2 ?_
    refine al_X11_6 (pc := 33) 2 0 rfl hk0 rfl ib_2_390 dX11_day_33 ?_
    refine v_icmp_ge (pc := 34) 103 dX11_day_34 (by decide) (fun c5 => ?_) (fun c5 => ?_)
    · replace hf := it_t c5 hf
      have hf2 := Option.some.inj hf; subst hf2
      exact V_sub [0] rfl hx
    · replace hf := it_f c5 hf
      refine v_aload_n (pc := 37) 0 dX11_day_37 rfl ?_
      refine gf_RX11_33 (pc := 38) 0 rfl hk0 dX11_day_38 ?_
      refine v_bipush (pc := 41) (121 : Int32) dX11_day_41 cb_121 ?_
      refine al_X11_6 (pc := 43) 121 0 rfl hk0 rfl ib_121_390 dX11_day_43 ?_
      refine v_iconst (pc := 44) (1 : Int32) dX11_day_44 ci_1 ?_
      refine v_iadd (pc := 45) dX11_day_45 ?_
      refine v_aload_n (pc := 46) 0 dX11_day_46 rfl ?_
      refine gf_RX11_33 (pc := 47) 0 rfl hk0 dX11_day_47 ?_
      refine v_bipush (pc := 50) (105 : Int32) dX11_day_50 cb_105 ?_
      refine v_iload_n (pc := 52) 1 dX11_day_52 rfl ?_
      refine v_iadd (pc := 53) dX11_day_53 ?_
      replace hf := gd_some hf; obtain ⟨g6, hf⟩ := hf
      refine al_X11_6 (pc := 54) _ 0 rfl hk0 rfl g6 dX11_day_54 ?_
      replace hf := gd_some hf; obtain ⟨g7, hf⟩ := hf
      refine v_irem (pc := 55) dX11_day_55 (of_decide_eq_true g7) ?_
      refine v_if_ne (pc := 56) 97 dX11_day_56 (by decide) (fun c8 => ?_) (fun c8 => ?_)
      · replace hf := it_f c8 hf
        refine v_iinc (pc := 97) 1 (l1 + (1 : Int32)) [(1, _), (0, _)] dX11_day_97 rfl (congrArg (fun z => _ + z) ci_1) (Nat.le_of_ble_eq_true rfl) rfl ?_
        refine v_goto (pc := 100) 27 dX11_day_100 (by decide) ?_
        exact V_sub [1, 0] rfl (hrec hf)
      · replace hf := it_t c8 hf
        refine v_aload_n (pc := 59) 0 dX11_day_59 rfl ?_
        refine v_aload_n (pc := 60) 0 dX11_day_60 rfl ?_
        refine gf_RX11_33 (pc := 61) 0 rfl hk0 dX11_day_61 ?_
        refine v_bipush (pc := 64) (81 : Int32) dX11_day_64 cb_81 ?_
        refine v_iload_n (pc := 66) 1 dX11_day_66 rfl ?_
        refine v_iadd (pc := 67) dX11_day_67 ?_
        replace hf := gd_some hf; obtain ⟨g9, hf⟩ := hf
        refine al_X11_6 (pc := 68) _ 0 rfl hk0 rfl g9 dX11_day_68 ?_
        replace hf := bd_some hf; obtain ⟨r10, h11, hf⟩ := hf
        refine V_call (pc := 69) (us1 := [_]) [0] 0 (kX11_isNest (o := o) hk0 h11) rfl rfl rfl rfl rfl hk0 (Nat.le_of_ble_eq_true rfl) rfl rfl rfl wm_RX11_271 md_X11_isNest (Nat.le_of_ble_eq_true rfl) (Nat.le_of_ble_eq_true rfl) rfl rfl (Nat.le_of_ble_eq_true rfl) dX11_day_69 ?_
        refine v_if_ne (pc := 72) 97 dX11_day_72 (by decide) (fun c12 => ?_) (fun c12 => ?_)
        · replace hf := it_f c12 hf
          refine v_iinc (pc := 97) 1 (l1 + (1 : Int32)) [(1, _), (0, _)] dX11_day_97 rfl (congrArg (fun z => _ + z) ci_1) (Nat.le_of_ble_eq_true rfl) rfl ?_
          refine v_goto (pc := 100) 27 dX11_day_100 (by decide) ?_
          exact V_sub [1, 0] rfl (hrec hf)
        · replace hf := it_t c12 hf
          refine v_aload_n (pc := 75) 0 dX11_day_75 rfl ?_
          refine v_aload_n (pc := 76) 0 dX11_day_76 rfl ?_
          refine gf_RX11_33 (pc := 77) 0 rfl hk0 dX11_day_77 ?_
          refine v_bipush (pc := 80) (81 : Int32) dX11_day_80 cb_81 ?_
          refine v_iload_n (pc := 82) 1 dX11_day_82 rfl ?_
          refine v_iadd (pc := 83) dX11_day_83 ?_
          replace hf := gd_some hf; obtain ⟨g13, hf⟩ := hf
          refine al_X11_6 (pc := 84) _ 0 rfl hk0 rfl g13 dX11_day_84 ?_
          refine v_aload_n (pc := 85) 0 dX11_day_85 rfl ?_
          refine gf_RX11_33 (pc := 86) 0 rfl hk0 dX11_day_86 ?_
          refine v_bipush (pc := 89) (93 : Int32) dX11_day_89 cb_93 ?_
          refine v_iload_n (pc := 91) 1 dX11_day_91 rfl ?_
          refine v_iadd (pc := 92) dX11_day_92 ?_
          replace hf := gd_some hf; obtain ⟨g14, hf⟩ := hf
          refine al_X11_6 (pc := 93) _ 0 rfl hk0 rfl g14 dX11_day_93 ?_
          replace hf := bd_some hf; obtain ⟨r15, h16, hf⟩ := hf
          refine V_call (pc := 94) (us1 := [_]) [0] 0 (kX11_catches (o := o) hk0 h16) rfl rfl rfl rfl rfl hk0 (Nat.le_of_ble_eq_true rfl) rfl rfl rfl wm_RX11_299 md_X11_catches (Nat.le_of_ble_eq_true rfl) (Nat.le_of_ble_eq_true rfl) rfl rfl (Nat.le_of_ble_eq_true rfl) dX11_day_94 ?_
          refine v_iinc (pc := 97) 1 (l1 + (1 : Int32)) [(1, _), (0, _)] dX11_day_97 rfl (congrArg (fun z => _ + z) ci_1) (Nat.le_of_ble_eq_true rfl) rfl ?_
          refine v_goto (pc := 100) 27 dX11_day_100 (by decide) ?_
          exact V_sub [1, 0] rfl (hrec hf)
set_option maxRecDepth 20000 in
theorem kX11_day {G : Wc} {o : Nat} {S : Ob}  {r : Ob} (hk0 : kd o = 10) (hf : pX11_day S   = some r) : Cn yX11_day cX11_day 2 (none) 2 82 G [.ref (wA G o 0)] [(o, S)] [(o, r)] none := by
  refine V_method [(0, .ref (wA G o 0))] (by decide) rfl (Nat.le_of_ble_eq_true rfl) rfl (fun Γ hF => ?_)
  unfold pX11_day at hf
  refine v_iconst (pc := 0) (0 : Int32) dX11_day_0 ci_0 ?_
  refine v_istore_n (pc := 1) [(1, _), (0, _)] dX11_day_1 (Nat.le_of_ble_eq_true rfl) rfl ?_
  replace hf := bd_some hf; obtain ⟨r3, h4, hf⟩ := hf
  refine V_sub [1, 0] rfl (wX11_day_l2 hk0 fu h4 ?_)
  refine v_iconst (pc := 25) (0 : Int32) dX11_day_25 ci_0 ?_
  refine v_istore_n (pc := 26) [(1, _), (0, _)] dX11_day_26 (Nat.le_of_ble_eq_true rfl) rfl ?_
  replace hf := bd_some hf; obtain ⟨r17, h18, hf⟩ := hf
  refine V_sub [1, 0] rfl (wX11_day_l27 hk0 fu h18 ?_)
  refine v_aload_n (pc := 103) 0 dX11_day_103 rfl ?_
  refine gf_RX11_33 (pc := 104) 0 rfl hk0 dX11_day_104 ?_
  refine v_bipush (pc := 107) (121 : Int32) dX11_day_107 cb_121 ?_
  refine v_dup2 (pc := 109) dX11_day_109 rfl rfl ?_
  refine al_X11_6 (pc := 110) 121 0 rfl hk0 rfl ib_121_390 dX11_day_110 ?_
  refine v_iconst (pc := 111) (1 : Int32) dX11_day_111 ci_1 ?_
  refine v_iadd (pc := 112) dX11_day_112 ?_
  refine as_X11_6 (pc := 113) [_] 121 0 rfl hk0 rfl ib_121_390 rfl dX11_day_113 ?_
  have hf2 := Option.some.inj hf; subst hf2
  exact V_vret (pc := 114) hF dX11_day_114
set_option maxRecDepth 20000 in
theorem wX11_goesOn_l2 {G : Wc} {Γ : Cx} {o : Nat} {l1 : Int32} (hk0 : kd o = 10) : ∀ (n : Nat) {l2 : Int32} {S : Ob} {r : Int32 × Ob}, pX11_goesOn_l2  l1 n l2 S = some r → V cX11_goesOn RX11 3 103 3 G Γ [(o, r.2)] 30 [(2, .int r.1)] [] → V cX11_goesOn RX11 3 103 3 G Γ [(o, S)] 2 [(0, .ref (wA G o 0)), (1, .int l1), (2, .int l2)] [] := by
  intro n
  induction n with
  | zero => intro l2 S r hf hx; unfold pX11_goesOn_l2 at hf; cases hf
  | succ n ih =>
    intro l2 S r hf hx
    have hrec : ∀ {l2 : Int32} {S : Ob}, pX11_goesOn_l2  l1 n l2 S = some r → V cX11_goesOn RX11 3 103 3 G Γ [(o, S)] 2 [(0, .ref (wA G o 0)), (1, .int l1), (2, .int l2)] [] := fun h => ih h hx
    clear ih
    unfold pX11_goesOn_l2 at hf
    refine v_iload_n (pc := 2) 2 dX11_goesOn_2 rfl ?_
    refine v_iload_n (pc := 3) 1 dX11_goesOn_3 rfl ?_
    refine v_icmp_ge (pc := 4) 30 dX11_goesOn_4 (by decide) (fun c1 => ?_) (fun c1 => ?_)
    · replace hf := it_t c1 hf
      have hf2 := Option.some.inj hf; subst hf2
      exact V_sub [2] rfl hx
    · replace hf := it_f c1 hf
      refine v_aload_n (pc := 7) 0 dX11_goesOn_7 rfl ?_
      refine gf_RX11_33 (pc := 8) 0 rfl hk0 dX11_goesOn_8 ?_
      refine v_bipush (pc := 11) (121 : Int32) dX11_goesOn_11 cb_121 ?_
      refine al_X11_6 (pc := 13) 121 0 rfl hk0 rfl ib_121_390 dX11_goesOn_13 ?_
      refine v_sipush (pc := 14) (400 : Int32) dX11_goesOn_14 cs_400 ?_
      refine v_icmp_ge (pc := 17) 30 dX11_goesOn_17 (by decide) (fun c2 => ?_) (fun c2 => ?_)
      · replace hf := it_t c2 hf
        have hf2 := Option.some.inj hf; subst hf2
        exact V_sub [2] rfl hx
      · replace hf := it_f c2 hf
        refine v_aload_n (pc := 20) 0 dX11_goesOn_20 rfl ?_
        replace hf := bd_some hf; obtain ⟨r3, h4, hf⟩ := hf
        refine V_call (pc := 21) (us1 := [_]) [0] 0 (kX11_day (o := o) hk0 h4) rfl rfl rfl rfl rfl hk0 (Nat.le_of_ble_eq_true rfl) rfl rfl rfl wm_RX11_303 md_X11_day (Nat.le_of_ble_eq_true rfl) (Nat.le_of_ble_eq_true rfl) rfl rfl (Nat.le_of_ble_eq_true rfl) dX11_goesOn_21 ?_
        refine v_iinc (pc := 24) 2 (l2 + (1 : Int32)) [(2, _), (0, _), (1, _)] dX11_goesOn_24 rfl (congrArg (fun z => _ + z) ci_1) (Nat.le_of_ble_eq_true rfl) rfl ?_
        refine v_goto (pc := 27) 2 dX11_goesOn_27 (by decide) ?_
        exact V_sub [1, 2, 0] rfl (hrec hf)
set_option maxRecDepth 20000 in
theorem kX11_goesOn {G : Wc} {o : Nat} {S : Ob} {a : Int32} {r : Int32 × Ob} (hk0 : kd o = 10) (hf : pX11_goesOn S  a = some r) : Cn yX11_goesOn cX11_goesOn 3 (some .int) 3 103 G [.ref (wA G o 0), .int a] [(o, S)] [(o, r.2)] (some (.int r.1)) := by
  refine V_method [(0, .ref (wA G o 0)), (1, .int a)] (by decide) rfl (Nat.le_of_ble_eq_true rfl) rfl (fun Γ hF => ?_)
  unfold pX11_goesOn at hf
  refine v_iconst (pc := 0) (0 : Int32) dX11_goesOn_0 ci_0 ?_
  refine v_istore_n (pc := 1) [(2, _), (0, _), (1, _)] dX11_goesOn_1 (Nat.le_of_ble_eq_true rfl) rfl ?_
  replace hf := bd_some hf; obtain ⟨r5, h6, hf⟩ := hf
  refine V_sub [1, 2, 0] rfl (wX11_goesOn_l2 hk0 fu h6 ?_)
  refine v_iload_n (pc := 30) 0 dX11_goesOn_30 rfl ?_
  have hf2 := Option.some.inj hf; subst hf2
  exact V_iret (pc := 31) hF dX11_goesOn_31
set_option maxRecDepth 20000 in
theorem wX11_keep_l47 {G : Wc} {Γ : Cx} {o : Nat}  (hk0 : kd o = 10) : ∀ (n : Nat) {l1 : Int32} {S : Ob} {r : Ob}, pX11_keep_l47   n l1 S = some r → V cX11_keep RX11 1 60 2 G Γ [(o, r)] 82 [(0, .ref (wA G o 0))] [] → V cX11_keep RX11 1 60 2 G Γ [(o, S)] 47 [(0, .ref (wA G o 0)), (1, .int l1)] [] := by
  intro n
  induction n with
  | zero => intro l1 S r hf hx; unfold pX11_keep_l47 at hf; cases hf
  | succ n ih =>
    intro l1 S r hf hx
    have hrec : ∀ {l1 : Int32} {S : Ob}, pX11_keep_l47   n l1 S = some r → V cX11_keep RX11 1 60 2 G Γ [(o, S)] 47 [(0, .ref (wA G o 0)), (1, .int l1)] [] := fun h => ih h hx
    clear ih
    unfold pX11_keep_l47 at hf
    refine v_iload_n (pc := 47) 1 dX11_keep_47 rfl ?_
    refine v_bipush (pc := 48) (88 : Int32) dX11_keep_48 cb_88 ?_
    refine v_icmp_ge (pc := 50) 82 dX11_keep_50 (by decide) (fun c2 => ?_) (fun c2 => ?_)
    · replace hf := it_t c2 hf
      have hf2 := Option.some.inj hf; subst hf2
      exact V_sub [0] rfl hx
    · replace hf := it_f c2 hf
      refine v_aload_n (pc := 53) 0 dX11_keep_53 rfl ?_
      refine gf_RX11_50 (pc := 54) 0 rfl hk0 dX11_keep_54 ?_
      refine v_bipush (pc := 57) (88 : Int32) dX11_keep_57 cb_88 ?_
      refine v_aload_n (pc := 59) 0 dX11_keep_59 rfl ?_
      refine gf_RX11_242 (pc := 60) 0 rfl hk0 dX11_keep_60 ?_
      refine v_imul (pc := 63) dX11_keep_63 ?_
      refine v_iload_n (pc := 64) 1 dX11_keep_64 rfl ?_
      refine v_iadd (pc := 65) dX11_keep_65 ?_
      refine v_aload_n (pc := 66) 0 dX11_keep_66 rfl ?_
      refine gf_RX11_33 (pc := 67) 0 rfl hk0 dX11_keep_67 ?_
      refine v_bipush (pc := 70) (121 : Int32) dX11_keep_70 cb_121 ?_
      refine v_iload_n (pc := 72) 1 dX11_keep_72 rfl ?_
      refine v_iadd (pc := 73) dX11_keep_73 ?_
      replace hf := gd_some hf; obtain ⟨g3, hf⟩ := hf
      refine al_X11_6 (pc := 74) _ 0 rfl hk0 rfl g3 dX11_keep_74 ?_
      replace hf := gd_some hf; obtain ⟨g4, hf⟩ := hf
      refine as_X11_21 (pc := 75) [_] _ 0 rfl hk0 rfl g4 rfl dX11_keep_75 ?_
      refine v_iinc (pc := 76) 1 (l1 + (1 : Int32)) [(1, _), (0, _)] dX11_keep_76 rfl (congrArg (fun z => _ + z) ci_1) (Nat.le_of_ble_eq_true rfl) rfl ?_
      refine v_goto (pc := 79) 47 dX11_keep_79 (by decide) ?_
      exact V_sub [1, 0] rfl (hrec hf)
set_option maxRecDepth 20000 in
theorem wX11_keep_j45 {G : Wc} {Γ : Cx} {o : Nat} {S : Ob} {r : Ob} (hk0 : kd o = 10) (hF : Fnl G Γ (none) none (ov Γ.2.2.2 [(o, r)])) (hf : pX11_keep_j45 S = some r) : V cX11_keep RX11 1 60 2 G Γ [(o, S)] 45 [(0, .ref (wA G o 0))] [] := by
  unfold pX11_keep_j45 at hf
  refine v_iconst (pc := 45) (0 : Int32) dX11_keep_45 ci_0 ?_
  refine v_istore_n (pc := 46) [(1, _), (0, _)] dX11_keep_46 (Nat.le_of_ble_eq_true rfl) rfl ?_
  replace hf := bd_some hf; obtain ⟨r5, h6, hf⟩ := hf
  refine V_sub [1, 0] rfl (wX11_keep_l47 hk0 fu h6 ?_)
  refine v_aload_n (pc := 82) 0 dX11_keep_82 rfl ?_
  refine v_dup (pc := 83) dX11_keep_83 rfl ?_
  refine gf_RX11_242 (pc := 84) 0 rfl hk0 dX11_keep_84 ?_
  refine v_iconst (pc := 87) (1 : Int32) dX11_keep_87 ci_1 ?_
  refine v_iadd (pc := 88) dX11_keep_88 ?_
  refine pf_RX11_242 (pc := 89) [_] 0 rfl hk0 rfl dX11_keep_89 ?_
  have hf2 := Option.some.inj hf; subst hf2
  exact V_vret (pc := 92) hF dX11_keep_92
set_option maxRecDepth 20000 in
theorem wX11_keep_l11 {G : Wc} {Γ : Cx} {o : Nat}  (hk0 : kd o = 10) : ∀ (n : Nat) {l1 : Int32} {S : Ob} {r : Ob}, pX11_keep_l11   n l1 S = some r → V cX11_keep RX11 1 60 2 G Γ [(o, r)] 39 [(0, .ref (wA G o 0))] [] → V cX11_keep RX11 1 60 2 G Γ [(o, S)] 11 [(0, .ref (wA G o 0)), (1, .int l1)] [] := by
  intro n
  induction n with
  | zero => intro l1 S r hf hx; unfold pX11_keep_l11 at hf; cases hf
  | succ n ih =>
    intro l1 S r hf hx
    have hrec : ∀ {l1 : Int32} {S : Ob}, pX11_keep_l11   n l1 S = some r → V cX11_keep RX11 1 60 2 G Γ [(o, S)] 11 [(0, .ref (wA G o 0)), (1, .int l1)] [] := fun h => ih h hx
    clear ih
    unfold pX11_keep_l11 at hf
    refine v_iload_n (pc := 11) 1 dX11_keep_11 rfl ?_
    refine v_sipush (pc := 12) (616 : Int32) dX11_keep_12 cs_616 ?_
    refine v_icmp_ge (pc := 15) 39 dX11_keep_15 (by decide) (fun c7 => ?_) (fun c7 => ?_)
    · replace hf := it_t c7 hf
      have hf2 := Option.some.inj hf; subst hf2
      exact V_sub [0] rfl hx
    · replace hf := it_f c7 hf
      refine v_aload_n (pc := 18) 0 dX11_keep_18 rfl ?_
      refine gf_RX11_50 (pc := 19) 0 rfl hk0 dX11_keep_19 ?_
      refine v_iload_n (pc := 22) 1 dX11_keep_22 rfl ?_
      refine v_aload_n (pc := 23) 0 dX11_keep_23 rfl ?_
      refine gf_RX11_50 (pc := 24) 0 rfl hk0 dX11_keep_24 ?_
      refine v_iload_n (pc := 27) 1 dX11_keep_27 rfl ?_
      refine v_bipush (pc := 28) (88 : Int32) dX11_keep_28 cb_88 ?_
      refine v_iadd (pc := 30) dX11_keep_30 ?_
      replace hf := gd_some hf; obtain ⟨g8, hf⟩ := hf
      refine al_X11_21 (pc := 31) _ 0 rfl hk0 rfl g8 dX11_keep_31 ?_
      replace hf := gd_some hf; obtain ⟨g9, hf⟩ := hf
      refine as_X11_21 (pc := 32) [_] _ 0 rfl hk0 rfl g9 rfl dX11_keep_32 ?_
      refine v_iinc (pc := 33) 1 (l1 + (1 : Int32)) [(1, _), (0, _)] dX11_keep_33 rfl (congrArg (fun z => _ + z) ci_1) (Nat.le_of_ble_eq_true rfl) rfl ?_
      refine v_goto (pc := 36) 11 dX11_keep_36 (by decide) ?_
      exact V_sub [1, 0] rfl (hrec hf)
set_option maxRecDepth 20000 in
theorem kX11_keep {G : Wc} {o : Nat} {S : Ob}  {r : Ob} (hk0 : kd o = 10) (hf : pX11_keep S   = some r) : Cn yX11_keep cX11_keep 2 (none) 1 60 G [.ref (wA G o 0)] [(o, S)] [(o, r)] none := by
  refine V_method [(0, .ref (wA G o 0))] (by decide) rfl (Nat.le_of_ble_eq_true rfl) rfl (fun Γ hF => ?_)
  unfold pX11_keep at hf
  refine v_aload_n (pc := 0) 0 dX11_keep_0 rfl ?_
  refine gf_RX11_242 (pc := 1) 0 rfl hk0 dX11_keep_1 ?_
  refine v_bipush (pc := 4) (8 : Int32) dX11_keep_4 cb_8 ?_
  refine v_icmp_ne (pc := 6) 45 dX11_keep_6 (by decide) (fun c1 => ?_) (fun c1 => ?_)
  · replace hf := it_f c1 hf
    exact V_sub [0] rfl (wX11_keep_j45 hk0 hF hf)
  · replace hf := it_t c1 hf
    refine v_iconst (pc := 9) (0 : Int32) dX11_keep_9 ci_0 ?_
    refine v_istore_n (pc := 10) [(1, _), (0, _)] dX11_keep_10 (Nat.le_of_ble_eq_true rfl) rfl ?_
    replace hf := bd_some hf; obtain ⟨r10, h11, hf⟩ := hf
    refine V_sub [1, 0] rfl (wX11_keep_l11 hk0 fu h11 ?_)
    refine v_aload_n (pc := 39) 0 dX11_keep_39 rfl ?_
    refine v_bipush (pc := 40) (7 : Int32) dX11_keep_40 cb_7 ?_
    refine pf_RX11_242 (pc := 42) [_] 0 rfl hk0 rfl dX11_keep_42 ?_
    exact V_sub [0] rfl (wX11_keep_j45 hk0 hF hf)
