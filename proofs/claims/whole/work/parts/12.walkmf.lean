set_option maxRecDepth 20000 in
theorem wX11_spells_l3 {G : Wc} {Γ : Cx} {o : Nat} {l1 : Int64} (hk0 : kd o = 10) : ∀ (n : Nat) {l3 : Int32} {S : Ob} {r : Ob}, pX11_spells_l3  l1 n l3 S = some r → V cX11_spells RX11 2 81 4 G Γ [(o, r)] 37 [] [] → V cX11_spells RX11 2 81 4 G Γ [(o, S)] 3 [(0, .ref (wA G o 0)), (1, .long l1), (3, .int l3)] [] := by
  intro n
  induction n with
  | zero => intro l3 S r hf hx; unfold pX11_spells_l3 at hf; cases hf
  | succ n ih =>
    intro l3 S r hf hx
    have hrec : ∀ {l3 : Int32} {S : Ob}, pX11_spells_l3  l1 n l3 S = some r → V cX11_spells RX11 2 81 4 G Γ [(o, S)] 3 [(0, .ref (wA G o 0)), (1, .long l1), (3, .int l3)] [] := fun h => ih h hx
    clear ih
    unfold pX11_spells_l3 at hf
    refine v_iload_n (pc := 3) 2 dX11_spells_3 rfl ?_
    refine v_if_lt (pc := 4) 37 dX11_spells_4 (by decide) (fun c1 => ?_) (fun c1 => ?_)
    · replace hf := it_t c1 hf
      have hf2 := Option.some.inj hf; subst hf2
      exact V_sub [] rfl hx
    · replace hf := it_f c1 hf
      refine v_lload_n (pc := 7) 1 dX11_spells_7 rfl ?_
      refine v_iload_n (pc := 8) 2 dX11_spells_8 rfl ?_
      refine v_lshr (pc := 9) dX11_spells_9 ?_
      refine v_ldc2_w (pc := 10) dX11_spells_10 wc_RX11_381 ?_
      refine v_land (pc := 13) dX11_spells_13 ?_
      refine v_lconst (pc := 14) (0 : Int64) dX11_spells_14 rfl ?_
      refine v_lcmp (pc := 15) dX11_spells_15 ?_
      refine v_if_eq (pc := 16) 31 dX11_spells_16 (by decide) (fun c2 => ?_) (fun c2 => ?_)
      · replace hf := it_t c2 hf
        refine v_iinc (pc := 31) 2 (l3 + (-8 : Int32)) [(3, _), (0, _), (1, _)] dX11_spells_31 rfl (congrArg (fun z => _ + z) ci_m8) (Nat.le_of_ble_eq_true rfl) rfl ?_
        refine v_goto (pc := 34) 3 dX11_spells_34 (by decide) ?_
        exact V_sub [1, 2, 0] rfl (hrec hf)
      · replace hf := it_f c2 hf
        refine v_aload_n (pc := 19) 0 dX11_spells_19 rfl ?_
        refine v_lload_n (pc := 20) 1 dX11_spells_20 rfl ?_
        refine v_iload_n (pc := 21) 2 dX11_spells_21 rfl ?_
        refine v_lshr (pc := 22) dX11_spells_22 ?_
        refine v_ldc2_w (pc := 23) dX11_spells_23 wc_RX11_381 ?_
        refine v_land (pc := 26) dX11_spells_26 ?_
        refine v_l2i (pc := 27) dX11_spells_27 ?_
        replace hf := bd_some hf; obtain ⟨r3, h4, hf⟩ := hf
        refine V_call (pc := 28) (us1 := [_]) [0] 0 (kX11_lays (o := o) hk0 h4) rfl rfl rfl rfl rfl hk0 (Nat.le_of_ble_eq_true rfl) rfl rfl rfl wm_RX11_383 md_X11_lays (Nat.le_of_ble_eq_true rfl) (Nat.le_of_ble_eq_true rfl) rfl rfl (Nat.le_of_ble_eq_true rfl) dX11_spells_28 ?_
        refine v_iinc (pc := 31) 2 (l3 + (-8 : Int32)) [(3, _), (0, _), (1, _)] dX11_spells_31 rfl (congrArg (fun z => _ + z) ci_m8) (Nat.le_of_ble_eq_true rfl) rfl ?_
        refine v_goto (pc := 34) 3 dX11_spells_34 (by decide) ?_
        exact V_sub [1, 2, 0] rfl (hrec hf)
set_option maxRecDepth 20000 in
theorem kX11_spells {G : Wc} {o : Nat} {S : Ob} {a : Int64} {r : Ob} (hk0 : kd o = 10) (hf : pX11_spells S  a = some r) : Cn yX11_spells cX11_spells 4 (none) 2 81 G [.ref (wA G o 0), .long a] [(o, S)] [(o, r)] none := by
  refine V_method [(0, .ref (wA G o 0)), (1, .long a)] (by decide) rfl (Nat.le_of_ble_eq_true rfl) rfl (fun Γ hF => ?_)
  unfold pX11_spells at hf
  refine v_bipush (pc := 0) (56 : Int32) dX11_spells_0 cb_56 ?_
  refine v_istore_n (pc := 2) [(3, _), (0, _), (1, _)] dX11_spells_2 (Nat.le_of_ble_eq_true rfl) rfl ?_
  replace hf := bd_some hf; obtain ⟨r5, h6, hf⟩ := hf
  refine V_sub [1, 2, 0] rfl (wX11_spells_l3 hk0 fu h6 ?_)
  have hf2 := Option.some.inj hf; subst hf2
  exact V_vret (pc := 37) hF dX11_spells_37
set_option maxRecDepth 20000 in
theorem kX11_says {G : Wc} {o : Nat} {S : Ob} {a : Int64} {r : Ob} (hk0 : kd o = 10) (hf : pX11_says S  a = some r) : Cn yX11_says cX11_says 3 (none) 3 104 G [.ref (wA G o 0), .long a] [(o, S)] [(o, r)] none := by
  refine V_method [(0, .ref (wA G o 0)), (1, .long a)] (by decide) rfl (Nat.le_of_ble_eq_true rfl) rfl (fun Γ hF => ?_)
  unfold pX11_says at hf
  refine v_aload_n (pc := 0) 0 dX11_says_0 rfl ?_
  refine v_bipush (pc := 1) (32 : Int32) dX11_says_1 cb_32 ?_
  replace hf := bd_some hf; obtain ⟨r1, h2, hf⟩ := hf
  refine V_call (pc := 3) (us1 := [_]) [0] 0 (kX11_lays (o := o) hk0 h2) rfl rfl rfl rfl rfl hk0 (Nat.le_of_ble_eq_true rfl) rfl rfl rfl wm_RX11_383 md_X11_lays (Nat.le_of_ble_eq_true rfl) (Nat.le_of_ble_eq_true rfl) rfl rfl (Nat.le_of_ble_eq_true rfl) dX11_says_3 ?_
  refine v_aload_n (pc := 6) 0 dX11_says_6 rfl ?_
  refine v_lload_n (pc := 7) 1 dX11_says_7 rfl ?_
  replace hf := bd_some hf; obtain ⟨r3, h4, hf⟩ := hf
  refine V_call (pc := 8) (us1 := [_]) [0] 0 (kX11_spells (o := o) hk0 h4) rfl rfl rfl rfl rfl hk0 (Nat.le_of_ble_eq_true rfl) rfl rfl rfl wm_RX11_386 md_X11_spells (Nat.le_of_ble_eq_true rfl) (Nat.le_of_ble_eq_true rfl) rfl rfl (Nat.le_of_ble_eq_true rfl) dX11_says_8 ?_
  have hf2 := Option.some.inj hf; subst hf2
  exact V_vret (pc := 11) hF dX11_says_11
set_option maxRecDepth 20000 in
theorem wX11_tag_l86 {G : Wc} {Γ : Cx} {o : Nat} {S : Ob} {l1 : Int32} {l3 : Int32} (hk0 : kd o = 10) : ∀ (n : Nat) {l2 : Int32} {l4 : Int32} {r : Int32 × Int32}, pX11_tag_l86  S l1 l3 n l2 l4 = some r → V cX11_tag RX11 4 126 5 G Γ [(o, S)] 127 [(0, .ref (wA G o 0)), (1, .int l1), (2, .int r.1), (3, .int l3), (4, .int r.2)] [] → V cX11_tag RX11 4 126 5 G Γ [(o, S)] 86 [(0, .ref (wA G o 0)), (1, .int l1), (2, .int l2), (3, .int l3), (4, .int l4)] [] := by
  intro n
  induction n with
  | zero => intro l2 l4 r hf hx; unfold pX11_tag_l86 at hf; cases hf
  | succ n ih =>
    intro l2 l4 r hf hx
    have hrec : ∀ {l2 : Int32} {l4 : Int32}, pX11_tag_l86  S l1 l3 n l2 l4 = some r → V cX11_tag RX11 4 126 5 G Γ [(o, S)] 86 [(0, .ref (wA G o 0)), (1, .int l1), (2, .int l2), (3, .int l3), (4, .int l4)] [] := fun h => ih h hx
    clear ih
    unfold pX11_tag_l86 at hf
    refine v_iload_n (pc := 86) 2 dX11_tag_86 rfl ?_
    refine v_aload_n (pc := 87) 0 dX11_tag_87 rfl ?_
    refine gf_RX11_33 (pc := 88) 0 rfl hk0 dX11_tag_88 ?_
    refine v_bipush (pc := 91) (125 : Int32) dX11_tag_91 cb_125 ?_
    refine v_iload_n (pc := 93) 1 dX11_tag_93 rfl ?_
    refine v_iadd (pc := 94) dX11_tag_94 ?_
    replace hf := gd_some hf; obtain ⟨g12, hf⟩ := hf
    refine al_X11_6 (pc := 95) _ 0 rfl hk0 rfl g12 dX11_tag_95 ?_
    refine v_icmp_ge (pc := 96) 127 dX11_tag_96 (by decide) (fun c13 => ?_) (fun c13 => ?_)
    · replace hf := it_t c13 hf
      have hf2 := Option.some.inj hf; subst hf2
      exact V_sub [0, 1, 2, 3, 4] rfl hx
    · replace hf := it_f c13 hf
      refine v_aload_n (pc := 99) 0 dX11_tag_99 rfl ?_
      refine gf_RX11_33 (pc := 100) 0 rfl hk0 dX11_tag_100 ?_
      refine v_sipush (pc := 103) (131 : Int32) dX11_tag_103 cs_131 ?_
      refine v_bipush (pc := 106) (8 : Int32) dX11_tag_106 cb_8 ?_
      refine v_iload_n (pc := 108) 1 dX11_tag_108 rfl ?_
      refine v_imul (pc := 109) dX11_tag_109 ?_
      refine v_iadd (pc := 110) dX11_tag_110 ?_
      refine v_iload_n (pc := 111) 2 dX11_tag_111 rfl ?_
      refine v_iadd (pc := 112) dX11_tag_112 ?_
      replace hf := gd_some hf; obtain ⟨g14, hf⟩ := hf
      refine al_X11_6 (pc := 113) _ 0 rfl hk0 rfl g14 dX11_tag_113 ?_
      refine v_iload_n (pc := 114) 3 dX11_tag_114 rfl ?_
      refine v_icmp_ne (pc := 115) 127 dX11_tag_115 (by decide) (fun c15 => ?_) (fun c15 => ?_)
      · replace hf := it_f c15 hf
        have hf2 := Option.some.inj hf; subst hf2
        exact V_sub [0, 1, 2, 3, 4] rfl hx
      · replace hf := it_t c15 hf
        refine v_iinc (pc := 118) 2 (l2 + (1 : Int32)) [(2, _), (0, _), (1, _), (3, _), (4, _)] dX11_tag_118 rfl (congrArg (fun z => _ + z) ci_1) (Nat.le_of_ble_eq_true rfl) rfl ?_
        refine v_iinc (pc := 121) 4 (l4 + (1 : Int32)) [(4, _), (2, _), (0, _), (1, _), (3, _)] dX11_tag_121 rfl (congrArg (fun z => _ + z) ci_1) (Nat.le_of_ble_eq_true rfl) rfl ?_
        refine v_goto (pc := 124) 86 dX11_tag_124 (by decide) ?_
        exact V_sub [2, 3, 1, 4, 0] rfl (hrec hf)
set_option maxRecDepth 20000 in
theorem wX11_tag_l54 {G : Wc} {Γ : Cx} {o : Nat} {l1 : Int32} (hk0 : kd o = 10) : ∀ (n : Nat) {l2 : Int32} {S : Ob} {r : Ob}, pX11_tag_l54  l1 n l2 S = some r → V cX11_tag RX11 4 126 5 G Γ [(o, r)] 155 [(0, .ref (wA G o 0))] [] → V cX11_tag RX11 4 126 5 G Γ [(o, S)] 54 [(0, .ref (wA G o 0)), (1, .int l1), (2, .int l2)] [] := by
  intro n
  induction n with
  | zero => intro l2 S r hf hx; unfold pX11_tag_l54 at hf; cases hf
  | succ n ih =>
    intro l2 S r hf hx
    have hrec : ∀ {l2 : Int32} {S : Ob}, pX11_tag_l54  l1 n l2 S = some r → V cX11_tag RX11 4 126 5 G Γ [(o, S)] 54 [(0, .ref (wA G o 0)), (1, .int l1), (2, .int l2)] [] := fun h => ih h hx
    clear ih
    unfold pX11_tag_l54 at hf
    refine v_iload_n (pc := 54) 2 dX11_tag_54 rfl ?_
    refine v_aload_n (pc := 55) 0 dX11_tag_55 rfl ?_
    refine gf_RX11_33 (pc := 56) 0 rfl hk0 dX11_tag_56 ?_
    refine v_bipush (pc := 59) (125 : Int32) dX11_tag_59 cb_125 ?_
    refine v_iload_n (pc := 61) 1 dX11_tag_61 rfl ?_
    refine v_iadd (pc := 62) dX11_tag_62 ?_
    replace hf := gd_some hf; obtain ⟨g9, hf⟩ := hf
    refine al_X11_6 (pc := 63) _ 0 rfl hk0 rfl g9 dX11_tag_63 ?_
    refine v_icmp_ge (pc := 64) 155 dX11_tag_64 (by decide) (fun c10 => ?_) (fun c10 => ?_)
    · replace hf := it_t c10 hf
      have hf2 := Option.some.inj hf; subst hf2
      exact V_sub [0] rfl hx
    · replace hf := it_f c10 hf
      refine v_aload_n (pc := 67) 0 dX11_tag_67 rfl ?_
      refine gf_RX11_33 (pc := 68) 0 rfl hk0 dX11_tag_68 ?_
      refine v_sipush (pc := 71) (131 : Int32) dX11_tag_71 cs_131 ?_
      refine v_bipush (pc := 74) (8 : Int32) dX11_tag_74 cb_8 ?_
      refine v_iload_n (pc := 76) 1 dX11_tag_76 rfl ?_
      refine v_imul (pc := 77) dX11_tag_77 ?_
      refine v_iadd (pc := 78) dX11_tag_78 ?_
      refine v_iload_n (pc := 79) 2 dX11_tag_79 rfl ?_
      refine v_iadd (pc := 80) dX11_tag_80 ?_
      replace hf := gd_some hf; obtain ⟨g11, hf⟩ := hf
      refine al_X11_6 (pc := 81) _ 0 rfl hk0 rfl g11 dX11_tag_81 ?_
      refine v_istore_n (pc := 82) [(3, _), (0, _), (1, _), (2, _)] dX11_tag_82 (Nat.le_of_ble_eq_true rfl) rfl ?_
      refine v_iconst (pc := 83) (0 : Int32) dX11_tag_83 ci_0 ?_
      refine v_istore (pc := 84) [(4, _), (3, _), (0, _), (1, _), (2, _)] dX11_tag_84 (Nat.le_of_ble_eq_true rfl) rfl ?_
      replace hf := bd_some hf; obtain ⟨r16, h17, hf⟩ := hf
      refine V_sub [2, 3, 4, 1, 0] rfl (wX11_tag_l86 hk0 fu h17 ?_)
      refine v_aload_n (pc := 127) 0 dX11_tag_127 rfl ?_
      refine v_aload_n (pc := 128) 0 dX11_tag_128 rfl ?_
      refine gf_RX11_43 (pc := 129) 0 rfl hk0 dX11_tag_129 ?_
      refine v_iload_n (pc := 132) 3 dX11_tag_132 rfl ?_
      replace hf := gd_some hf; obtain ⟨g18, hf⟩ := hf
      refine al_X11_9 (pc := 133) _ 0 rfl hk0 rfl g18 dX11_tag_133 ?_
      replace hf := bd_some hf; obtain ⟨r19, h20, hf⟩ := hf
      refine V_call (pc := 134) (us1 := [_]) [0] 0 (kX11_says (o := o) hk0 h20) rfl rfl rfl rfl rfl hk0 (Nat.le_of_ble_eq_true rfl) rfl rfl rfl wm_RX11_390 md_X11_says (Nat.le_of_ble_eq_true rfl) (Nat.le_of_ble_eq_true rfl) rfl rfl (Nat.le_of_ble_eq_true rfl) dX11_tag_134 ?_
      refine v_iload (pc := 137) 4 dX11_tag_137 rfl ?_
      refine v_iconst (pc := 139) (1 : Int32) dX11_tag_139 ci_1 ?_
      refine v_icmp_le (pc := 140) 152 dX11_tag_140 (by decide) (fun c21 => ?_) (fun c21 => ?_)
      · replace hf := it_t c21 hf
        refine v_goto (pc := 152) 54 dX11_tag_152 (by decide) ?_
        exact V_sub [0, 1, 2] rfl (hrec hf)
      · replace hf := it_f c21 hf
        refine v_aload_n (pc := 143) 0 dX11_tag_143 rfl ?_
        refine v_bipush (pc := 144) (48 : Int32) dX11_tag_144 cb_48 ?_
        refine v_iload (pc := 146) 4 dX11_tag_146 rfl ?_
        refine v_iadd (pc := 148) dX11_tag_148 ?_
        replace hf := bd_some hf; obtain ⟨r22, h23, hf⟩ := hf
        refine V_call (pc := 149) (us1 := [_]) [0] 0 (kX11_lays (o := o) hk0 h23) rfl rfl rfl rfl rfl hk0 (Nat.le_of_ble_eq_true rfl) rfl rfl rfl wm_RX11_383 md_X11_lays (Nat.le_of_ble_eq_true rfl) (Nat.le_of_ble_eq_true rfl) rfl rfl (Nat.le_of_ble_eq_true rfl) dX11_tag_149 ?_
        refine v_goto (pc := 152) 54 dX11_tag_152 (by decide) ?_
        exact V_sub [0, 1, 2] rfl (hrec hf)
set_option maxRecDepth 20000 in
theorem wX11_tag_j52 {G : Wc} {Γ : Cx} {o : Nat} {S : Ob} {l1 : Int32} {r : Int32 × Ob} (hk0 : kd o = 10) (hF : Fnl G Γ (some .int) (some (.int r.1)) (ov Γ.2.2.2 [(o, r.2)])) (hf : pX11_tag_j52 S l1 = some r) : V cX11_tag RX11 4 126 5 G Γ [(o, S)] 52 [(0, .ref (wA G o 0)), (1, .int l1)] [] := by
  unfold pX11_tag_j52 at hf
  refine v_iconst (pc := 52) (0 : Int32) dX11_tag_52 ci_0 ?_
  refine v_istore_n (pc := 53) [(2, _), (0, _), (1, _)] dX11_tag_53 (Nat.le_of_ble_eq_true rfl) rfl ?_
  replace hf := bd_some hf; obtain ⟨r24, h25, hf⟩ := hf
  refine V_sub [1, 2, 0] rfl (wX11_tag_l54 hk0 fu h25 ?_)
  refine v_aload_n (pc := 155) 0 dX11_tag_155 rfl ?_
  refine gf_RX11_378 (pc := 156) 0 rfl hk0 dX11_tag_156 ?_
  have hf2 := Option.some.inj hf; subst hf2
  exact V_iret (pc := 159) hF dX11_tag_159
set_option maxRecDepth 20000 in
theorem kX11_tag {G : Wc} {o : Nat} {S : Ob} {a : Int32} {r : Int32 × Ob} (hk0 : kd o = 10) (hf : pX11_tag S  a = some r) : Cn yX11_tag cX11_tag 5 (some .int) 4 126 G [.ref (wA G o 0), .int a] [(o, S)] [(o, r.2)] (some (.int r.1)) := by
  refine V_method [(0, .ref (wA G o 0)), (1, .int a)] (by decide) rfl (Nat.le_of_ble_eq_true rfl) rfl (fun Γ hF => ?_)
  unfold pX11_tag at hf
  refine v_aload_n (pc := 0) 0 dX11_tag_0 rfl ?_
  refine v_iconst (pc := 1) (0 : Int32) dX11_tag_1 ci_0 ?_
  refine pf_RX11_1 (pc := 2) [_] 0 rfl hk0 rfl dX11_tag_2 ?_
  refine v_aload_n (pc := 5) 0 dX11_tag_5 rfl ?_
  refine v_iload_n (pc := 6) 1 dX11_tag_6 rfl ?_
  replace hf := bd_some hf; obtain ⟨r1, h2, hf⟩ := hf
  refine V_call (pc := 7) (us1 := [_]) [0] 0 (kX11_isPerson (o := o) hk0 h2) rfl rfl rfl rfl rfl hk0 (Nat.le_of_ble_eq_true rfl) rfl rfl rfl wm_RX11_254 md_X11_isPerson (Nat.le_of_ble_eq_true rfl) (Nat.le_of_ble_eq_true rfl) rfl rfl (Nat.le_of_ble_eq_true rfl) dX11_tag_7 ?_
  refine v_if_ne (pc := 10) 15 dX11_tag_10 (by decide) (fun c3 => ?_) (fun c3 => ?_)
  · replace hf := it_f c3 hf
    refine v_aload_n (pc := 15) 0 dX11_tag_15 rfl ?_
    refine v_iconst (pc := 16) (0 : Int32) dX11_tag_16 ci_0 ?_
    refine pf_RX11_378 (pc := 17) [_] 0 rfl hk0 rfl dX11_tag_17 ?_
    refine v_aload_n (pc := 20) 0 dX11_tag_20 rfl ?_
    refine v_aload_n (pc := 21) 0 dX11_tag_21 rfl ?_
    refine gf_RX11_43 (pc := 22) 0 rfl hk0 dX11_tag_22 ?_
    refine v_bipush (pc := 25) (8 : Int32) dX11_tag_25 cb_8 ?_
    refine v_iload_n (pc := 27) 1 dX11_tag_27 rfl ?_
    refine v_iadd (pc := 28) dX11_tag_28 ?_
    replace hf := gd_some hf; obtain ⟨g4, hf⟩ := hf
    refine al_X11_9 (pc := 29) _ 0 rfl hk0 rfl g4 dX11_tag_29 ?_
    replace hf := bd_some hf; obtain ⟨r5, h6, hf⟩ := hf
    refine V_call (pc := 30) (us1 := [_]) [0] 0 (kX11_spells (o := o) hk0 h6) rfl rfl rfl rfl rfl hk0 (Nat.le_of_ble_eq_true rfl) rfl rfl rfl wm_RX11_386 md_X11_spells (Nat.le_of_ble_eq_true rfl) (Nat.le_of_ble_eq_true rfl) rfl rfl (Nat.le_of_ble_eq_true rfl) dX11_tag_30 ?_
    refine v_aload_n (pc := 33) 0 dX11_tag_33 rfl ?_
    refine gf_RX11_33 (pc := 34) 0 rfl hk0 dX11_tag_34 ?_
    refine v_bipush (pc := 37) (125 : Int32) dX11_tag_37 cb_125 ?_
    refine v_iload_n (pc := 39) 1 dX11_tag_39 rfl ?_
    refine v_iadd (pc := 40) dX11_tag_40 ?_
    replace hf := gd_some hf; obtain ⟨g7, hf⟩ := hf
    refine al_X11_6 (pc := 41) _ 0 rfl hk0 rfl g7 dX11_tag_41 ?_
    refine v_if_ne (pc := 42) 52 dX11_tag_42 (by decide) (fun c8 => ?_) (fun c8 => ?_)
    · replace hf := it_f c8 hf
      exact V_sub [0, 1] rfl (wX11_tag_j52 hk0 hF hf)
    · replace hf := it_t c8 hf
      refine v_aload_n (pc := 45) 0 dX11_tag_45 rfl ?_
      refine v_ldc2_w (pc := 46) dX11_tag_46 wc_RX11_115 ?_
      replace hf := bd_some hf; obtain ⟨r26, h27, hf⟩ := hf
      refine V_call (pc := 49) (us1 := [_]) [0] 0 (kX11_says (o := o) hk0 h27) rfl rfl rfl rfl rfl hk0 (Nat.le_of_ble_eq_true rfl) rfl rfl rfl wm_RX11_390 md_X11_says (Nat.le_of_ble_eq_true rfl) (Nat.le_of_ble_eq_true rfl) rfl rfl (Nat.le_of_ble_eq_true rfl) dX11_tag_49 ?_
      exact V_sub [0, 1] rfl (wX11_tag_j52 hk0 hF hf)
  · replace hf := it_t c3 hf
    refine v_iconst (pc := 13) (-1 : Int32) dX11_tag_13 ci_m1 ?_
    have hf2 := Option.some.inj hf; subst hf2
    exact V_iret (pc := 14) hF dX11_tag_14
set_option maxRecDepth 20000 in
theorem kX11_byteAt {G : Wc} {o : Nat} {S : Ob} {a : Int32} {r : Int32 × Ob} (hk0 : kd o = 10) (hf : pX11_byteAt S  a = some r) : Cn yX11_byteAt cX11_byteAt 2 (some .int) 2 82 G [.ref (wA G o 0), .int a] [(o, S)] [(o, r.2)] (some (.int r.1)) := by
  refine V_method [(0, .ref (wA G o 0)), (1, .int a)] (by decide) rfl (Nat.le_of_ble_eq_true rfl) rfl (fun Γ hF => ?_)
  unfold pX11_byteAt at hf
  refine v_aload_n (pc := 0) 0 dX11_byteAt_0 rfl ?_
  refine v_iconst (pc := 1) (0 : Int32) dX11_byteAt_1 ci_0 ?_
  refine pf_RX11_1 (pc := 2) [_] 0 rfl hk0 rfl dX11_byteAt_2 ?_
  refine v_iload_n (pc := 5) 1 dX11_byteAt_5 rfl ?_
  refine v_iconst (pc := 6) (0 : Int32) dX11_byteAt_6 ci_0 ?_
  refine v_aload_n (pc := 7) 0 dX11_byteAt_7 rfl ?_
  refine gf_RX11_378 (pc := 8) 0 rfl hk0 dX11_byteAt_8 ?_
  refine v_iconst (pc := 11) (1 : Int32) dX11_byteAt_11 ci_1 ?_
  refine v_isub (pc := 12) dX11_byteAt_12 ?_
  replace hf := bd_some hf; obtain ⟨r1, h2, hf⟩ := hf
  refine V_callS (pc := 13) (us1 := [_]) [] (kX11_isIn  h2) rfl rfl rfl rfl wm_RX11_176 md_X11_isIn (Nat.le_of_ble_eq_true rfl) (Nat.le_of_ble_eq_true rfl) rfl rfl (Nat.le_of_ble_eq_true rfl) dX11_byteAt_13 ?_
  refine v_if_eq (pc := 16) 28 dX11_byteAt_16 (by decide) (fun c3 => ?_) (fun c3 => ?_)
  · replace hf := it_t c3 hf
    refine v_iconst (pc := 28) (-1 : Int32) dX11_byteAt_28 ci_m1 ?_
    have hf2 := Option.some.inj hf; subst hf2
    exact V_iret (pc := 29) hF dX11_byteAt_29
  · replace hf := it_f c3 hf
    refine v_aload_n (pc := 19) 0 dX11_byteAt_19 rfl ?_
    refine gf_RX11_66 (pc := 20) 0 rfl hk0 dX11_byteAt_20 ?_
    refine v_iload_n (pc := 23) 1 dX11_byteAt_23 rfl ?_
    replace hf := gd_some hf; obtain ⟨g4, hf⟩ := hf
    refine al_X11_33 (pc := 24) _ 0 rfl hk0 rfl g4 dX11_byteAt_24 ?_
    refine v_goto (pc := 25) 29 dX11_byteAt_25 (by decide) ?_
    have hf2 := Option.some.inj hf; subst hf2
    exact V_iret (pc := 29) hF dX11_byteAt_29
set_option maxRecDepth 20000 in
theorem kX11_chance {G : Wc} {o : Nat} {S : Ob} {a : Int32} {r : Int32 × Ob} (hk0 : kd o = 10) (hf : pX11_chance S  a = some r) : Cn yX11_chance cX11_chance 2 (some .int) 1 60 G [.ref (wA G o 0), .int a] [(o, S)] [(o, r.2)] (some (.int r.1)) := by
  refine V_method [(0, .ref (wA G o 0)), (1, .int a)] (by decide) rfl (Nat.le_of_ble_eq_true rfl) rfl (fun Γ hF => ?_)
  unfold pX11_chance at hf
  refine v_aload_n (pc := 0) 0 dX11_chance_0 rfl ?_
  refine v_aload_n (pc := 1) 0 dX11_chance_1 rfl ?_
  refine gf_RX11_393 (pc := 2) 0 rfl hk0 dX11_chance_2 ?_
  refine v_ldc_w (pc := 5) dX11_chance_5 wc_RX11_396 ?_
  refine v_imul (pc := 8) dX11_chance_8 ?_
  refine v_sipush (pc := 9) (12345 : Int32) dX11_chance_9 cs_12345 ?_
  refine v_iadd (pc := 12) dX11_chance_12 ?_
  refine pf_RX11_393 (pc := 13) [_] 0 rfl hk0 rfl dX11_chance_13 ?_
  refine v_aload_n (pc := 16) 0 dX11_chance_16 rfl ?_
  refine gf_RX11_393 (pc := 17) 0 rfl hk0 dX11_chance_17 ?_
  refine v_bipush (pc := 20) (8 : Int32) dX11_chance_20 cb_8 ?_
  refine v_iushr (pc := 22) dX11_chance_22 ?_
  refine v_iload_n (pc := 23) 1 dX11_chance_23 rfl ?_
  replace hf := gd_some hf; obtain ⟨g1, hf⟩ := hf
  refine v_irem (pc := 24) dX11_chance_24 (of_decide_eq_true g1) ?_
  have hf2 := Option.some.inj hf; subst hf2
  exact V_iret (pc := 25) hF dX11_chance_25
set_option maxRecDepth 20000 in
theorem wX11_chanceOf_j49 {G : Wc} {Γ : Cx} {o : Nat} {S : Ob} {l1 : Int32} {l2 : Int32} {r : Ob} (hk0 : kd o = 10) (hF : Fnl G Γ (none) none (ov Γ.2.2.2 [(o, r)])) (hf : pX11_chanceOf_j49 S l1 l2 = some r) : V cX11_chanceOf RX11 5 153 4 G Γ [(o, S)] 49 [(0, .ref (wA G o 0)), (1, .int l1), (2, .int l2)] [] := by
  unfold pX11_chanceOf_j49 at hf
  refine v_iload_n (pc := 49) 2 dX11_chanceOf_49 rfl ?_
  refine v_iconst (pc := 50) (2 : Int32) dX11_chanceOf_50 ci_2 ?_
  refine v_icmp_ne (pc := 51) 81 dX11_chanceOf_51 (by decide) (fun c4 => ?_) (fun c4 => ?_)
  · replace hf := it_f c4 hf
    refine v_iload_n (pc := 81) 2 dX11_chanceOf_81 rfl ?_
    refine v_iconst (pc := 82) (3 : Int32) dX11_chanceOf_82 ci_3 ?_
    refine v_icmp_ne (pc := 83) 103 dX11_chanceOf_83 (by decide) (fun c5 => ?_) (fun c5 => ?_)
    · replace hf := it_f c5 hf
      have hf2 := Option.some.inj hf; subst hf2
      exact V_vret (pc := 103) hF dX11_chanceOf_103
    · replace hf := it_t c5 hf
      refine v_aload_n (pc := 86) 0 dX11_chanceOf_86 rfl ?_
      refine gf_RX11_33 (pc := 87) 0 rfl hk0 dX11_chanceOf_87 ?_
      refine v_bipush (pc := 90) (125 : Int32) dX11_chanceOf_90 cb_125 ?_
      refine v_iload_n (pc := 92) 1 dX11_chanceOf_92 rfl ?_
      refine v_iadd (pc := 93) dX11_chanceOf_93 ?_
      replace hf := gd_some hf; obtain ⟨g6, hf⟩ := hf
      refine al_X11_6 (pc := 94) _ 0 rfl hk0 rfl g6 dX11_chanceOf_94 ?_
      refine v_if_le (pc := 95) 103 dX11_chanceOf_95 (by decide) (fun c7 => ?_) (fun c7 => ?_)
      · replace hf := it_t c7 hf
        have hf2 := Option.some.inj hf; subst hf2
        exact V_vret (pc := 103) hF dX11_chanceOf_103
      · replace hf := it_f c7 hf
        refine v_aload_n (pc := 98) 0 dX11_chanceOf_98 rfl ?_
        refine v_iload_n (pc := 99) 1 dX11_chanceOf_99 rfl ?_
        replace hf := bd_some hf; obtain ⟨r8, h9, hf⟩ := hf
        refine V_call (pc := 100) (us1 := [_]) [0] 0 (kX11_cuts (o := o) hk0 h9) rfl rfl rfl rfl rfl hk0 (Nat.le_of_ble_eq_true rfl) rfl rfl rfl wm_RX11_315 md_X11_cuts (Nat.le_of_ble_eq_true rfl) (Nat.le_of_ble_eq_true rfl) rfl rfl (Nat.le_of_ble_eq_true rfl) dX11_chanceOf_100 ?_
        have hf2 := Option.some.inj hf; subst hf2
        exact V_vret (pc := 103) hF dX11_chanceOf_103
  · replace hf := it_t c4 hf
    refine v_aload_n (pc := 54) 0 dX11_chanceOf_54 rfl ?_
    refine v_bipush (pc := 55) (20 : Int32) dX11_chanceOf_55 cb_20 ?_
    replace hf := bd_some hf; obtain ⟨r10, h11, hf⟩ := hf
    refine V_call (pc := 57) (us1 := [_]) [0] 0 (kX11_chance (o := o) hk0 h11) rfl rfl rfl rfl rfl hk0 (Nat.le_of_ble_eq_true rfl) rfl rfl rfl wm_RX11_397 md_X11_chance (Nat.le_of_ble_eq_true rfl) (Nat.le_of_ble_eq_true rfl) rfl rfl (Nat.le_of_ble_eq_true rfl) dX11_chanceOf_57 ?_
    refine v_iconst (pc := 60) (1 : Int32) dX11_chanceOf_60 ci_1 ?_
    refine v_iadd (pc := 61) dX11_chanceOf_61 ?_
    refine v_istore_n (pc := 62) [(3, _), (0, _), (1, _), (2, _)] dX11_chanceOf_62 (Nat.le_of_ble_eq_true rfl) rfl ?_
    refine v_aload_n (pc := 63) 1 dX11_chanceOf_63 rfl ?_
    refine v_iload_n (pc := 64) 2 dX11_chanceOf_64 rfl ?_
    refine v_iload_n (pc := 65) 0 dX11_chanceOf_65 rfl ?_
    replace hf := bd_some hf; obtain ⟨r12, h13, hf⟩ := hf
    refine V_call (pc := 66) (us1 := [_]) [0] 0 (kX11_whyStroke (o := o) hk0 h13) rfl rfl rfl rfl rfl hk0 (Nat.le_of_ble_eq_true rfl) rfl rfl rfl wm_RX11_306 md_X11_whyStroke (Nat.le_of_ble_eq_true rfl) (Nat.le_of_ble_eq_true rfl) rfl rfl (Nat.le_of_ble_eq_true rfl) dX11_chanceOf_66 ?_
    refine v_if_ne (pc := 69) 78 dX11_chanceOf_69 (by decide) (fun c14 => ?_) (fun c14 => ?_)
    · replace hf := it_f c14 hf
      refine v_goto (pc := 78) 103 dX11_chanceOf_78 (by decide) ?_
      have hf2 := Option.some.inj hf; subst hf2
      exact V_vret (pc := 103) hF dX11_chanceOf_103
    · replace hf := it_t c14 hf
      refine v_aload_n (pc := 72) 1 dX11_chanceOf_72 rfl ?_
      refine v_iload_n (pc := 73) 2 dX11_chanceOf_73 rfl ?_
      refine v_iload_n (pc := 74) 0 dX11_chanceOf_74 rfl ?_
      replace hf := bd_some hf; obtain ⟨r15, h16, hf⟩ := hf
      refine V_call (pc := 75) (us1 := [_]) [0] 0 (kX11_strokes (o := o) hk0 h16) rfl rfl rfl rfl rfl hk0 (Nat.le_of_ble_eq_true rfl) rfl rfl rfl wm_RX11_312 md_X11_strokes (Nat.le_of_ble_eq_true rfl) (Nat.le_of_ble_eq_true rfl) rfl rfl (Nat.le_of_ble_eq_true rfl) dX11_chanceOf_75 ?_
      refine v_goto (pc := 78) 103 dX11_chanceOf_78 (by decide) ?_
      have hf2 := Option.some.inj hf; subst hf2
      exact V_vret (pc := 103) hF dX11_chanceOf_103
set_option maxRecDepth 20000 in
theorem kX11_chanceOf {G : Wc} {o : Nat} {S : Ob} {a : Int32} {r : Ob} (hk0 : kd o = 10) (hf : pX11_chanceOf S  a = some r) : Cn yX11_chanceOf cX11_chanceOf 4 (none) 5 153 G [.ref (wA G o 0), .int a] [(o, S)] [(o, r)] none := by
  refine V_method [(0, .ref (wA G o 0)), (1, .int a)] (by decide) rfl (Nat.le_of_ble_eq_true rfl) rfl (fun Γ hF => ?_)
  unfold pX11_chanceOf at hf
  refine v_aload_n (pc := 0) 0 dX11_chanceOf_0 rfl ?_
  refine v_bipush (pc := 1) (6 : Int32) dX11_chanceOf_1 cb_6 ?_
  replace hf := bd_some hf; obtain ⟨r1, h2, hf⟩ := hf
  refine V_call (pc := 3) (us1 := [_]) [0] 0 (kX11_chance (o := o) hk0 h2) rfl rfl rfl rfl rfl hk0 (Nat.le_of_ble_eq_true rfl) rfl rfl rfl wm_RX11_397 md_X11_chance (Nat.le_of_ble_eq_true rfl) (Nat.le_of_ble_eq_true rfl) rfl rfl (Nat.le_of_ble_eq_true rfl) dX11_chanceOf_3 ?_
  refine v_istore_n (pc := 6) [(2, _), (0, _), (1, _)] dX11_chanceOf_6 (Nat.le_of_ble_eq_true rfl) rfl ?_
  refine v_iload_n (pc := 7) 0 dX11_chanceOf_7 rfl ?_
  refine v_iconst (pc := 8) (2 : Int32) dX11_chanceOf_8 ci_2 ?_
  refine v_icmp_ge (pc := 9) 49 dX11_chanceOf_9 (by decide) (fun c3 => ?_) (fun c3 => ?_)
  · replace hf := it_t c3 hf
    exact V_sub [1, 2, 0] rfl (wX11_chanceOf_j49 hk0 hF hf)
  · replace hf := it_f c3 hf
    refine v_aload_n (pc := 12) 1 dX11_chanceOf_12 rfl ?_
    refine gf_RX11_33 (pc := 13) 0 rfl hk0 dX11_chanceOf_13 ?_
    refine v_iconst (pc := 16) (0 : Int32) dX11_chanceOf_16 ci_0 ?_
    refine al_X11_6 (pc := 17) 0 0 rfl hk0 rfl ib_0_390 dX11_chanceOf_17 ?_
    refine v_if_le (pc := 18) 49 dX11_chanceOf_18 (by decide) (fun c17 => ?_) (fun c17 => ?_)
    · replace hf := it_t c17 hf
      exact V_sub [1, 2, 0] rfl (wX11_chanceOf_j49 hk0 hF hf)
    · replace hf := it_f c17 hf
      refine v_aload_n (pc := 21) 1 dX11_chanceOf_21 rfl ?_
      refine v_aload_n (pc := 22) 1 dX11_chanceOf_22 rfl ?_
      refine gf_RX11_33 (pc := 23) 0 rfl hk0 dX11_chanceOf_23 ?_
      refine v_iconst (pc := 26) (0 : Int32) dX11_chanceOf_26 ci_0 ?_
      refine al_X11_6 (pc := 27) 0 0 rfl hk0 rfl ib_0_390 dX11_chanceOf_27 ?_
      replace hf := bd_some hf; obtain ⟨r18, h19, hf⟩ := hf
      refine V_call (pc := 28) (us1 := [_]) [0] 0 (kX11_chance (o := o) hk0 h19) rfl rfl rfl rfl rfl hk0 (Nat.le_of_ble_eq_true rfl) rfl rfl rfl wm_RX11_397 md_X11_chance (Nat.le_of_ble_eq_true rfl) (Nat.le_of_ble_eq_true rfl) rfl rfl (Nat.le_of_ble_eq_true rfl) dX11_chanceOf_28 ?_
      refine v_istore_n (pc := 31) [(3, _), (2, _), (0, _), (1, _)] dX11_chanceOf_31 (Nat.le_of_ble_eq_true rfl) rfl ?_
      refine v_aload_n (pc := 32) 2 dX11_chanceOf_32 rfl ?_
      refine v_iload_n (pc := 33) 3 dX11_chanceOf_33 rfl ?_
      replace hf := bd_some hf; obtain ⟨r20, h21, hf⟩ := hf
      refine V_call (pc := 34) (us1 := [_]) [0] 0 (kX11_isNest (o := o) hk0 h21) rfl rfl rfl rfl rfl hk0 (Nat.le_of_ble_eq_true rfl) rfl rfl rfl wm_RX11_271 md_X11_isNest (Nat.le_of_ble_eq_true rfl) (Nat.le_of_ble_eq_true rfl) rfl rfl (Nat.le_of_ble_eq_true rfl) dX11_chanceOf_34 ?_
      refine v_if_ne (pc := 37) 46 dX11_chanceOf_37 (by decide) (fun c22 => ?_) (fun c22 => ?_)
      · replace hf := it_f c22 hf
        refine v_goto (pc := 46) 103 dX11_chanceOf_46 (by decide) ?_
        have hf2 := Option.some.inj hf; subst hf2
        exact V_vret (pc := 103) hF dX11_chanceOf_103
      · replace hf := it_t c22 hf
        refine v_aload_n (pc := 40) 2 dX11_chanceOf_40 rfl ?_
        refine v_iload_n (pc := 41) 3 dX11_chanceOf_41 rfl ?_
        refine v_iload_n (pc := 42) 0 dX11_chanceOf_42 rfl ?_
        replace hf := bd_some hf; obtain ⟨r23, h24, hf⟩ := hf
        refine V_call (pc := 43) (us1 := [_]) [0] 0 (kX11_catches (o := o) hk0 h24) rfl rfl rfl rfl rfl hk0 (Nat.le_of_ble_eq_true rfl) rfl rfl rfl wm_RX11_299 md_X11_catches (Nat.le_of_ble_eq_true rfl) (Nat.le_of_ble_eq_true rfl) rfl rfl (Nat.le_of_ble_eq_true rfl) dX11_chanceOf_43 ?_
        refine v_goto (pc := 46) 103 dX11_chanceOf_46 (by decide) ?_
        have hf2 := Option.some.inj hf; subst hf2
        exact V_vret (pc := 103) hF dX11_chanceOf_103
set_option maxRecDepth 20000 in
theorem wX11_chances_l28 {G : Wc} {Γ : Cx} {o : Nat} {l1 : Int32} {l3 : Int32} (hk0 : kd o = 10) : ∀ (n : Nat) {l4 : Int32} {S : Ob} {r : Ob}, pX11_chances_l28  l1 l3 n l4 S = some r → V cX11_chances RX11 6 176 5 G Γ [(o, r)] 51 [(0, .ref (wA G o 0)), (1, .int l1), (3, .int l3)] [] → V cX11_chances RX11 6 176 5 G Γ [(o, S)] 28 [(0, .ref (wA G o 0)), (1, .int l1), (3, .int l3), (4, .int l4)] [] := by
  intro n
  induction n with
  | zero => intro l4 S r hf hx; unfold pX11_chances_l28 at hf; cases hf
  | succ n ih =>
    intro l4 S r hf hx
    have hrec : ∀ {l4 : Int32} {S : Ob}, pX11_chances_l28  l1 l3 n l4 S = some r → V cX11_chances RX11 6 176 5 G Γ [(o, S)] 28 [(0, .ref (wA G o 0)), (1, .int l1), (3, .int l3), (4, .int l4)] [] := fun h => ih h hx
    clear ih
    unfold pX11_chances_l28 at hf
    refine v_iload (pc := 28) 3 dX11_chances_28 rfl ?_
    refine v_aload_n (pc := 30) 0 dX11_chances_30 rfl ?_
    refine gf_RX11_33 (pc := 31) 0 rfl hk0 dX11_chances_31 ?_
    refine v_iconst (pc := 34) (1 : Int32) dX11_chances_34 ci_1 ?_
    refine al_X11_6 (pc := 35) 1 0 rfl hk0 rfl ib_1_390 dX11_chances_35 ?_
    refine v_icmp_ge (pc := 36) 51 dX11_chances_36 (by decide) (fun c3 => ?_) (fun c3 => ?_)
    · replace hf := it_t c3 hf
      have hf2 := Option.some.inj hf; subst hf2
      exact V_sub [0, 1, 2] rfl hx
    · replace hf := it_f c3 hf
      refine v_aload_n (pc := 39) 0 dX11_chances_39 rfl ?_
      refine v_iload (pc := 40) 3 dX11_chances_40 rfl ?_
      replace hf := bd_some hf; obtain ⟨r4, h5, hf⟩ := hf
      refine V_call (pc := 42) (us1 := [_]) [0] 0 (kX11_chanceOf (o := o) hk0 h5) rfl rfl rfl rfl rfl hk0 (Nat.le_of_ble_eq_true rfl) rfl rfl rfl wm_RX11_400 md_X11_chanceOf (Nat.le_of_ble_eq_true rfl) (Nat.le_of_ble_eq_true rfl) rfl rfl (Nat.le_of_ble_eq_true rfl) dX11_chances_42 ?_
      refine v_iinc (pc := 45) 3 (l4 + (1 : Int32)) [(4, _), (0, _), (1, _), (3, _)] dX11_chances_45 rfl (congrArg (fun z => _ + z) ci_1) (Nat.le_of_ble_eq_true rfl) rfl ?_
      refine v_goto (pc := 48) 28 dX11_chances_48 (by decide) ?_
      exact V_sub [1, 2, 3, 0] rfl (hrec hf)
set_option maxRecDepth 20000 in
theorem wX11_chances_l7 {G : Wc} {Γ : Cx} {o : Nat} {l1 : Int32} (hk0 : kd o = 10) : ∀ (n : Nat) {l3 : Int32} {S : Ob} {r : Int32 × Ob}, pX11_chances_l7  l1 n l3 S = some r → V cX11_chances RX11 6 176 5 G Γ [(o, r.2)] 61 [(3, .int r.1)] [] → V cX11_chances RX11 6 176 5 G Γ [(o, S)] 7 [(0, .ref (wA G o 0)), (1, .int l1), (3, .int l3)] [] := by
  intro n
  induction n with
  | zero => intro l3 S r hf hx; unfold pX11_chances_l7 at hf; cases hf
  | succ n ih =>
    intro l3 S r hf hx
    have hrec : ∀ {l3 : Int32} {S : Ob}, pX11_chances_l7  l1 n l3 S = some r → V cX11_chances RX11 6 176 5 G Γ [(o, S)] 7 [(0, .ref (wA G o 0)), (1, .int l1), (3, .int l3)] [] := fun h => ih h hx
    clear ih
    unfold pX11_chances_l7 at hf
    refine v_iload_n (pc := 7) 2 dX11_chances_7 rfl ?_
    refine v_iload_n (pc := 8) 1 dX11_chances_8 rfl ?_
    refine v_icmp_ge (pc := 9) 61 dX11_chances_9 (by decide) (fun c1 => ?_) (fun c1 => ?_)
    · replace hf := it_t c1 hf
      have hf2 := Option.some.inj hf; subst hf2
      exact V_sub [2] rfl hx
    · replace hf := it_f c1 hf
      refine v_aload_n (pc := 12) 0 dX11_chances_12 rfl ?_
      refine gf_RX11_33 (pc := 13) 0 rfl hk0 dX11_chances_13 ?_
      refine v_bipush (pc := 16) (121 : Int32) dX11_chances_16 cb_121 ?_
      refine al_X11_6 (pc := 18) 121 0 rfl hk0 rfl ib_121_390 dX11_chances_18 ?_
      refine v_sipush (pc := 19) (400 : Int32) dX11_chances_19 cs_400 ?_
      refine v_icmp_ge (pc := 22) 61 dX11_chances_22 (by decide) (fun c2 => ?_) (fun c2 => ?_)
      · replace hf := it_t c2 hf
        have hf2 := Option.some.inj hf; subst hf2
        exact V_sub [2] rfl hx
      · replace hf := it_f c2 hf
        refine v_iconst (pc := 25) (0 : Int32) dX11_chances_25 ci_0 ?_
        refine v_istore (pc := 26) [(4, _), (0, _), (1, _), (3, _)] dX11_chances_26 (Nat.le_of_ble_eq_true rfl) rfl ?_
        replace hf := bd_some hf; obtain ⟨r6, h7, hf⟩ := hf
        refine V_sub [1, 2, 3, 0] rfl (wX11_chances_l28 hk0 fu h7 ?_)
        refine v_aload_n (pc := 51) 0 dX11_chances_51 rfl ?_
        replace hf := bd_some hf; obtain ⟨r8, h9, hf⟩ := hf
        refine V_call (pc := 52) (us1 := [_]) [0] 0 (kX11_day (o := o) hk0 h9) rfl rfl rfl rfl rfl hk0 (Nat.le_of_ble_eq_true rfl) rfl rfl rfl wm_RX11_303 md_X11_day (Nat.le_of_ble_eq_true rfl) (Nat.le_of_ble_eq_true rfl) rfl rfl (Nat.le_of_ble_eq_true rfl) dX11_chances_52 ?_
        refine v_iinc (pc := 55) 2 (l3 + (1 : Int32)) [(3, _), (0, _), (1, _)] dX11_chances_55 rfl (congrArg (fun z => _ + z) ci_1) (Nat.le_of_ble_eq_true rfl) rfl ?_
        refine v_goto (pc := 58) 7 dX11_chances_58 (by decide) ?_
        exact V_sub [1, 2, 0] rfl (hrec hf)
set_option maxRecDepth 20000 in
theorem kX11_chances {G : Wc} {o : Nat} {S : Ob} {a : Int32} {b : Int32} {r : Int32 × Ob} (hk0 : kd o = 10) (hf : pX11_chances S  a b = some r) : Cn yX11_chances cX11_chances 5 (some .int) 6 176 G [.ref (wA G o 0), .int a, .int b] [(o, S)] [(o, r.2)] (some (.int r.1)) := by
  refine V_method [(0, .ref (wA G o 0)), (1, .int a), (2, .int b)] (by decide) rfl (Nat.le_of_ble_eq_true rfl) rfl (fun Γ hF => ?_)
  unfold pX11_chances at hf
  refine v_aload_n (pc := 0) 0 dX11_chances_0 rfl ?_
  refine v_iload_n (pc := 1) 2 dX11_chances_1 rfl ?_
  refine pf_RX11_393 (pc := 2) [_] 0 rfl hk0 rfl dX11_chances_2 ?_
  refine v_iconst (pc := 5) (0 : Int32) dX11_chances_5 ci_0 ?_
  refine v_istore_n (pc := 6) [(3, _), (0, _), (1, _), (2, _)] dX11_chances_6 (Nat.le_of_ble_eq_true rfl) rfl ?_
  replace hf := bd_some hf; obtain ⟨r10, h11, hf⟩ := hf
  refine V_sub [1, 2, 0] rfl (wX11_chances_l7 hk0 fu h11 ?_)
  refine v_iload_n (pc := 61) 0 dX11_chances_61 rfl ?_
  have hf2 := Option.some.inj hf; subst hf2
  exact V_iret (pc := 62) hF dX11_chances_62
set_option maxRecDepth 20000 in
theorem wX11_drawn_j34 {G : Wc} {Γ : Cx} {o : Nat} {S : Ob} {l1 : Int32} {l2 : Int32} {r : Int32 × Ob} (hk0 : kd o = 10) (hF : Fnl G Γ (some .int) (some (.int r.1)) (ov Γ.2.2.2 [(o, r.2)])) (hf : pX11_drawn_j34 S l1 l2 = some r) : V cX11_drawn RX11 7 200 3 G Γ [(o, S)] 34 [(0, .ref (wA G o 0)), (1, .int l1), (2, .int l2)] [] := by
  unfold pX11_drawn_j34 at hf
  refine v_aload_n (pc := 34) 0 dX11_drawn_34 rfl ?_
  refine v_iload_n (pc := 35) 1 dX11_drawn_35 rfl ?_
  refine v_iload_n (pc := 36) 2 dX11_drawn_36 rfl ?_
  replace hf := bd_some hf; obtain ⟨r5, h6, hf⟩ := hf
  refine V_call (pc := 37) (us1 := [_]) [0] 0 (kX11_chances (o := o) hk0 h6) rfl rfl rfl rfl rfl hk0 (Nat.le_of_ble_eq_true rfl) rfl rfl rfl wm_RX11_403 md_X11_chances (Nat.le_of_ble_eq_true rfl) (Nat.le_of_ble_eq_true rfl) rfl rfl (Nat.le_of_ble_eq_true rfl) dX11_drawn_37 ?_
  have hf2 := Option.some.inj hf; subst hf2
  exact V_iret (pc := 40) hF dX11_drawn_40
set_option maxRecDepth 20000 in
theorem kX11_drawn {G : Wc} {o : Nat} {S : Ob} {a : Int32} {b : Int32} {r : Int32 × Ob} (hk0 : kd o = 10) (hf : pX11_drawn S  a b = some r) : Cn yX11_drawn cX11_drawn 3 (some .int) 7 200 G [.ref (wA G o 0), .int a, .int b] [(o, S)] [(o, r.2)] (some (.int r.1)) := by
  refine V_method [(0, .ref (wA G o 0)), (1, .int a), (2, .int b)] (by decide) rfl (Nat.le_of_ble_eq_true rfl) rfl (fun Γ hF => ?_)
  unfold pX11_drawn at hf
  refine v_aload_n (pc := 0) 0 dX11_drawn_0 rfl ?_
  refine v_iconst (pc := 1) (0 : Int32) dX11_drawn_1 ci_0 ?_
  refine pf_RX11_1 (pc := 2) [_] 0 rfl hk0 rfl dX11_drawn_2 ?_
  refine v_iload_n (pc := 5) 1 dX11_drawn_5 rfl ?_
  refine v_iconst (pc := 6) (1 : Int32) dX11_drawn_6 ci_1 ?_
  refine v_bipush (pc := 7) (60 : Int32) dX11_drawn_7 cb_60 ?_
  replace hf := bd_some hf; obtain ⟨r1, h2, hf⟩ := hf
  refine V_callS (pc := 9) (us1 := [_]) [] (kX11_isIn  h2) rfl rfl rfl rfl wm_RX11_176 md_X11_isIn (Nat.le_of_ble_eq_true rfl) (Nat.le_of_ble_eq_true rfl) rfl rfl (Nat.le_of_ble_eq_true rfl) dX11_drawn_9 ?_
  refine v_if_ne (pc := 12) 17 dX11_drawn_12 (by decide) (fun c3 => ?_) (fun c3 => ?_)
  · replace hf := it_f c3 hf
    refine v_aload_n (pc := 17) 0 dX11_drawn_17 rfl ?_
    refine gf_RX11_33 (pc := 18) 0 rfl hk0 dX11_drawn_18 ?_
    refine v_bipush (pc := 21) (121 : Int32) dX11_drawn_21 cb_121 ?_
    refine al_X11_6 (pc := 23) 121 0 rfl hk0 rfl ib_121_390 dX11_drawn_23 ?_
    refine v_sipush (pc := 24) (400 : Int32) dX11_drawn_24 cs_400 ?_
    refine v_icmp_ge (pc := 27) 34 dX11_drawn_27 (by decide) (fun c4 => ?_) (fun c4 => ?_)
    · replace hf := it_t c4 hf
      exact V_sub [0, 1, 2] rfl (wX11_drawn_j34 hk0 hF hf)
    · replace hf := it_f c4 hf
      refine v_aload_n (pc := 30) 0 dX11_drawn_30 rfl ?_
      replace hf := bd_some hf; obtain ⟨r7, h8, hf⟩ := hf
      refine V_call (pc := 31) (us1 := [_]) [0] 0 (kX11_keep (o := o) hk0 h8) rfl rfl rfl rfl rfl hk0 (Nat.le_of_ble_eq_true rfl) rfl rfl rfl wm_RX11_309 md_X11_keep (Nat.le_of_ble_eq_true rfl) (Nat.le_of_ble_eq_true rfl) rfl rfl (Nat.le_of_ble_eq_true rfl) dX11_drawn_31 ?_
      exact V_sub [0, 1, 2] rfl (wX11_drawn_j34 hk0 hF hf)
  · replace hf := it_t c3 hf
    refine v_iconst (pc := 15) (-1 : Int32) dX11_drawn_15 ci_m1 ?_
    have hf2 := Option.some.inj hf; subst hf2
    exact V_iret (pc := 16) hF dX11_drawn_16
set_option maxRecDepth 20000 in
theorem wX11_odds_j67 {G : Wc} {Γ : Cx} {o : Nat} {S : Ob} {l1 : Int32} {l2 : Int32} {l3 : Int32} {l4 : Int32} {l5 : Int32} {s0 : Int32} {s1 : Int32} {r : Int32 × Ob} (hk0 : kd o = 10) {rec : Int32 → Int32 → Ob → Option (Int32 × Ob)} (hrec : ∀ {l4 : Int32} {l5 : Int32} {S : Ob}, rec l4 l5 S = some r → V cX11_odds RX11 7 200 6 G Γ [(o, S)] 35 [(0, .ref (wA G o 0)), (1, .int l1), (2, .int l2), (3, .int l3), (4, .int l4), (5, .int l5)] []) (hx : V cX11_odds RX11 7 200 6 G Γ [(o, r.2)] 80 [(4, .int r.1)] []) (hf : pX11_odds_j67 rec S l1 l2 l3 l4 l5 s0 s1 = some r) : V cX11_odds RX11 7 200 6 G Γ [(o, S)] 67 [(0, .ref (wA G o 0)), (1, .int l1), (2, .int l2), (3, .int l3), (4, .int l4), (5, .int l5)] [.int s1, .int s0] := by
  unfold pX11_odds_j67 at hf
  refine v_iadd (pc := 67) dX11_odds_67 ?_
  refine v_istore (pc := 68) [(4, _), (0, _), (1, _), (2, _), (3, _), (5, _)] dX11_odds_68 (Nat.le_of_ble_eq_true rfl) rfl ?_
  refine v_aload_n (pc := 70) 1 dX11_odds_70 rfl ?_
  replace hf := bd_some hf; obtain ⟨r15, h16, hf⟩ := hf
  refine V_call (pc := 71) (us1 := [_]) [0] 0 (kX11_back (o := o) hk0 h16) rfl rfl rfl rfl rfl hk0 (Nat.le_of_ble_eq_true rfl) rfl rfl rfl wm_RX11_330 md_X11_back (Nat.le_of_ble_eq_true rfl) (Nat.le_of_ble_eq_true rfl) rfl rfl (Nat.le_of_ble_eq_true rfl) dX11_odds_71 ?_
  refine v_iinc (pc := 74) 5 (l5 + (1 : Int32)) [(5, _), (4, _), (0, _), (1, _), (2, _), (3, _)] dX11_odds_74 rfl (congrArg (fun z => _ + z) ci_1) (Nat.le_of_ble_eq_true rfl) rfl ?_
  refine v_goto (pc := 77) 35 dX11_odds_77 (by decide) ?_
  exact V_sub [2, 3, 4, 5, 1, 0] rfl (hrec hf)
set_option maxRecDepth 20000 in
theorem wX11_odds_l35 {G : Wc} {Γ : Cx} {o : Nat} {l1 : Int32} {l2 : Int32} {l3 : Int32} (hk0 : kd o = 10) : ∀ (n : Nat) {l4 : Int32} {l5 : Int32} {S : Ob} {r : Int32 × Ob}, pX11_odds_l35  l1 l2 l3 n l4 l5 S = some r → V cX11_odds RX11 7 200 6 G Γ [(o, r.2)] 80 [(4, .int r.1)] [] → V cX11_odds RX11 7 200 6 G Γ [(o, S)] 35 [(0, .ref (wA G o 0)), (1, .int l1), (2, .int l2), (3, .int l3), (4, .int l4), (5, .int l5)] [] := by
  intro n
  induction n with
  | zero => intro l4 l5 S r hf hx; unfold pX11_odds_l35 at hf; cases hf
  | succ n ih =>
    intro l4 l5 S r hf hx
    have hrec : ∀ {l4 : Int32} {l5 : Int32} {S : Ob}, pX11_odds_l35  l1 l2 l3 n l4 l5 S = some r → V cX11_odds RX11 7 200 6 G Γ [(o, S)] 35 [(0, .ref (wA G o 0)), (1, .int l1), (2, .int l2), (3, .int l3), (4, .int l4), (5, .int l5)] [] := fun h => ih h hx
    clear ih
    unfold pX11_odds_l35 at hf
    refine v_iload (pc := 35) 5 dX11_odds_35 rfl ?_
    refine v_iload_n (pc := 37) 2 dX11_odds_37 rfl ?_
    refine v_icmp_ge (pc := 38) 80 dX11_odds_38 (by decide) (fun c9 => ?_) (fun c9 => ?_)
    · replace hf := it_t c9 hf
      have hf2 := Option.some.inj hf; subst hf2
      exact V_sub [4] rfl hx
    · replace hf := it_f c9 hf
      refine v_aload_n (pc := 41) 0 dX11_odds_41 rfl ?_
      refine v_bipush (pc := 42) (10 : Int32) dX11_odds_42 cb_10 ?_
      refine v_iload_n (pc := 44) 3 dX11_odds_44 rfl ?_
      refine v_iload (pc := 45) 5 dX11_odds_45 rfl ?_
      refine v_iadd (pc := 47) dX11_odds_47 ?_
      replace hf := bd_some hf; obtain ⟨r10, h11, hf⟩ := hf
      refine V_call (pc := 48) (us1 := [_]) [0] 0 (kX11_chances (o := o) hk0 h11) rfl rfl rfl rfl rfl hk0 (Nat.le_of_ble_eq_true rfl) rfl rfl rfl wm_RX11_403 md_X11_chances (Nat.le_of_ble_eq_true rfl) (Nat.le_of_ble_eq_true rfl) rfl rfl (Nat.le_of_ble_eq_true rfl) dX11_odds_48 ?_
      refine v_pop (pc := 51) dX11_odds_51 rfl ?_
      refine v_iload (pc := 52) 4 dX11_odds_52 rfl ?_
      refine v_aload_n (pc := 54) 0 dX11_odds_54 rfl ?_
      refine v_iload_n (pc := 55) 1 dX11_odds_55 rfl ?_
      replace hf := bd_some hf; obtain ⟨r12, h13, hf⟩ := hf
      refine V_call (pc := 56) (us1 := [_]) [0] 0 (kX11_isNest (o := o) hk0 h13) rfl rfl rfl rfl rfl hk0 (Nat.le_of_ble_eq_true rfl) rfl rfl rfl wm_RX11_271 md_X11_isNest (Nat.le_of_ble_eq_true rfl) (Nat.le_of_ble_eq_true rfl) rfl rfl (Nat.le_of_ble_eq_true rfl) dX11_odds_56 ?_
      refine v_if_eq (pc := 59) 66 dX11_odds_59 (by decide) (fun c14 => ?_) (fun c14 => ?_)
      · replace hf := it_t c14 hf
        refine v_iconst (pc := 66) (0 : Int32) dX11_odds_66 ci_0 ?_
        exact V_sub [0, 1, 2, 3, 4, 5] rfl (wX11_odds_j67 hk0 hrec hx hf)
      · replace hf := it_f c14 hf
        refine v_iconst (pc := 62) (1 : Int32) dX11_odds_62 ci_1 ?_
        refine v_goto (pc := 63) 67 dX11_odds_63 (by decide) ?_
        exact V_sub [0, 1, 2, 3, 4, 5] rfl (wX11_odds_j67 hk0 hrec hx hf)
set_option maxRecDepth 20000 in
theorem kX11_odds {G : Wc} {o : Nat} {S : Ob} {a : Int32} {b : Int32} {c : Int32} {r : Int32 × Ob} (hk0 : kd o = 10) (hf : pX11_odds S  a b c = some r) : Cn yX11_odds cX11_odds 6 (some .int) 7 200 G [.ref (wA G o 0), .int a, .int b, .int c] [(o, S)] [(o, r.2)] (some (.int r.1)) := by
  refine V_method [(0, .ref (wA G o 0)), (1, .int a), (2, .int b), (3, .int c)] (by decide) rfl (Nat.le_of_ble_eq_true rfl) rfl (fun Γ hF => ?_)
  unfold pX11_odds at hf
  refine v_aload_n (pc := 0) 0 dX11_odds_0 rfl ?_
  refine v_iconst (pc := 1) (0 : Int32) dX11_odds_1 ci_0 ?_
  refine pf_RX11_1 (pc := 2) [_] 0 rfl hk0 rfl dX11_odds_2 ?_
  refine v_aload_n (pc := 5) 0 dX11_odds_5 rfl ?_
  refine v_iload_n (pc := 6) 1 dX11_odds_6 rfl ?_
  replace hf := bd_some hf; obtain ⟨r1, h2, hf⟩ := hf
  refine V_call (pc := 7) (us1 := [_]) [0] 0 (kX11_isPerson (o := o) hk0 h2) rfl rfl rfl rfl rfl hk0 (Nat.le_of_ble_eq_true rfl) rfl rfl rfl wm_RX11_254 md_X11_isPerson (Nat.le_of_ble_eq_true rfl) (Nat.le_of_ble_eq_true rfl) rfl rfl (Nat.le_of_ble_eq_true rfl) dX11_odds_7 ?_
  refine v_if_eq (pc := 10) 23 dX11_odds_10 (by decide) (fun c3 => ?_) (fun c3 => ?_)
  · replace hf := it_t c3 hf
    refine v_iconst (pc := 23) (-1 : Int32) dX11_odds_23 ci_m1 ?_
    have hf2 := Option.some.inj hf; subst hf2
    exact V_iret (pc := 24) hF dX11_odds_24
  · replace hf := it_f c3 hf
    refine v_iload_n (pc := 13) 2 dX11_odds_13 rfl ?_
    refine v_iconst (pc := 14) (1 : Int32) dX11_odds_14 ci_1 ?_
    refine v_bipush (pc := 15) (30 : Int32) dX11_odds_15 cb_30 ?_
    replace hf := bd_some hf; obtain ⟨r4, h5, hf⟩ := hf
    refine V_callS (pc := 17) (us1 := [_]) [] (kX11_isIn  h5) rfl rfl rfl rfl wm_RX11_176 md_X11_isIn (Nat.le_of_ble_eq_true rfl) (Nat.le_of_ble_eq_true rfl) rfl rfl (Nat.le_of_ble_eq_true rfl) dX11_odds_17 ?_
    refine v_if_ne (pc := 20) 25 dX11_odds_20 (by decide) (fun c6 => ?_) (fun c6 => ?_)
    · replace hf := it_f c6 hf
      refine v_aload_n (pc := 25) 0 dX11_odds_25 rfl ?_
      replace hf := bd_some hf; obtain ⟨r7, h8, hf⟩ := hf
      refine V_call (pc := 26) (us1 := [_]) [0] 0 (kX11_tries (o := o) hk0 h8) rfl rfl rfl rfl rfl hk0 (Nat.le_of_ble_eq_true rfl) rfl rfl rfl wm_RX11_327 md_X11_tries (Nat.le_of_ble_eq_true rfl) (Nat.le_of_ble_eq_true rfl) rfl rfl (Nat.le_of_ble_eq_true rfl) dX11_odds_26 ?_
      refine v_iconst (pc := 29) (0 : Int32) dX11_odds_29 ci_0 ?_
      refine v_istore (pc := 30) [(4, _), (0, _), (1, _), (2, _), (3, _)] dX11_odds_30 (Nat.le_of_ble_eq_true rfl) rfl ?_
      refine v_iconst (pc := 32) (0 : Int32) dX11_odds_32 ci_0 ?_
      refine v_istore (pc := 33) [(5, _), (4, _), (0, _), (1, _), (2, _), (3, _)] dX11_odds_33 (Nat.le_of_ble_eq_true rfl) rfl ?_
      replace hf := bd_some hf; obtain ⟨r17, h18, hf⟩ := hf
      refine V_sub [2, 3, 4, 5, 1, 0] rfl (wX11_odds_l35 hk0 fu h18 ?_)
      refine v_iload (pc := 80) 0 dX11_odds_80 rfl ?_
      have hf2 := Option.some.inj hf; subst hf2
      exact V_iret (pc := 82) hF dX11_odds_82
    · replace hf := it_t c6 hf
      refine v_iconst (pc := 23) (-1 : Int32) dX11_odds_23 ci_m1 ?_
      have hf2 := Option.some.inj hf; subst hf2
      exact V_iret (pc := 24) hF dX11_odds_24
set_option maxRecDepth 20000 in
theorem wX11_bookLine_j292 {G : Wc} {Γ : Cx} {o : Nat} {S : Ob} {l1 : Int32} {s0 : Int32} {r : Int32 × Ob} (hk0 : kd o = 10) (hF : Fnl G Γ (some .boolean) (some (.int r.1)) (ov Γ.2.2.2 [(o, r.2)])) (hf : pX11_bookLine_j292 S l1 s0 = some r) : V cX11_bookLine RX11 4 127 7 G Γ [(o, S)] 292 [(0, .ref (wA G o 0)), (1, .int l1)] [.int s0] := by
  unfold pX11_bookLine_j292 at hf
  refine v_istore (pc := 292) [(6, _), (0, _), (1, _)] dX11_bookLine_292 (Nat.le_of_ble_eq_true rfl) rfl ?_
  refine v_aload_n (pc := 294) 1 dX11_bookLine_294 rfl ?_
  refine gf_RX11_40 (pc := 295) 0 rfl hk0 dX11_bookLine_295 ?_
  refine v_iload_n (pc := 298) 2 dX11_bookLine_298 rfl ?_
  refine v_iconst (pc := 299) (2 : Int32) dX11_bookLine_299 ci_2 ?_
  refine v_iadd (pc := 300) dX11_bookLine_300 ?_
  refine v_aload_n (pc := 301) 1 dX11_bookLine_301 rfl ?_
  refine gf_RX11_180 (pc := 302) 0 rfl hk0 dX11_bookLine_302 ?_
  replace hf := gd_some hf; obtain ⟨g29, hf⟩ := hf
  refine as_X11_8 (pc := 305) [_] _ 0 rfl hk0 rfl g29 rfl dX11_bookLine_305 ?_
  refine v_iload (pc := 306) 0 dX11_bookLine_306 rfl ?_
  replace hf := gd_some hf; obtain ⟨g30, hf⟩ := hf
  have hf2 := Option.some.inj hf; subst hf2
  exact V_zret (pc := 308) hF g30 dX11_bookLine_308
set_option maxRecDepth 20000 in
theorem wX11_bookLine_j223 {G : Wc} {Γ : Cx} {o : Nat} {S : Ob} {l1 : Int32} {l4 : Int32} {s0 : Int32} {r : Int32 × Ob} (hk0 : kd o = 10) (hF : Fnl G Γ (some .boolean) (some (.int r.1)) (ov Γ.2.2.2 [(o, r.2)])) (hf : pX11_bookLine_j223 S l1 l4 s0 = some r) : V cX11_bookLine RX11 4 127 7 G Γ [(o, S)] 223 [(0, .ref (wA G o 0)), (1, .int l1), (4, .int l4)] [.int s0] := by
  unfold pX11_bookLine_j223 at hf
  refine v_istore (pc := 223) [(5, _), (0, _), (1, _), (4, _)] dX11_bookLine_223 (Nat.le_of_ble_eq_true rfl) rfl ?_
  refine v_iload (pc := 225) 0 dX11_bookLine_225 rfl ?_
  refine v_if_ge (pc := 227) 236 dX11_bookLine_227 (by decide) (fun c20 => ?_) (fun c20 => ?_)
  · replace hf := it_t c20 hf
    refine v_aload_n (pc := 236) 1 dX11_bookLine_236 rfl ?_
    replace hf := bd_some hf; obtain ⟨r21, h22, hf⟩ := hf
    refine V_call (pc := 237) (us1 := [_]) [0] 0 (kX11_next (o := o) hk0 h22) rfl rfl rfl rfl rfl hk0 (Nat.le_of_ble_eq_true rfl) rfl rfl rfl wm_RX11_173 md_X11_next (Nat.le_of_ble_eq_true rfl) (Nat.le_of_ble_eq_true rfl) rfl rfl (Nat.le_of_ble_eq_true rfl) dX11_bookLine_237 ?_
    refine v_aload_n (pc := 240) 1 dX11_bookLine_240 rfl ?_
    refine gf_RX11_40 (pc := 241) 0 rfl hk0 dX11_bookLine_241 ?_
    refine v_iload_n (pc := 244) 2 dX11_bookLine_244 rfl ?_
    refine v_iload (pc := 245) 0 dX11_bookLine_245 rfl ?_
    replace hf := gd_some hf; obtain ⟨g23, hf⟩ := hf
    refine as_X11_8 (pc := 247) [_] _ 0 rfl hk0 rfl g23 rfl dX11_bookLine_247 ?_
    refine v_aload_n (pc := 248) 1 dX11_bookLine_248 rfl ?_
    refine gf_RX11_40 (pc := 249) 0 rfl hk0 dX11_bookLine_249 ?_
    refine v_iload_n (pc := 252) 2 dX11_bookLine_252 rfl ?_
    refine v_iconst (pc := 253) (1 : Int32) dX11_bookLine_253 ci_1 ?_
    refine v_iadd (pc := 254) dX11_bookLine_254 ?_
    refine v_iload (pc := 255) 3 dX11_bookLine_255 rfl ?_
    replace hf := gd_some hf; obtain ⟨g24, hf⟩ := hf
    refine as_X11_8 (pc := 257) [_] _ 0 rfl hk0 rfl g24 rfl dX11_bookLine_257 ?_
    refine v_iload (pc := 258) 0 dX11_bookLine_258 rfl ?_
    refine v_iconst (pc := 260) (1 : Int32) dX11_bookLine_260 ci_1 ?_
    refine v_icmp_ne (pc := 261) 266 dX11_bookLine_261 (by decide) (fun c25 => ?_) (fun c25 => ?_)
    · replace hf := it_f c25 hf
      refine v_iload (pc := 266) 0 dX11_bookLine_266 rfl ?_
      refine v_if_ne (pc := 268) 281 dX11_bookLine_268 (by decide) (fun c26 => ?_) (fun c26 => ?_)
      · replace hf := it_f c26 hf
        refine v_aload_n (pc := 281) 1 dX11_bookLine_281 rfl ?_
        refine v_iconst (pc := 282) (0 : Int32) dX11_bookLine_282 ci_0 ?_
        refine v_aload_n (pc := 283) 1 dX11_bookLine_283 rfl ?_
        refine gf_RX11_33 (pc := 284) 0 rfl hk0 dX11_bookLine_284 ?_
        refine v_iconst (pc := 287) (0 : Int32) dX11_bookLine_287 ci_0 ?_
        refine al_X11_6 (pc := 288) 0 0 rfl hk0 rfl ib_0_390 dX11_bookLine_288 ?_
        replace hf := bd_some hf; obtain ⟨r27, h28, hf⟩ := hf
        refine V_call (pc := 289) (us1 := [_]) [0] 0 (kX11_takesName (o := o) hk0 h28) rfl rfl rfl rfl rfl hk0 (Nat.le_of_ble_eq_true rfl) rfl rfl rfl wm_RX11_227 md_X11_takesName (Nat.le_of_ble_eq_true rfl) (Nat.le_of_ble_eq_true rfl) rfl rfl (Nat.le_of_ble_eq_true rfl) dX11_bookLine_289 ?_
        exact V_sub [1, 2] rfl (wX11_bookLine_j292 hk0 hF hf)
      · replace hf := it_t c26 hf
        refine v_aload_n (pc := 271) 1 dX11_bookLine_271 rfl ?_
        refine v_iconst (pc := 272) (1 : Int32) dX11_bookLine_272 ci_1 ?_
        refine v_bipush (pc := 273) (20 : Int32) dX11_bookLine_273 cb_20 ?_
        replace hf := bd_some hf; obtain ⟨r31, h32, hf⟩ := hf
        refine V_call (pc := 275) (us1 := [_]) [0] 0 (kX11_takes (o := o) hk0 h32) rfl rfl rfl rfl rfl hk0 (Nat.le_of_ble_eq_true rfl) rfl rfl rfl wm_RX11_183 md_X11_takes (Nat.le_of_ble_eq_true rfl) (Nat.le_of_ble_eq_true rfl) rfl rfl (Nat.le_of_ble_eq_true rfl) dX11_bookLine_275 ?_
        refine v_goto (pc := 278) 292 dX11_bookLine_278 (by decide) ?_
        exact V_sub [1, 2] rfl (wX11_bookLine_j292 hk0 hF hf)
    · replace hf := it_t c25 hf
      refine v_iconst (pc := 264) (1 : Int32) dX11_bookLine_264 ci_1 ?_
      have hf2 := Option.some.inj hf; subst hf2
      exact V_zret (pc := 265) hF rfl dX11_bookLine_265
  · replace hf := it_f c20 hf
    refine v_aload_n (pc := 230) 1 dX11_bookLine_230 rfl ?_
    refine v_iconst (pc := 231) (1 : Int32) dX11_bookLine_231 ci_1 ?_
    replace hf := bd_some hf; obtain ⟨r33, h34, hf⟩ := hf
    refine V_call (pc := 232) (us1 := [_]) [0] 0 (kX11_bad (o := o) hk0 h34) rfl rfl rfl rfl rfl hk0 (Nat.le_of_ble_eq_true rfl) rfl rfl rfl wm_RX11_170 md_X11_bad (Nat.le_of_ble_eq_true rfl) (Nat.le_of_ble_eq_true rfl) rfl rfl (Nat.le_of_ble_eq_true rfl) dX11_bookLine_232 ?_
    replace hf := gd_some hf; obtain ⟨g35, hf⟩ := hf
    have hf2 := Option.some.inj hf; subst hf2
    exact V_zret (pc := 235) hF g35 dX11_bookLine_235
set_option maxRecDepth 20000 in
theorem wX11_bookLine_j48 {G : Wc} {Γ : Cx} {o : Nat} {S : Ob} {l1 : Int32} {l2 : Int32} {l3 : Int32} {r : Int32 × Ob} (hk0 : kd o = 10) (hF : Fnl G Γ (some .boolean) (some (.int r.1)) (ov Γ.2.2.2 [(o, r.2)])) (hf : pX11_bookLine_j48 S l1 l2 l3 = some r) : V cX11_bookLine RX11 4 127 7 G Γ [(o, S)] 48 [(0, .ref (wA G o 0)), (1, .int l1), (2, .int l2), (3, .int l3)] [] := by
  unfold pX11_bookLine_j48 at hf
  refine v_aload_n (pc := 48) 0 dX11_bookLine_48 rfl ?_
  refine gf_RX11_406 (pc := 49) 0 rfl hk0 dX11_bookLine_49 ?_
  refine v_bipush (pc := 52) (40 : Int32) dX11_bookLine_52 cb_40 ?_
  refine v_icmp_ne (pc := 54) 63 dX11_bookLine_54 (by decide) (fun c6 => ?_) (fun c6 => ?_)
  · replace hf := it_f c6 hf
    refine v_aload_n (pc := 63) 0 dX11_bookLine_63 rfl ?_
    refine gf_RX11_180 (pc := 64) 0 rfl hk0 dX11_bookLine_64 ?_
    refine v_istore (pc := 67) [(4, _), (0, _), (1, _), (2, _), (3, _)] dX11_bookLine_67 (Nat.le_of_ble_eq_true rfl) rfl ?_
    refine v_aload_n (pc := 69) 1 dX11_bookLine_69 rfl ?_
    replace hf := bd_some hf; obtain ⟨r7, h8, hf⟩ := hf
    refine V_call (pc := 70) (us1 := [_]) [0] 0 (kX11_next (o := o) hk0 h8) rfl rfl rfl rfl rfl hk0 (Nat.le_of_ble_eq_true rfl) rfl rfl rfl wm_RX11_173 md_X11_next (Nat.le_of_ble_eq_true rfl) (Nat.le_of_ble_eq_true rfl) rfl rfl (Nat.le_of_ble_eq_true rfl) dX11_bookLine_70 ?_
    refine v_iload_n (pc := 73) 3 dX11_bookLine_73 rfl ?_
    refine v_if_eq (pc := 74) 110 dX11_bookLine_74 (by decide) (fun c9 => ?_) (fun c9 => ?_)
    · replace hf := it_t c9 hf
      refine v_iload_n (pc := 110) 4 dX11_bookLine_110 rfl ?_
      refine v_if_eq (pc := 111) 180 dX11_bookLine_111 (by decide) (fun c10 => ?_) (fun c10 => ?_)
      · replace hf := it_t c10 hf
        refine v_aload_n (pc := 180) 1 dX11_bookLine_180 rfl ?_
        refine v_ldc2_w (pc := 181) dX11_bookLine_181 wc_RX11_99 ?_
        replace hf := bd_some hf; obtain ⟨r11, h12, hf⟩ := hf
        refine V_call (pc := 184) (us1 := [_]) [0] 0 (kX11_isWord (o := o) hk0 h12) rfl rfl rfl rfl rfl hk0 (Nat.le_of_ble_eq_true rfl) rfl rfl rfl wm_RX11_198 md_X11_isWord (Nat.le_of_ble_eq_true rfl) (Nat.le_of_ble_eq_true rfl) rfl rfl (Nat.le_of_ble_eq_true rfl) dX11_bookLine_184 ?_
        refine v_if_eq (pc := 187) 194 dX11_bookLine_187 (by decide) (fun c13 => ?_) (fun c13 => ?_)
        · replace hf := it_t c13 hf
          refine v_aload_n (pc := 194) 1 dX11_bookLine_194 rfl ?_
          refine v_ldc2_w (pc := 195) dX11_bookLine_195 wc_RX11_101 ?_
          replace hf := bd_some hf; obtain ⟨r14, h15, hf⟩ := hf
          refine V_call (pc := 198) (us1 := [_]) [0] 0 (kX11_isWord (o := o) hk0 h15) rfl rfl rfl rfl rfl hk0 (Nat.le_of_ble_eq_true rfl) rfl rfl rfl wm_RX11_198 md_X11_isWord (Nat.le_of_ble_eq_true rfl) (Nat.le_of_ble_eq_true rfl) rfl rfl (Nat.le_of_ble_eq_true rfl) dX11_bookLine_198 ?_
          refine v_if_eq (pc := 201) 208 dX11_bookLine_201 (by decide) (fun c16 => ?_) (fun c16 => ?_)
          · replace hf := it_t c16 hf
            refine v_aload_n (pc := 208) 1 dX11_bookLine_208 rfl ?_
            refine v_ldc2_w (pc := 209) dX11_bookLine_209 wc_RX11_103 ?_
            replace hf := bd_some hf; obtain ⟨r17, h18, hf⟩ := hf
            refine V_call (pc := 212) (us1 := [_]) [0] 0 (kX11_isWord (o := o) hk0 h18) rfl rfl rfl rfl rfl hk0 (Nat.le_of_ble_eq_true rfl) rfl rfl rfl wm_RX11_198 md_X11_isWord (Nat.le_of_ble_eq_true rfl) (Nat.le_of_ble_eq_true rfl) rfl rfl (Nat.le_of_ble_eq_true rfl) dX11_bookLine_212 ?_
            refine v_if_eq (pc := 215) 222 dX11_bookLine_215 (by decide) (fun c19 => ?_) (fun c19 => ?_)
            · replace hf := it_t c19 hf
              refine v_iconst (pc := 222) (-1 : Int32) dX11_bookLine_222 ci_m1 ?_
              exact V_sub [1, 2, 0] rfl (wX11_bookLine_j223 hk0 hF hf)
            · replace hf := it_f c19 hf
              refine v_iconst (pc := 218) (2 : Int32) dX11_bookLine_218 ci_2 ?_
              refine v_goto (pc := 219) 223 dX11_bookLine_219 (by decide) ?_
              exact V_sub [1, 2, 0] rfl (wX11_bookLine_j223 hk0 hF hf)
          · replace hf := it_f c16 hf
            refine v_iconst (pc := 204) (1 : Int32) dX11_bookLine_204 ci_1 ?_
            refine v_goto (pc := 205) 223 dX11_bookLine_205 (by decide) ?_
            exact V_sub [1, 2, 0] rfl (wX11_bookLine_j223 hk0 hF hf)
        · replace hf := it_f c13 hf
          refine v_iconst (pc := 190) (0 : Int32) dX11_bookLine_190 ci_0 ?_
          refine v_goto (pc := 191) 223 dX11_bookLine_191 (by decide) ?_
          exact V_sub [1, 2, 0] rfl (wX11_bookLine_j223 hk0 hF hf)
      · replace hf := it_f c10 hf
        refine v_aload_n (pc := 114) 1 dX11_bookLine_114 rfl ?_
        refine gf_RX11_40 (pc := 115) 0 rfl hk0 dX11_bookLine_115 ?_
        refine v_iload_n (pc := 118) 2 dX11_bookLine_118 rfl ?_
        refine v_iconst (pc := 119) (3 : Int32) dX11_bookLine_119 ci_3 ?_
        replace hf := gd_some hf; obtain ⟨g36, hf⟩ := hf
        refine as_X11_8 (pc := 120) [_] _ 0 rfl hk0 rfl g36 rfl dX11_bookLine_120 ?_
        refine v_aload_n (pc := 121) 1 dX11_bookLine_121 rfl ?_
        refine v_bipush (pc := 122) (14 : Int32) dX11_bookLine_122 cb_14 ?_
        refine v_aload_n (pc := 124) 1 dX11_bookLine_124 rfl ?_
        refine gf_RX11_33 (pc := 125) 0 rfl hk0 dX11_bookLine_125 ?_
        refine v_iconst (pc := 128) (3 : Int32) dX11_bookLine_128 ci_3 ?_
        refine al_X11_6 (pc := 129) 3 0 rfl hk0 rfl ib_3_390 dX11_bookLine_129 ?_
        replace hf := bd_some hf; obtain ⟨r37, h38, hf⟩ := hf
        refine V_call (pc := 130) (us1 := [_]) [0] 0 (kX11_takesName (o := o) hk0 h38) rfl rfl rfl rfl rfl hk0 (Nat.le_of_ble_eq_true rfl) rfl rfl rfl wm_RX11_227 md_X11_takesName (Nat.le_of_ble_eq_true rfl) (Nat.le_of_ble_eq_true rfl) rfl rfl (Nat.le_of_ble_eq_true rfl) dX11_bookLine_130 ?_
        refine v_if_ne (pc := 133) 138 dX11_bookLine_133 (by decide) (fun c39 => ?_) (fun c39 => ?_)
        · replace hf := it_f c39 hf
          refine v_aload_n (pc := 138) 1 dX11_bookLine_138 rfl ?_
          refine gf_RX11_40 (pc := 139) 0 rfl hk0 dX11_bookLine_139 ?_
          refine v_iload_n (pc := 142) 2 dX11_bookLine_142 rfl ?_
          refine v_iconst (pc := 143) (1 : Int32) dX11_bookLine_143 ci_1 ?_
          refine v_iadd (pc := 144) dX11_bookLine_144 ?_
          refine v_aload_n (pc := 145) 1 dX11_bookLine_145 rfl ?_
          refine gf_RX11_180 (pc := 146) 0 rfl hk0 dX11_bookLine_146 ?_
          replace hf := gd_some hf; obtain ⟨g40, hf⟩ := hf
          refine as_X11_8 (pc := 149) [_] _ 0 rfl hk0 rfl g40 rfl dX11_bookLine_149 ?_
          refine v_aload_n (pc := 150) 1 dX11_bookLine_150 rfl ?_
          refine v_iconst (pc := 151) (0 : Int32) dX11_bookLine_151 ci_0 ?_
          refine v_aload_n (pc := 152) 1 dX11_bookLine_152 rfl ?_
          refine gf_RX11_33 (pc := 153) 0 rfl hk0 dX11_bookLine_153 ?_
          refine v_iconst (pc := 156) (0 : Int32) dX11_bookLine_156 ci_0 ?_
          refine al_X11_6 (pc := 157) 0 0 rfl hk0 rfl ib_0_390 dX11_bookLine_157 ?_
          replace hf := bd_some hf; obtain ⟨r41, h42, hf⟩ := hf
          refine V_call (pc := 158) (us1 := [_]) [0] 0 (kX11_takesName (o := o) hk0 h42) rfl rfl rfl rfl rfl hk0 (Nat.le_of_ble_eq_true rfl) rfl rfl rfl wm_RX11_227 md_X11_takesName (Nat.le_of_ble_eq_true rfl) (Nat.le_of_ble_eq_true rfl) rfl rfl (Nat.le_of_ble_eq_true rfl) dX11_bookLine_158 ?_
          refine v_if_ne (pc := 161) 166 dX11_bookLine_161 (by decide) (fun c43 => ?_) (fun c43 => ?_)
          · replace hf := it_f c43 hf
            refine v_aload_n (pc := 166) 1 dX11_bookLine_166 rfl ?_
            refine gf_RX11_40 (pc := 167) 0 rfl hk0 dX11_bookLine_167 ?_
            refine v_iload_n (pc := 170) 2 dX11_bookLine_170 rfl ?_
            refine v_iconst (pc := 171) (2 : Int32) dX11_bookLine_171 ci_2 ?_
            refine v_iadd (pc := 172) dX11_bookLine_172 ?_
            refine v_aload_n (pc := 173) 1 dX11_bookLine_173 rfl ?_
            refine gf_RX11_180 (pc := 174) 0 rfl hk0 dX11_bookLine_174 ?_
            replace hf := gd_some hf; obtain ⟨g44, hf⟩ := hf
            refine as_X11_8 (pc := 177) [_] _ 0 rfl hk0 rfl g44 rfl dX11_bookLine_177 ?_
            refine v_iconst (pc := 178) (1 : Int32) dX11_bookLine_178 ci_1 ?_
            have hf2 := Option.some.inj hf; subst hf2
            exact V_zret (pc := 179) hF rfl dX11_bookLine_179
          · replace hf := it_t c43 hf
            refine v_iconst (pc := 164) (0 : Int32) dX11_bookLine_164 ci_0 ?_
            have hf2 := Option.some.inj hf; subst hf2
            exact V_zret (pc := 165) hF rfl dX11_bookLine_165
        · replace hf := it_t c39 hf
          refine v_iconst (pc := 136) (0 : Int32) dX11_bookLine_136 ci_0 ?_
          have hf2 := Option.some.inj hf; subst hf2
          exact V_zret (pc := 137) hF rfl dX11_bookLine_137
    · replace hf := it_f c9 hf
      refine v_aload_n (pc := 77) 1 dX11_bookLine_77 rfl ?_
      refine gf_RX11_40 (pc := 78) 0 rfl hk0 dX11_bookLine_78 ?_
      refine v_iload_n (pc := 81) 2 dX11_bookLine_81 rfl ?_
      refine v_iconst (pc := 82) (4 : Int32) dX11_bookLine_82 ci_4 ?_
      replace hf := gd_some hf; obtain ⟨g45, hf⟩ := hf
      refine as_X11_8 (pc := 83) [_] _ 0 rfl hk0 rfl g45 rfl dX11_bookLine_83 ?_
      refine v_aload_n (pc := 84) 1 dX11_bookLine_84 rfl ?_
      refine v_iconst (pc := 85) (1 : Int32) dX11_bookLine_85 ci_1 ?_
      refine v_bipush (pc := 86) (60 : Int32) dX11_bookLine_86 cb_60 ?_
      replace hf := bd_some hf; obtain ⟨r46, h47, hf⟩ := hf
      refine V_call (pc := 88) (us1 := [_]) [0] 0 (kX11_takes (o := o) hk0 h47) rfl rfl rfl rfl rfl hk0 (Nat.le_of_ble_eq_true rfl) rfl rfl rfl wm_RX11_183 md_X11_takes (Nat.le_of_ble_eq_true rfl) (Nat.le_of_ble_eq_true rfl) rfl rfl (Nat.le_of_ble_eq_true rfl) dX11_bookLine_88 ?_
      refine v_if_ne (pc := 91) 96 dX11_bookLine_91 (by decide) (fun c48 => ?_) (fun c48 => ?_)
      · replace hf := it_f c48 hf
        refine v_aload_n (pc := 96) 1 dX11_bookLine_96 rfl ?_
        refine gf_RX11_40 (pc := 97) 0 rfl hk0 dX11_bookLine_97 ?_
        refine v_iload_n (pc := 100) 2 dX11_bookLine_100 rfl ?_
        refine v_iconst (pc := 101) (1 : Int32) dX11_bookLine_101 ci_1 ?_
        refine v_iadd (pc := 102) dX11_bookLine_102 ?_
        refine v_aload_n (pc := 103) 1 dX11_bookLine_103 rfl ?_
        refine gf_RX11_180 (pc := 104) 0 rfl hk0 dX11_bookLine_104 ?_
        replace hf := gd_some hf; obtain ⟨g49, hf⟩ := hf
        refine as_X11_8 (pc := 107) [_] _ 0 rfl hk0 rfl g49 rfl dX11_bookLine_107 ?_
        refine v_iconst (pc := 108) (1 : Int32) dX11_bookLine_108 ci_1 ?_
        have hf2 := Option.some.inj hf; subst hf2
        exact V_zret (pc := 109) hF rfl dX11_bookLine_109
      · replace hf := it_t c48 hf
        refine v_iconst (pc := 94) (0 : Int32) dX11_bookLine_94 ci_0 ?_
        have hf2 := Option.some.inj hf; subst hf2
        exact V_zret (pc := 95) hF rfl dX11_bookLine_95
  · replace hf := it_t c6 hf
    refine v_aload_n (pc := 57) 0 dX11_bookLine_57 rfl ?_
    refine v_iconst (pc := 58) (4 : Int32) dX11_bookLine_58 ci_4 ?_
    replace hf := bd_some hf; obtain ⟨r50, h51, hf⟩ := hf
    refine V_call (pc := 59) (us1 := [_]) [0] 0 (kX11_bad (o := o) hk0 h51) rfl rfl rfl rfl rfl hk0 (Nat.le_of_ble_eq_true rfl) rfl rfl rfl wm_RX11_170 md_X11_bad (Nat.le_of_ble_eq_true rfl) (Nat.le_of_ble_eq_true rfl) rfl rfl (Nat.le_of_ble_eq_true rfl) dX11_bookLine_59 ?_
    replace hf := gd_some hf; obtain ⟨g52, hf⟩ := hf
    have hf2 := Option.some.inj hf; subst hf2
    exact V_zret (pc := 62) hF g52 dX11_bookLine_62
set_option maxRecDepth 20000 in
theorem kX11_bookLine {G : Wc} {o : Nat} {S : Ob}  {r : Int32 × Ob} (hk0 : kd o = 10) (hf : pX11_bookLine S   = some r) : Cn yX11_bookLine cX11_bookLine 7 (some .boolean) 4 127 G [.ref (wA G o 0)] [(o, S)] [(o, r.2)] (some (.int r.1)) := by
  refine V_method [(0, .ref (wA G o 0))] (by decide) rfl (Nat.le_of_ble_eq_true rfl) rfl (fun Γ hF => ?_)
  unfold pX11_bookLine at hf
  refine v_iconst (pc := 0) (3 : Int32) dX11_bookLine_0 ci_3 ?_
  refine v_aload_n (pc := 1) 0 dX11_bookLine_1 rfl ?_
  refine gf_RX11_406 (pc := 2) 0 rfl hk0 dX11_bookLine_2 ?_
  refine v_imul (pc := 5) dX11_bookLine_5 ?_
  refine v_istore_n (pc := 6) [(1, _), (0, _)] dX11_bookLine_6 (Nat.le_of_ble_eq_true rfl) rfl ?_
  refine v_aload_n (pc := 7) 1 dX11_bookLine_7 rfl ?_
  refine v_ldc2_w (pc := 8) dX11_bookLine_8 wc_RX11_107 ?_
  replace hf := bd_some hf; obtain ⟨r1, h2, hf⟩ := hf
  refine V_call (pc := 11) (us1 := [_]) [0] 0 (kX11_isWord (o := o) hk0 h2) rfl rfl rfl rfl rfl hk0 (Nat.le_of_ble_eq_true rfl) rfl rfl rfl wm_RX11_198 md_X11_isWord (Nat.le_of_ble_eq_true rfl) (Nat.le_of_ble_eq_true rfl) rfl rfl (Nat.le_of_ble_eq_true rfl) dX11_bookLine_11 ?_
  refine v_istore_n (pc := 14) [(2, _), (1, _), (0, _)] dX11_bookLine_14 (Nat.le_of_ble_eq_true rfl) rfl ?_
  refine v_aload_n (pc := 15) 2 dX11_bookLine_15 rfl ?_
  refine v_ldc2_w (pc := 16) dX11_bookLine_16 wc_RX11_105 ?_
  replace hf := bd_some hf; obtain ⟨r3, h4, hf⟩ := hf
  refine V_call (pc := 19) (us1 := [_]) [0] 0 (kX11_isWord (o := o) hk0 h4) rfl rfl rfl rfl rfl hk0 (Nat.le_of_ble_eq_true rfl) rfl rfl rfl wm_RX11_198 md_X11_isWord (Nat.le_of_ble_eq_true rfl) (Nat.le_of_ble_eq_true rfl) rfl rfl (Nat.le_of_ble_eq_true rfl) dX11_bookLine_19 ?_
  refine v_istore_n (pc := 22) [(3, _), (2, _), (1, _), (0, _)] dX11_bookLine_22 (Nat.le_of_ble_eq_true rfl) rfl ?_
  refine v_iload_n (pc := 23) 1 dX11_bookLine_23 rfl ?_
  refine v_if_ne (pc := 24) 48 dX11_bookLine_24 (by decide) (fun c5 => ?_) (fun c5 => ?_)
  · replace hf := it_f c5 hf
    exact V_sub [3, 2, 1, 0] rfl (wX11_bookLine_j48 hk0 hF hf)
  · replace hf := it_t c5 hf
    refine v_iload_n (pc := 27) 0 dX11_bookLine_27 rfl ?_
    refine v_if_ne (pc := 28) 48 dX11_bookLine_28 (by decide) (fun c53 => ?_) (fun c53 => ?_)
    · replace hf := it_f c53 hf
      exact V_sub [3, 2, 1, 0] rfl (wX11_bookLine_j48 hk0 hF hf)
    · replace hf := it_t c53 hf
      refine v_aload_n (pc := 31) 3 dX11_bookLine_31 rfl ?_
      refine v_bipush (pc := 32) (8 : Int32) dX11_bookLine_32 cb_8 ?_
      refine v_aload_n (pc := 34) 3 dX11_bookLine_34 rfl ?_
      refine gf_RX11_33 (pc := 35) 0 rfl hk0 dX11_bookLine_35 ?_
      refine v_iconst (pc := 38) (1 : Int32) dX11_bookLine_38 ci_1 ?_
      refine al_X11_6 (pc := 39) 1 0 rfl hk0 rfl ib_1_390 dX11_bookLine_39 ?_
      replace hf := bd_some hf; obtain ⟨r54, h55, hf⟩ := hf
      refine V_call (pc := 40) (us1 := [_]) [0] 0 (kX11_looksAt (o := o) hk0 h55) rfl rfl rfl rfl rfl hk0 (Nat.le_of_ble_eq_true rfl) rfl rfl rfl wm_RX11_195 md_X11_looksAt (Nat.le_of_ble_eq_true rfl) (Nat.le_of_ble_eq_true rfl) rfl rfl (Nat.le_of_ble_eq_true rfl) dX11_bookLine_40 ?_
      refine v_if_ne (pc := 43) 48 dX11_bookLine_43 (by decide) (fun c56 => ?_) (fun c56 => ?_)
      · replace hf := it_f c56 hf
        exact V_sub [3, 2, 1, 0] rfl (wX11_bookLine_j48 hk0 hF hf)
      · replace hf := it_t c56 hf
        refine v_iconst (pc := 46) (0 : Int32) dX11_bookLine_46 ci_0 ?_
        have hf2 := Option.some.inj hf; subst hf2
        exact V_zret (pc := 47) hF rfl dX11_bookLine_47
set_option maxRecDepth 20000 in
theorem wX11_does_j186 {G : Wc} {Γ : Cx} {o : Nat} {S : Ob} {l1 : Int32} {l4 : Int32} {r : Int32 × Ob} (hk0 : kd o = 10) (hF : Fnl G Γ (some .int) (some (.int r.1)) (ov Γ.2.2.2 [(o, r.2)])) (hf : pX11_does_j186 S l1 l4 = some r) : V cX11_does RX11 5 153 5 G Γ [(o, S)] 186 [(1, .int l1), (4, .int l4)] [] := by
  unfold pX11_does_j186 at hf
  refine v_iload (pc := 186) 1 dX11_does_186 rfl ?_
  refine v_if_le (pc := 188) 201 dX11_does_188 (by decide) (fun c8 => ?_) (fun c8 => ?_)
  · replace hf := it_t c8 hf
    refine v_iconst (pc := 201) (0 : Int32) dX11_does_201 ci_0 ?_
    have hf2 := Option.some.inj hf; subst hf2
    exact V_iret (pc := 202) hF dX11_does_202
  · replace hf := it_f c8 hf
    refine v_bipush (pc := 191) (10 : Int32) dX11_does_191 cb_10 ?_
    refine v_iload_n (pc := 193) 0 dX11_does_193 rfl ?_
    refine v_imul (pc := 194) dX11_does_194 ?_
    refine v_iload (pc := 195) 1 dX11_does_195 rfl ?_
    refine v_iadd (pc := 197) dX11_does_197 ?_
    refine v_goto (pc := 198) 202 dX11_does_198 (by decide) ?_
    have hf2 := Option.some.inj hf; subst hf2
    exact V_iret (pc := 202) hF dX11_does_202
set_option maxRecDepth 20000 in
theorem wX11_does_j75 {G : Wc} {Γ : Cx} {o : Nat} {S : Ob} {l1 : Int32} {l2 : Int32} {s0 : Int32} {r : Int32 × Ob} (hk0 : kd o = 10) (hF : Fnl G Γ (some .int) (some (.int r.1)) (ov Γ.2.2.2 [(o, r.2)])) (hf : pX11_does_j75 S l1 l2 s0 = some r) : V cX11_does RX11 5 153 5 G Γ [(o, S)] 75 [(0, .ref (wA G o 0)), (1, .int l1), (2, .int l2)] [.int s0] := by
  unfold pX11_does_j75 at hf
  refine v_istore (pc := 75) [(4, _), (0, _), (1, _), (2, _)] dX11_does_75 (Nat.le_of_ble_eq_true rfl) rfl ?_
  refine v_iload (pc := 77) 0 dX11_does_77 rfl ?_
  refine v_if_ne (pc := 79) 186 dX11_does_79 (by decide) (fun c13 => ?_) (fun c13 => ?_)
  · replace hf := it_f c13 hf
    exact V_sub [2, 0] rfl (wX11_does_j186 hk0 hF hf)
  · replace hf := it_t c13 hf
    refine v_aload_n (pc := 82) 1 dX11_does_82 rfl ?_
    refine v_iload_n (pc := 83) 3 dX11_does_83 rfl ?_
    replace hf := bd_some hf; obtain ⟨r14, h15, hf⟩ := hf
    refine V_call (pc := 84) (us1 := [_]) [0] 0 (kX11_cuts (o := o) hk0 h15) rfl rfl rfl rfl rfl hk0 (Nat.le_of_ble_eq_true rfl) rfl rfl rfl wm_RX11_315 md_X11_cuts (Nat.le_of_ble_eq_true rfl) (Nat.le_of_ble_eq_true rfl) rfl rfl (Nat.le_of_ble_eq_true rfl) dX11_does_84 ?_
    refine v_goto (pc := 87) 186 dX11_does_87 (by decide) ?_
    exact V_sub [2, 0] rfl (wX11_does_j186 hk0 hF hf)
set_option maxRecDepth 20000 in
theorem wX11_does_j103 {G : Wc} {Γ : Cx} {o : Nat} {S : Ob} {l1 : Int32} {l2 : Int32} {l3 : Int32} {s0 : Int32} {r : Int32 × Ob} (hk0 : kd o = 10) (hF : Fnl G Γ (some .int) (some (.int r.1)) (ov Γ.2.2.2 [(o, r.2)])) (hf : pX11_does_j103 S l1 l2 l3 s0 = some r) : V cX11_does RX11 5 153 5 G Γ [(o, S)] 103 [(0, .ref (wA G o 0)), (1, .int l1), (2, .int l2), (3, .int l3)] [.int s0] := by
  unfold pX11_does_j103 at hf
  refine v_istore (pc := 103) [(4, _), (0, _), (1, _), (2, _), (3, _)] dX11_does_103 (Nat.le_of_ble_eq_true rfl) rfl ?_
  refine v_iload (pc := 105) 0 dX11_does_105 rfl ?_
  refine v_if_ne (pc := 107) 186 dX11_does_107 (by decide) (fun c19 => ?_) (fun c19 => ?_)
  · replace hf := it_f c19 hf
    exact V_sub [2, 0] rfl (wX11_does_j186 hk0 hF hf)
  · replace hf := it_t c19 hf
    refine v_aload_n (pc := 110) 1 dX11_does_110 rfl ?_
    refine v_iload_n (pc := 111) 3 dX11_does_111 rfl ?_
    refine v_iload_n (pc := 112) 4 dX11_does_112 rfl ?_
    replace hf := bd_some hf; obtain ⟨r20, h21, hf⟩ := hf
    refine V_call (pc := 113) (us1 := [_]) [0] 0 (kX11_catches (o := o) hk0 h21) rfl rfl rfl rfl rfl hk0 (Nat.le_of_ble_eq_true rfl) rfl rfl rfl wm_RX11_299 md_X11_catches (Nat.le_of_ble_eq_true rfl) (Nat.le_of_ble_eq_true rfl) rfl rfl (Nat.le_of_ble_eq_true rfl) dX11_does_113 ?_
    refine v_goto (pc := 116) 186 dX11_does_116 (by decide) ?_
    exact V_sub [2, 0] rfl (wX11_does_j186 hk0 hF hf)
set_option maxRecDepth 20000 in
theorem wX11_does_j137 {G : Wc} {Γ : Cx} {o : Nat} {S : Ob} {l1 : Int32} {l2 : Int32} {l3 : Int32} {s0 : Int32} {r : Int32 × Ob} (hk0 : kd o = 10) (hF : Fnl G Γ (some .int) (some (.int r.1)) (ov Γ.2.2.2 [(o, r.2)])) (hf : pX11_does_j137 S l1 l2 l3 s0 = some r) : V cX11_does RX11 5 153 5 G Γ [(o, S)] 137 [(0, .ref (wA G o 0)), (1, .int l1), (2, .int l2), (3, .int l3)] [.int s0] := by
  unfold pX11_does_j137 at hf
  refine v_istore (pc := 137) [(4, _), (0, _), (1, _), (2, _), (3, _)] dX11_does_137 (Nat.le_of_ble_eq_true rfl) rfl ?_
  refine v_iload (pc := 139) 0 dX11_does_139 rfl ?_
  refine v_if_ne (pc := 141) 186 dX11_does_141 (by decide) (fun c24 => ?_) (fun c24 => ?_)
  · replace hf := it_f c24 hf
    exact V_sub [2, 0] rfl (wX11_does_j186 hk0 hF hf)
  · replace hf := it_t c24 hf
    refine v_aload_n (pc := 144) 1 dX11_does_144 rfl ?_
    refine v_iload_n (pc := 145) 3 dX11_does_145 rfl ?_
    refine v_iload_n (pc := 146) 4 dX11_does_146 rfl ?_
    replace hf := bd_some hf; obtain ⟨r25, h26, hf⟩ := hf
    refine V_call (pc := 147) (us1 := [_]) [0] 0 (kX11_stuffs (o := o) hk0 h26) rfl rfl rfl rfl rfl hk0 (Nat.le_of_ble_eq_true rfl) rfl rfl rfl wm_RX11_318 md_X11_stuffs (Nat.le_of_ble_eq_true rfl) (Nat.le_of_ble_eq_true rfl) rfl rfl (Nat.le_of_ble_eq_true rfl) dX11_does_147 ?_
    refine v_goto (pc := 150) 186 dX11_does_150 (by decide) ?_
    exact V_sub [2, 0] rfl (wX11_does_j186 hk0 hF hf)
set_option maxRecDepth 20000 in
theorem wX11_does_j173 {G : Wc} {Γ : Cx} {o : Nat} {S : Ob} {l1 : Int32} {l2 : Int32} {s0 : Int32} {r : Int32 × Ob} (hk0 : kd o = 10) (hF : Fnl G Γ (some .int) (some (.int r.1)) (ov Γ.2.2.2 [(o, r.2)])) (hf : pX11_does_j173 S l1 l2 s0 = some r) : V cX11_does RX11 5 153 5 G Γ [(o, S)] 173 [(0, .ref (wA G o 0)), (1, .int l1), (2, .int l2)] [.int s0] := by
  unfold pX11_does_j173 at hf
  refine v_istore (pc := 173) [(4, _), (0, _), (1, _), (2, _)] dX11_does_173 (Nat.le_of_ble_eq_true rfl) rfl ?_
  refine v_iload (pc := 175) 0 dX11_does_175 rfl ?_
  refine v_if_ne (pc := 177) 186 dX11_does_177 (by decide) (fun c28 => ?_) (fun c28 => ?_)
  · replace hf := it_f c28 hf
    exact V_sub [2, 0] rfl (wX11_does_j186 hk0 hF hf)
  · replace hf := it_t c28 hf
    refine v_aload_n (pc := 180) 1 dX11_does_180 rfl ?_
    refine v_iload_n (pc := 181) 3 dX11_does_181 rfl ?_
    replace hf := bd_some hf; obtain ⟨r29, h30, hf⟩ := hf
    refine V_call (pc := 182) (us1 := [_]) [0] 0 (kX11_goesOn (o := o) hk0 h30) rfl rfl rfl rfl rfl hk0 (Nat.le_of_ble_eq_true rfl) rfl rfl rfl wm_RX11_321 md_X11_goesOn (Nat.le_of_ble_eq_true rfl) (Nat.le_of_ble_eq_true rfl) rfl rfl (Nat.le_of_ble_eq_true rfl) dX11_does_182 ?_
    refine v_pop (pc := 185) dX11_does_185 rfl ?_
    exact V_sub [2, 0] rfl (wX11_does_j186 hk0 hF hf)
set_option maxRecDepth 20000 in
theorem kX11_does {G : Wc} {o : Nat} {S : Ob} {a : Int32} {b : Int32} {c : Int32} {r : Int32 × Ob} (hk0 : kd o = 10) (hf : pX11_does S  a b c = some r) : Cn yX11_does cX11_does 5 (some .int) 5 153 G [.ref (wA G o 0), .int a, .int b, .int c] [(o, S)] [(o, r.2)] (some (.int r.1)) := by
  refine V_method [(0, .ref (wA G o 0)), (1, .int a), (2, .int b), (3, .int c)] (by decide) rfl (Nat.le_of_ble_eq_true rfl) rfl (fun Γ hF => ?_)
  unfold pX11_does at hf
  refine v_iconst (pc := 0) (0 : Int32) dX11_does_0 ci_0 ?_
  refine v_istore (pc := 1) [(4, _), (0, _), (1, _), (2, _), (3, _)] dX11_does_1 (Nat.le_of_ble_eq_true rfl) rfl ?_
  refine v_iload_n (pc := 3) 2 dX11_does_3 rfl ?_
  by_cases c1 : a = (0 : Int32)
  · replace hf := it_t c1 hf
    refine v_tsIn (pc := 4) (0 : Int32) 36 dX11_does_4 c1 (by decide) (by decide) rfl (by decide) ?_
    refine v_aload_n (pc := 36) 1 dX11_does_36 rfl ?_
    refine v_iload_n (pc := 37) 3 dX11_does_37 rfl ?_
    refine v_iload_n (pc := 38) 4 dX11_does_38 rfl ?_
    replace hf := bd_some hf; obtain ⟨r5, h6, hf⟩ := hf
    refine V_call (pc := 39) (us1 := [_]) [0] 0 (kX11_whyStroke (o := o) hk0 h6) rfl rfl rfl rfl rfl hk0 (Nat.le_of_ble_eq_true rfl) rfl rfl rfl wm_RX11_306 md_X11_whyStroke (Nat.le_of_ble_eq_true rfl) (Nat.le_of_ble_eq_true rfl) rfl rfl (Nat.le_of_ble_eq_true rfl) dX11_does_39 ?_
    refine v_istore (pc := 42) [(4, _), (0, _), (1, _), (2, _), (3, _)] dX11_does_42 (Nat.le_of_ble_eq_true rfl) rfl ?_
    refine v_iload (pc := 44) 0 dX11_does_44 rfl ?_
    refine v_if_ne (pc := 46) 186 dX11_does_46 (by decide) (fun c7 => ?_) (fun c7 => ?_)
    · replace hf := it_f c7 hf
      exact V_sub [2, 0] rfl (wX11_does_j186 hk0 hF hf)
    · replace hf := it_t c7 hf
      refine v_aload_n (pc := 49) 1 dX11_does_49 rfl ?_
      refine v_iload_n (pc := 50) 3 dX11_does_50 rfl ?_
      refine v_iload_n (pc := 51) 4 dX11_does_51 rfl ?_
      replace hf := bd_some hf; obtain ⟨r9, h10, hf⟩ := hf
      refine V_call (pc := 52) (us1 := [_]) [0] 0 (kX11_strokes (o := o) hk0 h10) rfl rfl rfl rfl rfl hk0 (Nat.le_of_ble_eq_true rfl) rfl rfl rfl wm_RX11_312 md_X11_strokes (Nat.le_of_ble_eq_true rfl) (Nat.le_of_ble_eq_true rfl) rfl rfl (Nat.le_of_ble_eq_true rfl) dX11_does_52 ?_
      refine v_goto (pc := 55) 186 dX11_does_55 (by decide) ?_
      exact V_sub [2, 0] rfl (wX11_does_j186 hk0 hF hf)
  replace hf := it_f c1 hf
  by_cases c2 : a = (1 : Int32)
  · replace hf := it_t c2 hf
    refine v_tsIn (1 : Int32) 58 dX11_does_4 c2 (by decide) (by decide) rfl (by decide) ?_
    refine v_aload_n (pc := 58) 1 dX11_does_58 rfl ?_
    refine gf_RX11_33 (pc := 59) 0 rfl hk0 dX11_does_59 ?_
    refine v_bipush (pc := 62) (125 : Int32) dX11_does_62 cb_125 ?_
    refine v_iload_n (pc := 64) 3 dX11_does_64 rfl ?_
    refine v_iadd (pc := 65) dX11_does_65 ?_
    replace hf := gd_some hf; obtain ⟨g11, hf⟩ := hf
    refine al_X11_6 (pc := 66) _ 0 rfl hk0 rfl g11 dX11_does_66 ?_
    refine v_if_ne (pc := 67) 74 dX11_does_67 (by decide) (fun c12 => ?_) (fun c12 => ?_)
    · replace hf := it_f c12 hf
      refine v_iconst (pc := 74) (0 : Int32) dX11_does_74 ci_0 ?_
      exact V_sub [1, 2, 3] rfl (wX11_does_j75 hk0 hF hf)
    · replace hf := it_t c12 hf
      refine v_iconst (pc := 70) (1 : Int32) dX11_does_70 ci_1 ?_
      refine v_goto (pc := 71) 75 dX11_does_71 (by decide) ?_
      exact V_sub [1, 2, 3] rfl (wX11_does_j75 hk0 hF hf)
  replace hf := it_f c2 hf
  by_cases c3 : a = (2 : Int32)
  · replace hf := it_t c3 hf
    refine v_tsIn (2 : Int32) 90 dX11_does_4 c3 (by decide) (by decide) rfl (by decide) ?_
    refine v_aload_n (pc := 90) 1 dX11_does_90 rfl ?_
    refine v_iload_n (pc := 91) 3 dX11_does_91 rfl ?_
    replace hf := bd_some hf; obtain ⟨r16, h17, hf⟩ := hf
    refine V_call (pc := 92) (us1 := [_]) [0] 0 (kX11_isNest (o := o) hk0 h17) rfl rfl rfl rfl rfl hk0 (Nat.le_of_ble_eq_true rfl) rfl rfl rfl wm_RX11_271 md_X11_isNest (Nat.le_of_ble_eq_true rfl) (Nat.le_of_ble_eq_true rfl) rfl rfl (Nat.le_of_ble_eq_true rfl) dX11_does_92 ?_
    refine v_if_eq (pc := 95) 102 dX11_does_95 (by decide) (fun c18 => ?_) (fun c18 => ?_)
    · replace hf := it_t c18 hf
      refine v_iconst (pc := 102) (0 : Int32) dX11_does_102 ci_0 ?_
      exact V_sub [1, 2, 3, 4] rfl (wX11_does_j103 hk0 hF hf)
    · replace hf := it_f c18 hf
      refine v_iconst (pc := 98) (1 : Int32) dX11_does_98 ci_1 ?_
      refine v_goto (pc := 99) 103 dX11_does_99 (by decide) ?_
      exact V_sub [1, 2, 3, 4] rfl (wX11_does_j103 hk0 hF hf)
  replace hf := it_f c3 hf
  by_cases c4 : a = (3 : Int32)
  · replace hf := it_t c4 hf
    refine v_tsIn (3 : Int32) 119 dX11_does_4 c4 (by decide) (by decide) rfl (by decide) ?_
    refine v_aload_n (pc := 119) 1 dX11_does_119 rfl ?_
    refine gf_RX11_33 (pc := 120) 0 rfl hk0 dX11_does_120 ?_
    refine v_sipush (pc := 123) (185 : Int32) dX11_does_123 cs_185 ?_
    refine v_iload_n (pc := 126) 4 dX11_does_126 rfl ?_
    refine v_iadd (pc := 127) dX11_does_127 ?_
    replace hf := gd_some hf; obtain ⟨g22, hf⟩ := hf
    refine al_X11_6 (pc := 128) _ 0 rfl hk0 rfl g22 dX11_does_128 ?_
    refine v_if_ne (pc := 129) 136 dX11_does_129 (by decide) (fun c23 => ?_) (fun c23 => ?_)
    · replace hf := it_f c23 hf
      refine v_iconst (pc := 136) (0 : Int32) dX11_does_136 ci_0 ?_
      exact V_sub [1, 2, 3, 4] rfl (wX11_does_j137 hk0 hF hf)
    · replace hf := it_t c23 hf
      refine v_iconst (pc := 132) (1 : Int32) dX11_does_132 ci_1 ?_
      refine v_goto (pc := 133) 137 dX11_does_133 (by decide) ?_
      exact V_sub [1, 2, 3, 4] rfl (wX11_does_j137 hk0 hF hf)
  replace hf := it_f c4 hf
  refine v_tsOut 153 dX11_does_4 4 (fun k hk => match k, hk with | 0, _ => c1 | 1, _ => c2 | 2, _ => c3 | 3, _ => c4 | k + 4, h => absurd h (by omega)) (by decide) (by decide) (by decide) ?_
  refine v_aload_n (pc := 153) 1 dX11_does_153 rfl ?_
  refine gf_RX11_33 (pc := 154) 0 rfl hk0 dX11_does_154 ?_
  refine v_bipush (pc := 157) (121 : Int32) dX11_does_157 cb_121 ?_
  refine al_X11_6 (pc := 159) 121 0 rfl hk0 rfl ib_121_390 dX11_does_159 ?_
  refine v_iload_n (pc := 160) 3 dX11_does_160 rfl ?_
  refine v_iadd (pc := 161) dX11_does_161 ?_
  refine v_sipush (pc := 162) (400 : Int32) dX11_does_162 cs_400 ?_
  refine v_icmp_le (pc := 165) 172 dX11_does_165 (by decide) (fun c27 => ?_) (fun c27 => ?_)
  · replace hf := it_t c27 hf
    refine v_iconst (pc := 172) (0 : Int32) dX11_does_172 ci_0 ?_
    exact V_sub [1, 2, 3] rfl (wX11_does_j173 hk0 hF hf)
  · replace hf := it_f c27 hf
    refine v_iconst (pc := 168) (1 : Int32) dX11_does_168 ci_1 ?_
    refine v_goto (pc := 169) 173 dX11_does_169 (by decide) ?_
    exact V_sub [1, 2, 3] rfl (wX11_does_j173 hk0 hF hf)
