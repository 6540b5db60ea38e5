set_option maxRecDepth 20000 in
theorem wX11_isLeaf_j155 {G : Wc} {Γ : Cx} {o : Nat} {S : Ob} {l3 : Int32} {l4 : Int32} {s0 : Int32} {r : Int32} (hk0 : kd o = 10) (hF : Fnl G Γ (some .boolean) (some (.int r)) (ov Γ.2.2.2 [(o, S)])) (hf : pX11_isLeaf_j155 S l3 l4 s0 = some r) : V cX11_isLeaf RX11 4 128 6 G Γ [(o, S)] 155 [(3, .int l3), (4, .int l4)] [.int s0] := by
  unfold pX11_isLeaf_j155 at hf
  refine v_istore (pc := 155) [(5, _), (3, _), (4, _)] dX11_isLeaf_155 (Nat.le_of_ble_eq_true rfl) rfl ?_
  refine v_iload_n (pc := 157) 1 dX11_isLeaf_157 rfl ?_
  refine v_bipush (pc := 158) (60 : Int32) dX11_isLeaf_158 cb_60 ?_
  refine v_icmp_ne (pc := 160) 178 dX11_isLeaf_160 (by decide) (fun c23 => ?_) (fun c23 => ?_)
  · replace hf := it_f c23 hf
    refine v_iload_n (pc := 178) 1 dX11_isLeaf_178 rfl ?_
    refine v_bipush (pc := 179) (61 : Int32) dX11_isLeaf_179 cb_61 ?_
    refine v_icmp_ne (pc := 181) 199 dX11_isLeaf_181 (by decide) (fun c24 => ?_) (fun c24 => ?_)
    · replace hf := it_f c24 hf
      refine v_iload (pc := 199) 0 dX11_isLeaf_199 rfl ?_
      refine v_iload (pc := 201) 2 dX11_isLeaf_201 rfl ?_
      refine v_icmp_le (pc := 203) 210 dX11_isLeaf_203 (by decide) (fun c25 => ?_) (fun c25 => ?_)
      · replace hf := it_t c25 hf
        refine v_iconst (pc := 210) (0 : Int32) dX11_isLeaf_210 ci_0 ?_
        have hf2 := Option.some.inj hf; subst hf2
        exact V_zret (pc := 211) hF rfl dX11_isLeaf_211
      · replace hf := it_f c25 hf
        refine v_iconst (pc := 206) (1 : Int32) dX11_isLeaf_206 ci_1 ?_
        refine v_goto (pc := 207) 211 dX11_isLeaf_207 (by decide) ?_
        have hf2 := Option.some.inj hf; subst hf2
        exact V_zret (pc := 211) hF rfl dX11_isLeaf_211
    · replace hf := it_t c24 hf
      refine v_iload (pc := 184) 0 dX11_isLeaf_184 rfl ?_
      refine v_iload (pc := 186) 2 dX11_isLeaf_186 rfl ?_
      refine v_icmp_ne (pc := 188) 195 dX11_isLeaf_188 (by decide) (fun c26 => ?_) (fun c26 => ?_)
      · replace hf := it_f c26 hf
        refine v_iconst (pc := 195) (0 : Int32) dX11_isLeaf_195 ci_0 ?_
        refine v_goto (pc := 196) 211 dX11_isLeaf_196 (by decide) ?_
        have hf2 := Option.some.inj hf; subst hf2
        exact V_zret (pc := 211) hF rfl dX11_isLeaf_211
      · replace hf := it_t c26 hf
        refine v_iconst (pc := 191) (1 : Int32) dX11_isLeaf_191 ci_1 ?_
        refine v_goto (pc := 192) 211 dX11_isLeaf_192 (by decide) ?_
        have hf2 := Option.some.inj hf; subst hf2
        exact V_zret (pc := 211) hF rfl dX11_isLeaf_211
  · replace hf := it_t c23 hf
    refine v_iload (pc := 163) 0 dX11_isLeaf_163 rfl ?_
    refine v_iload (pc := 165) 2 dX11_isLeaf_165 rfl ?_
    refine v_icmp_ge (pc := 167) 174 dX11_isLeaf_167 (by decide) (fun c27 => ?_) (fun c27 => ?_)
    · replace hf := it_t c27 hf
      refine v_iconst (pc := 174) (0 : Int32) dX11_isLeaf_174 ci_0 ?_
      refine v_goto (pc := 175) 211 dX11_isLeaf_175 (by decide) ?_
      have hf2 := Option.some.inj hf; subst hf2
      exact V_zret (pc := 211) hF rfl dX11_isLeaf_211
    · replace hf := it_f c27 hf
      refine v_iconst (pc := 170) (1 : Int32) dX11_isLeaf_170 ci_1 ?_
      refine v_goto (pc := 171) 211 dX11_isLeaf_171 (by decide) ?_
      have hf2 := Option.some.inj hf; subst hf2
      exact V_zret (pc := 211) hF rfl dX11_isLeaf_211
set_option maxRecDepth 20000 in
theorem kX11_isLeaf {G : Wc} {o : Nat} {S : Ob} {a : Int32} {b : Int32} {c : Int32} {d : Int32} {r : Int32} (hk0 : kd o = 10) (hf : pX11_isLeaf S  a b c d = some r) : Cn yX11_isLeaf cX11_isLeaf 6 (some .boolean) 4 128 G [.ref (wA G o 0), .int a, .int b, .int c, .int d] [(o, S)] [(o, S)] (some (.int r)) := by
  refine V_method [(0, .ref (wA G o 0)), (1, .int a), (2, .int b), (3, .int c), (4, .int d)] (by decide) rfl (Nat.le_of_ble_eq_true rfl) rfl (fun Γ hF => ?_)
  unfold pX11_isLeaf at hf
  refine v_iload_n (pc := 0) 2 dX11_isLeaf_0 rfl ?_
  by_cases c1 : b = (0 : Int32)
  · replace hf := it_t c1 hf
    refine v_tsIn (pc := 1) (0 : Int32) 36 dX11_isLeaf_1 c1 (by decide) (by decide) rfl (by decide) ?_
    refine v_aload_n (pc := 36) 0 dX11_isLeaf_36 rfl ?_
    refine gf_RX11_33 (pc := 37) 0 rfl hk0 dX11_isLeaf_37 ?_
    refine v_bipush (pc := 40) (125 : Int32) dX11_isLeaf_40 cb_125 ?_
    refine v_iload_n (pc := 42) 1 dX11_isLeaf_42 rfl ?_
    refine v_iadd (pc := 43) dX11_isLeaf_43 ?_
    replace hf := gd_some hf; obtain ⟨g6, hf⟩ := hf
    refine al_X11_6 (pc := 44) _ 0 rfl hk0 rfl g6 dX11_isLeaf_44 ?_
    refine v_if_ne (pc := 45) 52 dX11_isLeaf_45 (by decide) (fun c7 => ?_) (fun c7 => ?_)
    · replace hf := it_f c7 hf
      refine v_iconst (pc := 52) (0 : Int32) dX11_isLeaf_52 ci_0 ?_
      have hf2 := Option.some.inj hf; subst hf2
      exact V_zret (pc := 53) hF rfl dX11_isLeaf_53
    · replace hf := it_t c7 hf
      refine v_iconst (pc := 48) (1 : Int32) dX11_isLeaf_48 ci_1 ?_
      refine v_goto (pc := 49) 53 dX11_isLeaf_49 (by decide) ?_
      have hf2 := Option.some.inj hf; subst hf2
      exact V_zret (pc := 53) hF rfl dX11_isLeaf_53
  replace hf := it_f c1 hf
  by_cases c2 : b = (1 : Int32)
  · replace hf := it_t c2 hf
    refine v_tsIn (1 : Int32) 54 dX11_isLeaf_1 c2 (by decide) (by decide) rfl (by decide) ?_
    refine v_aload_n (pc := 54) 0 dX11_isLeaf_54 rfl ?_
    refine v_iload_n (pc := 55) 1 dX11_isLeaf_55 rfl ?_
    replace hf := bd_some hf; obtain ⟨r8, h9, hf⟩ := hf
    refine V_call (pc := 56) (us1 := [_]) [0] 0 (kX11_isNest (o := o) hk0 h9) rfl rfl rfl rfl rfl hk0 (Nat.le_of_ble_eq_true rfl) rfl rfl rfl wm_RX11_271 md_X11_isNest (Nat.le_of_ble_eq_true rfl) (Nat.le_of_ble_eq_true rfl) rfl rfl (Nat.le_of_ble_eq_true rfl) dX11_isLeaf_56 ?_
    replace hf := gd_some hf; obtain ⟨g10, hf⟩ := hf
    have hf2 := Option.some.inj hf; subst hf2
    exact V_zret (pc := 59) hF g10 dX11_isLeaf_59
  replace hf := it_f c2 hf
  by_cases c3 : b = (2 : Int32)
  · replace hf := it_t c3 hf
    refine v_tsIn (2 : Int32) 60 dX11_isLeaf_1 c3 (by decide) (by decide) rfl (by decide) ?_
    refine v_aload_n (pc := 60) 0 dX11_isLeaf_60 rfl ?_
    refine gf_RX11_33 (pc := 61) 0 rfl hk0 dX11_isLeaf_61 ?_
    refine v_sipush (pc := 64) (179 : Int32) dX11_isLeaf_64 cs_179 ?_
    refine v_iload_n (pc := 67) 1 dX11_isLeaf_67 rfl ?_
    refine v_iadd (pc := 68) dX11_isLeaf_68 ?_
    replace hf := gd_some hf; obtain ⟨g11, hf⟩ := hf
    refine al_X11_6 (pc := 69) _ 0 rfl hk0 rfl g11 dX11_isLeaf_69 ?_
    refine v_aload_n (pc := 70) 0 dX11_isLeaf_70 rfl ?_
    refine gf_RX11_33 (pc := 71) 0 rfl hk0 dX11_isLeaf_71 ?_
    refine v_bipush (pc := 74) (21 : Int32) dX11_isLeaf_74 cb_21 ?_
    refine v_iload_n (pc := 76) 1 dX11_isLeaf_76 rfl ?_
    refine v_iadd (pc := 77) dX11_isLeaf_77 ?_
    replace hf := gd_some hf; obtain ⟨g12, hf⟩ := hf
    refine al_X11_6 (pc := 78) _ 0 rfl hk0 rfl g12 dX11_isLeaf_78 ?_
    refine v_icmp_lt (pc := 79) 86 dX11_isLeaf_79 (by decide) (fun c13 => ?_) (fun c13 => ?_)
    · replace hf := it_t c13 hf
      refine v_iconst (pc := 86) (0 : Int32) dX11_isLeaf_86 ci_0 ?_
      have hf2 := Option.some.inj hf; subst hf2
      exact V_zret (pc := 87) hF rfl dX11_isLeaf_87
    · replace hf := it_f c13 hf
      refine v_iconst (pc := 82) (1 : Int32) dX11_isLeaf_82 ci_1 ?_
      refine v_goto (pc := 83) 87 dX11_isLeaf_83 (by decide) ?_
      have hf2 := Option.some.inj hf; subst hf2
      exact V_zret (pc := 87) hF rfl dX11_isLeaf_87
  replace hf := it_f c3 hf
  by_cases c4 : b = (3 : Int32)
  · replace hf := it_t c4 hf
    refine v_tsIn (3 : Int32) 88 dX11_isLeaf_1 c4 (by decide) (by decide) rfl (by decide) ?_
    refine v_aload_n (pc := 88) 0 dX11_isLeaf_88 rfl ?_
    refine v_iload_n (pc := 89) 1 dX11_isLeaf_89 rfl ?_
    refine v_iload (pc := 90) 4 dX11_isLeaf_90 rfl ?_
    replace hf := bd_some hf; obtain ⟨r14, h15, hf⟩ := hf
    refine V_call (pc := 92) (us1 := [_]) [0] 0 (kX11_hasThing (o := o) hk0 h15) rfl rfl rfl rfl rfl hk0 (Nat.le_of_ble_eq_true rfl) rfl rfl rfl wm_RX11_277 md_X11_hasThing (Nat.le_of_ble_eq_true rfl) (Nat.le_of_ble_eq_true rfl) rfl rfl (Nat.le_of_ble_eq_true rfl) dX11_isLeaf_92 ?_
    replace hf := gd_some hf; obtain ⟨g16, hf⟩ := hf
    have hf2 := Option.some.inj hf; subst hf2
    exact V_zret (pc := 95) hF g16 dX11_isLeaf_95
  replace hf := it_f c4 hf
  by_cases c5 : b = (4 : Int32)
  · replace hf := it_t c5 hf
    refine v_tsIn (4 : Int32) 96 dX11_isLeaf_1 c5 (by decide) (by decide) rfl (by decide) ?_
    refine v_aload_n (pc := 96) 0 dX11_isLeaf_96 rfl ?_
    refine v_iload_n (pc := 97) 1 dX11_isLeaf_97 rfl ?_
    refine v_iload (pc := 98) 4 dX11_isLeaf_98 rfl ?_
    replace hf := bd_some hf; obtain ⟨r17, h18, hf⟩ := hf
    refine V_call (pc := 100) (us1 := [_]) [0] 0 (kX11_isLike (o := o) hk0 h18) rfl rfl rfl rfl rfl hk0 (Nat.le_of_ble_eq_true rfl) rfl rfl rfl wm_RX11_375 md_X11_isLike (Nat.le_of_ble_eq_true rfl) (Nat.le_of_ble_eq_true rfl) rfl rfl (Nat.le_of_ble_eq_true rfl) dX11_isLeaf_100 ?_
    replace hf := gd_some hf; obtain ⟨g19, hf⟩ := hf
    have hf2 := Option.some.inj hf; subst hf2
    exact V_zret (pc := 103) hF g19 dX11_isLeaf_103
  replace hf := it_f c5 hf
  refine v_tsOut 104 dX11_isLeaf_1 5 (fun k hk => match k, hk with | 0, _ => c1 | 1, _ => c2 | 2, _ => c3 | 3, _ => c4 | 4, _ => c5 | k + 5, h => absurd h (by omega)) (by decide) (by decide) (by decide) ?_
  refine v_iload_n (pc := 104) 2 dX11_isLeaf_104 rfl ?_
  refine v_iconst (pc := 105) (5 : Int32) dX11_isLeaf_105 ci_5 ?_
  refine v_icmp_ne (pc := 106) 121 dX11_isLeaf_106 (by decide) (fun c20 => ?_) (fun c20 => ?_)
  · replace hf := it_f c20 hf
    refine v_iload_n (pc := 121) 2 dX11_isLeaf_121 rfl ?_
    refine v_bipush (pc := 122) (6 : Int32) dX11_isLeaf_122 cb_6 ?_
    refine v_icmp_ne (pc := 124) 135 dX11_isLeaf_124 (by decide) (fun c21 => ?_) (fun c21 => ?_)
    · replace hf := it_f c21 hf
      refine v_iload_n (pc := 135) 2 dX11_isLeaf_135 rfl ?_
      refine v_bipush (pc := 136) (7 : Int32) dX11_isLeaf_136 cb_7 ?_
      refine v_icmp_ne (pc := 138) 154 dX11_isLeaf_138 (by decide) (fun c22 => ?_) (fun c22 => ?_)
      · replace hf := it_f c22 hf
        refine v_iload_n (pc := 154) 1 dX11_isLeaf_154 rfl ?_
        exact V_sub [3, 4] rfl (wX11_isLeaf_j155 hk0 hF hf)
      · replace hf := it_t c22 hf
        refine v_aload_n (pc := 141) 0 dX11_isLeaf_141 rfl ?_
        refine gf_RX11_33 (pc := 142) 0 rfl hk0 dX11_isLeaf_142 ?_
        refine v_sipush (pc := 145) (179 : Int32) dX11_isLeaf_145 cs_179 ?_
        refine v_iload_n (pc := 148) 1 dX11_isLeaf_148 rfl ?_
        refine v_iadd (pc := 149) dX11_isLeaf_149 ?_
        replace hf := gd_some hf; obtain ⟨g28, hf⟩ := hf
        refine al_X11_6 (pc := 150) _ 0 rfl hk0 rfl g28 dX11_isLeaf_150 ?_
        refine v_goto (pc := 151) 155 dX11_isLeaf_151 (by decide) ?_
        exact V_sub [3, 4] rfl (wX11_isLeaf_j155 hk0 hF hf)
    · replace hf := it_t c21 hf
      refine v_aload_n (pc := 127) 0 dX11_isLeaf_127 rfl ?_
      refine v_iload_n (pc := 128) 1 dX11_isLeaf_128 rfl ?_
      replace hf := bd_some hf; obtain ⟨r29, h30, hf⟩ := hf
      refine V_call (pc := 129) (us1 := [_]) [0] 0 (kX11_knotsOf (o := o) hk0 h30) rfl rfl rfl rfl rfl hk0 (Nat.le_of_ble_eq_true rfl) rfl rfl rfl wm_RX11_261 md_X11_knotsOf (Nat.le_of_ble_eq_true rfl) (Nat.le_of_ble_eq_true rfl) rfl rfl (Nat.le_of_ble_eq_true rfl) dX11_isLeaf_129 ?_
      refine v_goto (pc := 132) 155 dX11_isLeaf_132 (by decide) ?_
      exact V_sub [3, 4] rfl (wX11_isLeaf_j155 hk0 hF hf)
  · replace hf := it_t c20 hf
    refine v_aload_n (pc := 109) 0 dX11_isLeaf_109 rfl ?_
    refine gf_RX11_33 (pc := 110) 0 rfl hk0 dX11_isLeaf_110 ?_
    refine v_bipush (pc := 113) (125 : Int32) dX11_isLeaf_113 cb_125 ?_
    refine v_iload_n (pc := 115) 1 dX11_isLeaf_115 rfl ?_
    refine v_iadd (pc := 116) dX11_isLeaf_116 ?_
    replace hf := gd_some hf; obtain ⟨g31, hf⟩ := hf
    refine al_X11_6 (pc := 117) _ 0 rfl hk0 rfl g31 dX11_isLeaf_117 ?_
    refine v_goto (pc := 118) 155 dX11_isLeaf_118 (by decide) ?_
    exact V_sub [3, 4] rfl (wX11_isLeaf_j155 hk0 hF hf)
set_option maxRecDepth 20000 in
theorem wX11_isSaid_j158 {G : Wc} {Γ : Cx} {o : Nat} {S : Ob} {l1 : Int32} {l2 : Int32} {l3 : Int32} {s1 : Int32} {r : Ob} (hk0 : kd o = 10) {rec : Int32 → Int32 → Ob → Option (Ob)} (hrec : ∀ {l2 : Int32} {l3 : Int32} {S : Ob}, rec l2 l3 S = some r → V cX11_isSaid RX11 5 153 5 G Γ [(o, S)] 4 [(0, .ref (wA G o 0)), (1, .int l1), (2, .int l2), (3, .int l3)] []) (hx : V cX11_isSaid RX11 5 153 5 G Γ [(o, r)] 212 [(0, .ref (wA G o 0))] []) (hf : pX11_isSaid_j158 rec S l1 l2 l3 s1 = some r) : V cX11_isSaid RX11 5 153 5 G Γ [(o, S)] 158 [(0, .ref (wA G o 0)), (1, .int l1), (2, .int l2), (3, .int l3)] [.int s1, .ref (wA G o 46)] := by
  unfold pX11_isSaid_j158 at hf
  refine v_iconst (pc := 158) (1 : Int32) dX11_isSaid_158 ci_1 ?_
  refine v_goto (pc := 159) 163 dX11_isSaid_159 (by decide) ?_
  replace hf := gd_some hf; obtain ⟨g10, hf⟩ := hf
  refine as_X11_45 (pc := 163) [_] _ 0 rfl hk0 rfl g10 rfl rfl dX11_isSaid_163 ?_
  refine v_goto (pc := 164) 206 dX11_isSaid_164 (by decide) ?_
  refine v_iinc (pc := 206) 3 (l3 + (1 : Int32)) [(3, _), (0, _), (1, _), (2, _)] dX11_isSaid_206 rfl (congrArg (fun z => _ + z) ci_1) (Nat.le_of_ble_eq_true rfl) rfl ?_
  refine v_goto (pc := 209) 4 dX11_isSaid_209 (by decide) ?_
  exact V_sub [1, 2, 3, 0] rfl (hrec hf)
set_option maxRecDepth 20000 in
theorem wX11_isSaid_j134 {G : Wc} {Γ : Cx} {o : Nat} {S : Ob} {l1 : Int32} {l2 : Int32} {l3 : Int32} {s1 : Int32} {r : Ob} (hk0 : kd o = 10) {rec : Int32 → Int32 → Ob → Option (Ob)} (hrec : ∀ {l2 : Int32} {l3 : Int32} {S : Ob}, rec l2 l3 S = some r → V cX11_isSaid RX11 5 153 5 G Γ [(o, S)] 4 [(0, .ref (wA G o 0)), (1, .int l1), (2, .int l2), (3, .int l3)] []) (hx : V cX11_isSaid RX11 5 153 5 G Γ [(o, r)] 212 [(0, .ref (wA G o 0))] []) (hf : pX11_isSaid_j134 rec S l1 l2 l3 s1 = some r) : V cX11_isSaid RX11 5 153 5 G Γ [(o, S)] 134 [(0, .ref (wA G o 0)), (1, .int l1), (2, .int l2), (3, .int l3)] [.int s1, .ref (wA G o 46)] := by
  unfold pX11_isSaid_j134 at hf
  refine v_iconst (pc := 134) (0 : Int32) dX11_isSaid_134 ci_0 ?_
  refine v_goto (pc := 135) 163 dX11_isSaid_135 (by decide) ?_
  replace hf := gd_some hf; obtain ⟨g16, hf⟩ := hf
  refine as_X11_45 (pc := 163) [_] _ 0 rfl hk0 rfl g16 rfl rfl dX11_isSaid_163 ?_
  refine v_goto (pc := 164) 206 dX11_isSaid_164 (by decide) ?_
  refine v_iinc (pc := 206) 3 (l3 + (1 : Int32)) [(3, _), (0, _), (1, _), (2, _)] dX11_isSaid_206 rfl (congrArg (fun z => _ + z) ci_1) (Nat.le_of_ble_eq_true rfl) rfl ?_
  refine v_goto (pc := 209) 4 dX11_isSaid_209 (by decide) ?_
  exact V_sub [1, 2, 3, 0] rfl (hrec hf)
set_option maxRecDepth 20000 in
theorem wX11_isSaid_j88 {G : Wc} {Γ : Cx} {o : Nat} {S : Ob} {l1 : Int32} {l2 : Int32} {l3 : Int32} {l4 : Int32} {r : Ob} (hk0 : kd o = 10) {rec : Int32 → Int32 → Ob → Option (Ob)} (hrec : ∀ {l2 : Int32} {l3 : Int32} {S : Ob}, rec l2 l3 S = some r → V cX11_isSaid RX11 5 153 5 G Γ [(o, S)] 4 [(0, .ref (wA G o 0)), (1, .int l1), (2, .int l2), (3, .int l3)] []) (hx : V cX11_isSaid RX11 5 153 5 G Γ [(o, r)] 212 [(0, .ref (wA G o 0))] []) (hf : pX11_isSaid_j88 rec S l1 l2 l3 l4 = some r) : V cX11_isSaid RX11 5 153 5 G Γ [(o, S)] 88 [(0, .ref (wA G o 0)), (1, .int l1), (2, .int l2), (3, .int l3), (4, .int l4)] [] := by
  unfold pX11_isSaid_j88 at hf
  refine v_iinc (pc := 88) 2 (l2 + (-1 : Int32)) [(2, _), (0, _), (1, _), (3, _), (4, _)] dX11_isSaid_88 rfl (congrArg (fun z => _ + z) ci_m1) (Nat.le_of_ble_eq_true rfl) rfl ?_
  refine v_aload_n (pc := 91) 1 dX11_isSaid_91 rfl ?_
  refine gf_RX11_75 (pc := 92) 0 rfl hk0 dX11_isSaid_92 ?_
  refine v_iload_n (pc := 95) 0 dX11_isSaid_95 rfl ?_
  refine v_iconst (pc := 96) (1 : Int32) dX11_isSaid_96 ci_1 ?_
  refine v_isub (pc := 97) dX11_isSaid_97 ?_
  refine v_aload_n (pc := 98) 1 dX11_isSaid_98 rfl ?_
  refine gf_RX11_33 (pc := 99) 0 rfl hk0 dX11_isSaid_99 ?_
  refine v_iload (pc := 102) 4 dX11_isSaid_102 rfl ?_
  replace hf := gd_some hf; obtain ⟨g6, hf⟩ := hf
  refine al_X11_6 (pc := 104) _ 0 rfl hk0 rfl g6 dX11_isSaid_104 ?_
  refine v_bipush (pc := 105) (21 : Int32) dX11_isSaid_105 cb_21 ?_
  refine v_icmp_ne (pc := 107) 138 dX11_isSaid_107 (by decide) (fun c7 => ?_) (fun c7 => ?_)
  · replace hf := it_f c7 hf
    refine v_aload_n (pc := 138) 1 dX11_isSaid_138 rfl ?_
    refine gf_RX11_75 (pc := 139) 0 rfl hk0 dX11_isSaid_139 ?_
    refine v_iload_n (pc := 142) 0 dX11_isSaid_142 rfl ?_
    refine v_iconst (pc := 143) (1 : Int32) dX11_isSaid_143 ci_1 ?_
    refine v_isub (pc := 144) dX11_isSaid_144 ?_
    replace hf := gd_some hf; obtain ⟨g8, hf⟩ := hf
    refine al_X11_45 (pc := 145) _ 0 rfl hk0 rfl g8 dX11_isSaid_145 ?_
    refine v_if_ne (pc := 146) 158 dX11_isSaid_146 (by decide) (fun c9 => ?_) (fun c9 => ?_)
    · replace hf := it_f c9 hf
      exact V_sub [1, 2, 0, 3] rfl (wX11_isSaid_j158 hk0 hrec hx hf)
    · replace hf := it_t c9 hf
      refine v_aload_n (pc := 149) 1 dX11_isSaid_149 rfl ?_
      refine gf_RX11_75 (pc := 150) 0 rfl hk0 dX11_isSaid_150 ?_
      refine v_iload_n (pc := 153) 0 dX11_isSaid_153 rfl ?_
      replace hf := gd_some hf; obtain ⟨g11, hf⟩ := hf
      refine al_X11_45 (pc := 154) _ 0 rfl hk0 rfl g11 dX11_isSaid_154 ?_
      refine v_if_eq (pc := 155) 162 dX11_isSaid_155 (by decide) (fun c12 => ?_) (fun c12 => ?_)
      · replace hf := it_t c12 hf
        refine v_iconst (pc := 162) (0 : Int32) dX11_isSaid_162 ci_0 ?_
        replace hf := gd_some hf; obtain ⟨g13, hf⟩ := hf
        refine as_X11_45 (pc := 163) [_] _ 0 rfl hk0 rfl g13 rfl rfl dX11_isSaid_163 ?_
        refine v_goto (pc := 164) 206 dX11_isSaid_164 (by decide) ?_
        refine v_iinc (pc := 206) 3 (l3 + (1 : Int32)) [(3, _), (2, _), (0, _), (1, _), (4, _)] dX11_isSaid_206 rfl (congrArg (fun z => _ + z) ci_1) (Nat.le_of_ble_eq_true rfl) rfl ?_
        refine v_goto (pc := 209) 4 dX11_isSaid_209 (by decide) ?_
        exact V_sub [2, 3, 1, 0] rfl (hrec hf)
      · replace hf := it_f c12 hf
        exact V_sub [1, 2, 0, 3] rfl (wX11_isSaid_j158 hk0 hrec hx hf)
  · replace hf := it_t c7 hf
    refine v_aload_n (pc := 110) 1 dX11_isSaid_110 rfl ?_
    refine gf_RX11_75 (pc := 111) 0 rfl hk0 dX11_isSaid_111 ?_
    refine v_iload_n (pc := 114) 0 dX11_isSaid_114 rfl ?_
    refine v_iconst (pc := 115) (1 : Int32) dX11_isSaid_115 ci_1 ?_
    refine v_isub (pc := 116) dX11_isSaid_116 ?_
    replace hf := gd_some hf; obtain ⟨g14, hf⟩ := hf
    refine al_X11_45 (pc := 117) _ 0 rfl hk0 rfl g14 dX11_isSaid_117 ?_
    refine v_if_eq (pc := 118) 134 dX11_isSaid_118 (by decide) (fun c15 => ?_) (fun c15 => ?_)
    · replace hf := it_t c15 hf
      exact V_sub [1, 2, 0, 3] rfl (wX11_isSaid_j134 hk0 hrec hx hf)
    · replace hf := it_f c15 hf
      refine v_aload_n (pc := 121) 1 dX11_isSaid_121 rfl ?_
      refine gf_RX11_75 (pc := 122) 0 rfl hk0 dX11_isSaid_122 ?_
      refine v_iload_n (pc := 125) 0 dX11_isSaid_125 rfl ?_
      replace hf := gd_some hf; obtain ⟨g17, hf⟩ := hf
      refine al_X11_45 (pc := 126) _ 0 rfl hk0 rfl g17 dX11_isSaid_126 ?_
      refine v_if_eq (pc := 127) 134 dX11_isSaid_127 (by decide) (fun c18 => ?_) (fun c18 => ?_)
      · replace hf := it_t c18 hf
        exact V_sub [1, 2, 0, 3] rfl (wX11_isSaid_j134 hk0 hrec hx hf)
      · replace hf := it_f c18 hf
        refine v_iconst (pc := 130) (1 : Int32) dX11_isSaid_130 ci_1 ?_
        refine v_goto (pc := 131) 163 dX11_isSaid_131 (by decide) ?_
        replace hf := gd_some hf; obtain ⟨g19, hf⟩ := hf
        refine as_X11_45 (pc := 163) [_] _ 0 rfl hk0 rfl g19 rfl rfl dX11_isSaid_163 ?_
        refine v_goto (pc := 164) 206 dX11_isSaid_164 (by decide) ?_
        refine v_iinc (pc := 206) 3 (l3 + (1 : Int32)) [(3, _), (2, _), (0, _), (1, _), (4, _)] dX11_isSaid_206 rfl (congrArg (fun z => _ + z) ci_1) (Nat.le_of_ble_eq_true rfl) rfl ?_
        refine v_goto (pc := 209) 4 dX11_isSaid_209 (by decide) ?_
        exact V_sub [2, 3, 1, 0] rfl (hrec hf)
set_option maxRecDepth 20000 in
theorem wX11_isSaid_l4 {G : Wc} {Γ : Cx} {o : Nat} {l1 : Int32} (hk0 : kd o = 10) : ∀ (n : Nat) {l2 : Int32} {l3 : Int32} {S : Ob} {r : Ob}, pX11_isSaid_l4  l1 n l2 l3 S = some r → V cX11_isSaid RX11 5 153 5 G Γ [(o, r)] 212 [(0, .ref (wA G o 0))] [] → V cX11_isSaid RX11 5 153 5 G Γ [(o, S)] 4 [(0, .ref (wA G o 0)), (1, .int l1), (2, .int l2), (3, .int l3)] [] := by
  intro n
  induction n with
  | zero => intro l2 l3 S r hf hx; unfold pX11_isSaid_l4 at hf; cases hf
  | succ n ih =>
    intro l2 l3 S r hf hx
    have hrec : ∀ {l2 : Int32} {l3 : Int32} {S : Ob}, pX11_isSaid_l4  l1 n l2 l3 S = some r → V cX11_isSaid RX11 5 153 5 G Γ [(o, S)] 4 [(0, .ref (wA G o 0)), (1, .int l1), (2, .int l2), (3, .int l3)] [] := fun h => ih h hx
    clear ih
    unfold pX11_isSaid_l4 at hf
    refine v_iload_n (pc := 4) 3 dX11_isSaid_4 rfl ?_
    refine v_aload_n (pc := 5) 0 dX11_isSaid_5 rfl ?_
    refine gf_RX11_33 (pc := 6) 0 rfl hk0 dX11_isSaid_6 ?_
    refine v_sipush (pc := 9) (209 : Int32) dX11_isSaid_9 cs_209 ?_
    refine al_X11_6 (pc := 12) 209 0 rfl hk0 rfl ib_209_390 dX11_isSaid_12 ?_
    refine v_icmp_ge (pc := 13) 212 dX11_isSaid_13 (by decide) (fun c1 => ?_) (fun c1 => ?_)
    · replace hf := it_t c1 hf
      have hf2 := Option.some.inj hf; subst hf2
      exact V_sub [0] rfl hx
    · replace hf := it_f c1 hf
      refine v_sipush (pc := 16) (210 : Int32) dX11_isSaid_16 cs_210 ?_
      refine v_iconst (pc := 19) (3 : Int32) dX11_isSaid_19 ci_3 ?_
      refine v_iload_n (pc := 20) 3 dX11_isSaid_20 rfl ?_
      refine v_imul (pc := 21) dX11_isSaid_21 ?_
      refine v_iadd (pc := 22) dX11_isSaid_22 ?_
      refine v_istore (pc := 23) [(4, _), (0, _), (1, _), (2, _), (3, _)] dX11_isSaid_23 (Nat.le_of_ble_eq_true rfl) rfl ?_
      refine v_aload_n (pc := 25) 1 dX11_isSaid_25 rfl ?_
      refine gf_RX11_33 (pc := 26) 0 rfl hk0 dX11_isSaid_26 ?_
      refine v_iload (pc := 29) 0 dX11_isSaid_29 rfl ?_
      replace hf := gd_some hf; obtain ⟨g2, hf⟩ := hf
      refine al_X11_6 (pc := 31) _ 0 rfl hk0 rfl g2 dX11_isSaid_31 ?_
      refine v_bipush (pc := 32) (20 : Int32) dX11_isSaid_32 cb_20 ?_
      refine v_icmp_ne (pc := 34) 64 dX11_isSaid_34 (by decide) (fun c3 => ?_) (fun c3 => ?_)
      · replace hf := it_f c3 hf
        refine v_aload_n (pc := 64) 1 dX11_isSaid_64 rfl ?_
        refine gf_RX11_33 (pc := 65) 0 rfl hk0 dX11_isSaid_65 ?_
        refine v_iload (pc := 68) 0 dX11_isSaid_68 rfl ?_
        replace hf := gd_some hf; obtain ⟨g4, hf⟩ := hf
        refine al_X11_6 (pc := 70) _ 0 rfl hk0 rfl g4 dX11_isSaid_70 ?_
        refine v_bipush (pc := 71) (21 : Int32) dX11_isSaid_71 cb_21 ?_
        refine v_icmp_eq (pc := 73) 88 dX11_isSaid_73 (by decide) (fun c5 => ?_) (fun c5 => ?_)
        · replace hf := it_t c5 hf
          exact V_sub [1, 2, 3, 4, 0] rfl (wX11_isSaid_j88 hk0 hrec hx hf)
        · replace hf := it_f c5 hf
          refine v_aload_n (pc := 76) 1 dX11_isSaid_76 rfl ?_
          refine gf_RX11_33 (pc := 77) 0 rfl hk0 dX11_isSaid_77 ?_
          refine v_iload (pc := 80) 0 dX11_isSaid_80 rfl ?_
          replace hf := gd_some hf; obtain ⟨g20, hf⟩ := hf
          refine al_X11_6 (pc := 82) _ 0 rfl hk0 rfl g20 dX11_isSaid_82 ?_
          refine v_bipush (pc := 83) (22 : Int32) dX11_isSaid_83 cb_22 ?_
          refine v_icmp_ne (pc := 85) 167 dX11_isSaid_85 (by decide) (fun c21 => ?_) (fun c21 => ?_)
          · replace hf := it_f c21 hf
            refine v_aload_n (pc := 167) 1 dX11_isSaid_167 rfl ?_
            refine gf_RX11_75 (pc := 168) 0 rfl hk0 dX11_isSaid_168 ?_
            refine v_iload_n (pc := 171) 3 dX11_isSaid_171 rfl ?_
            refine v_aload_n (pc := 172) 1 dX11_isSaid_172 rfl ?_
            refine v_iload_n (pc := 173) 2 dX11_isSaid_173 rfl ?_
            refine v_aload_n (pc := 174) 1 dX11_isSaid_174 rfl ?_
            refine gf_RX11_33 (pc := 175) 0 rfl hk0 dX11_isSaid_175 ?_
            refine v_iload (pc := 178) 0 dX11_isSaid_178 rfl ?_
            replace hf := gd_some hf; obtain ⟨g22, hf⟩ := hf
            refine al_X11_6 (pc := 180) _ 0 rfl hk0 rfl g22 dX11_isSaid_180 ?_
            refine v_aload_n (pc := 181) 1 dX11_isSaid_181 rfl ?_
            refine gf_RX11_33 (pc := 182) 0 rfl hk0 dX11_isSaid_182 ?_
            refine v_iload (pc := 185) 0 dX11_isSaid_185 rfl ?_
            refine v_iconst (pc := 187) (1 : Int32) dX11_isSaid_187 ci_1 ?_
            refine v_iadd (pc := 188) dX11_isSaid_188 ?_
            replace hf := gd_some hf; obtain ⟨g23, hf⟩ := hf
            refine al_X11_6 (pc := 189) _ 0 rfl hk0 rfl g23 dX11_isSaid_189 ?_
            refine v_aload_n (pc := 190) 1 dX11_isSaid_190 rfl ?_
            refine gf_RX11_33 (pc := 191) 0 rfl hk0 dX11_isSaid_191 ?_
            refine v_iload (pc := 194) 0 dX11_isSaid_194 rfl ?_
            refine v_iconst (pc := 196) (2 : Int32) dX11_isSaid_196 ci_2 ?_
            refine v_iadd (pc := 197) dX11_isSaid_197 ?_
            replace hf := gd_some hf; obtain ⟨g24, hf⟩ := hf
            refine al_X11_6 (pc := 198) _ 0 rfl hk0 rfl g24 dX11_isSaid_198 ?_
            replace hf := bd_some hf; obtain ⟨r25, h26, hf⟩ := hf
            refine V_call (pc := 199) (us1 := [_]) [0] 0 (kX11_isLeaf (o := o) hk0 h26) rfl rfl rfl rfl rfl hk0 (Nat.le_of_ble_eq_true rfl) rfl rfl rfl wm_RX11_453 md_X11_isLeaf (Nat.le_of_ble_eq_true rfl) (Nat.le_of_ble_eq_true rfl) rfl rfl (Nat.le_of_ble_eq_true rfl) dX11_isSaid_199 ?_
            replace hf := gd_some hf; obtain ⟨g27, hf⟩ := hf
            replace hf := gd_some hf; obtain ⟨g28, hf⟩ := hf
            refine as_X11_45 (pc := 202) [_] _ 0 rfl hk0 rfl g28 g27 rfl dX11_isSaid_202 ?_
            refine v_iinc (pc := 203) 3 (l2 + (1 : Int32)) [(2, _), (4, _), (0, _), (1, _), (3, _)] dX11_isSaid_203 rfl (congrArg (fun z => _ + z) ci_1) (Nat.le_of_ble_eq_true rfl) rfl ?_
            refine v_iinc (pc := 206) 4 (l3 + (1 : Int32)) [(3, _), (2, _), (4, _), (0, _), (1, _)] dX11_isSaid_206 rfl (congrArg (fun z => _ + z) ci_1) (Nat.le_of_ble_eq_true rfl) rfl ?_
            refine v_goto (pc := 209) 4 dX11_isSaid_209 (by decide) ?_
            exact V_sub [3, 4, 1, 0] rfl (hrec hf)
          · replace hf := it_t c21 hf
            exact V_sub [1, 2, 3, 4, 0] rfl (wX11_isSaid_j88 hk0 hrec hx hf)
      · replace hf := it_t c3 hf
        refine v_aload_n (pc := 37) 1 dX11_isSaid_37 rfl ?_
        refine gf_RX11_75 (pc := 38) 0 rfl hk0 dX11_isSaid_38 ?_
        refine v_iload_n (pc := 41) 3 dX11_isSaid_41 rfl ?_
        refine v_iconst (pc := 42) (1 : Int32) dX11_isSaid_42 ci_1 ?_
        refine v_isub (pc := 43) dX11_isSaid_43 ?_
        refine v_aload_n (pc := 44) 1 dX11_isSaid_44 rfl ?_
        refine gf_RX11_75 (pc := 45) 0 rfl hk0 dX11_isSaid_45 ?_
        refine v_iload_n (pc := 48) 3 dX11_isSaid_48 rfl ?_
        refine v_iconst (pc := 49) (1 : Int32) dX11_isSaid_49 ci_1 ?_
        refine v_isub (pc := 50) dX11_isSaid_50 ?_
        replace hf := gd_some hf; obtain ⟨g29, hf⟩ := hf
        refine al_X11_45 (pc := 51) _ 0 rfl hk0 rfl g29 dX11_isSaid_51 ?_
        refine v_if_ne (pc := 52) 59 dX11_isSaid_52 (by decide) (fun c30 => ?_) (fun c30 => ?_)
        · replace hf := it_f c30 hf
          refine v_iconst (pc := 59) (0 : Int32) dX11_isSaid_59 ci_0 ?_
          replace hf := gd_some hf; obtain ⟨g31, hf⟩ := hf
          refine as_X11_45 (pc := 60) [_] _ 0 rfl hk0 rfl g31 rfl rfl dX11_isSaid_60 ?_
          refine v_goto (pc := 61) 206 dX11_isSaid_61 (by decide) ?_
          refine v_iinc (pc := 206) 4 (l3 + (1 : Int32)) [(3, _), (4, _), (0, _), (1, _), (2, _)] dX11_isSaid_206 rfl (congrArg (fun z => _ + z) ci_1) (Nat.le_of_ble_eq_true rfl) rfl ?_
          refine v_goto (pc := 209) 4 dX11_isSaid_209 (by decide) ?_
          exact V_sub [2, 3, 4, 0] rfl (hrec hf)
        · replace hf := it_t c30 hf
          refine v_iconst (pc := 55) (1 : Int32) dX11_isSaid_55 ci_1 ?_
          refine v_goto (pc := 56) 60 dX11_isSaid_56 (by decide) ?_
          replace hf := gd_some hf; obtain ⟨g32, hf⟩ := hf
          refine as_X11_45 (pc := 60) [_] _ 0 rfl hk0 rfl g32 rfl rfl dX11_isSaid_60 ?_
          refine v_goto (pc := 61) 206 dX11_isSaid_61 (by decide) ?_
          refine v_iinc (pc := 206) 4 (l3 + (1 : Int32)) [(3, _), (4, _), (0, _), (1, _), (2, _)] dX11_isSaid_206 rfl (congrArg (fun z => _ + z) ci_1) (Nat.le_of_ble_eq_true rfl) rfl ?_
          refine v_goto (pc := 209) 4 dX11_isSaid_209 (by decide) ?_
          exact V_sub [2, 3, 4, 0] rfl (hrec hf)
set_option maxRecDepth 20000 in
theorem kX11_isSaid {G : Wc} {o : Nat} {S : Ob} {a : Int32} {r : Int32 × Ob} (hk0 : kd o = 10) (hf : pX11_isSaid S  a = some r) : Cn yX11_isSaid cX11_isSaid 5 (some .boolean) 5 153 G [.ref (wA G o 0), .int a] [(o, S)] [(o, r.2)] (some (.int r.1)) := by
  refine V_method [(0, .ref (wA G o 0)), (1, .int a)] (by decide) rfl (Nat.le_of_ble_eq_true rfl) rfl (fun Γ hF => ?_)
  unfold pX11_isSaid at hf
  refine v_iconst (pc := 0) (0 : Int32) dX11_isSaid_0 ci_0 ?_
  refine v_istore_n (pc := 1) [(2, _), (0, _), (1, _)] dX11_isSaid_1 (Nat.le_of_ble_eq_true rfl) rfl ?_
  refine v_iconst (pc := 2) (0 : Int32) dX11_isSaid_2 ci_0 ?_
  refine v_istore_n (pc := 3) [(3, _), (2, _), (0, _), (1, _)] dX11_isSaid_3 (Nat.le_of_ble_eq_true rfl) rfl ?_
  replace hf := bd_some hf; obtain ⟨r33, h34, hf⟩ := hf
  refine V_sub [2, 3, 1, 0] rfl (wX11_isSaid_l4 hk0 fu h34 ?_)
  refine v_aload_n (pc := 212) 0 dX11_isSaid_212 rfl ?_
  refine gf_RX11_75 (pc := 213) 0 rfl hk0 dX11_isSaid_213 ?_
  refine v_iconst (pc := 216) (0 : Int32) dX11_isSaid_216 ci_0 ?_
  refine al_X11_45 (pc := 217) 0 0 rfl hk0 rfl ib_0_45 dX11_isSaid_217 ?_
  replace hf := gd_some hf; obtain ⟨g35, hf⟩ := hf
  have hf2 := Option.some.inj hf; subst hf2
  exact V_zret (pc := 218) hF g35 dX11_isSaid_218
set_option maxRecDepth 20000 in
theorem wX11_said_l27 {G : Wc} {Γ : Cx} {o : Nat} {l1 : Int32} {r : Int32 × Ob} (hk0 : kd o = 10) (hF : Fnl G Γ (some .int) (some (.int r.1)) (ov Γ.2.2.2 [(o, r.2)])) : ∀ (n : Nat) {l2 : Int32} {l3 : Int32} {S : Ob}, pX11_said_l27  l1 n l2 l3 S = some r → V cX11_said RX11 6 177 4 G Γ [(o, S)] 27 [(0, .ref (wA G o 0)), (1, .int l1), (2, .int l2), (3, .int l3)] [] := by
  intro n
  induction n with
  | zero => intro l2 l3 S hf; unfold pX11_said_l27 at hf; cases hf
  | succ n ih =>
    intro l2 l3 S hf
    have hrec : ∀ {l2 : Int32} {l3 : Int32} {S : Ob}, pX11_said_l27  l1 n l2 l3 S = some r → V cX11_said RX11 6 177 4 G Γ [(o, S)] 27 [(0, .ref (wA G o 0)), (1, .int l1), (2, .int l2), (3, .int l3)] [] := fun h => ih h
    clear ih
    unfold pX11_said_l27 at hf
    refine v_iload_n (pc := 27) 3 dX11_said_27 rfl ?_
    refine v_aload_n (pc := 28) 0 dX11_said_28 rfl ?_
    refine gf_RX11_33 (pc := 29) 0 rfl hk0 dX11_said_29 ?_
    refine v_iconst (pc := 32) (1 : Int32) dX11_said_32 ci_1 ?_
    refine al_X11_6 (pc := 33) 1 0 rfl hk0 rfl ib_1_390 dX11_said_33 ?_
    refine v_icmp_ge (pc := 34) 64 dX11_said_34 (by decide) (fun c3 => ?_) (fun c3 => ?_)
    · replace hf := it_t c3 hf
      refine v_iload_n (pc := 64) 1 dX11_said_64 rfl ?_
      refine v_iconst (pc := 65) (-1 : Int32) dX11_said_65 ci_m1 ?_
      refine v_icmp_ne (pc := 66) 73 dX11_said_66 (by decide) (fun c4 => ?_) (fun c4 => ?_)
      · replace hf := it_f c4 hf
        refine v_iconst (pc := 73) (-1 : Int32) dX11_said_73 ci_m1 ?_
        have hf2 := Option.some.inj hf; subst hf2
        exact V_iret (pc := 74) hF dX11_said_74
      · replace hf := it_t c4 hf
        refine v_iload_n (pc := 69) 2 dX11_said_69 rfl ?_
        refine v_goto (pc := 70) 74 dX11_said_70 (by decide) ?_
        have hf2 := Option.some.inj hf; subst hf2
        exact V_iret (pc := 74) hF dX11_said_74
    · replace hf := it_f c3 hf
      refine v_aload_n (pc := 37) 0 dX11_said_37 rfl ?_
      refine v_iload_n (pc := 38) 3 dX11_said_38 rfl ?_
      replace hf := bd_some hf; obtain ⟨r5, h6, hf⟩ := hf
      refine V_call (pc := 39) (us1 := [_]) [0] 0 (kX11_isSaid (o := o) hk0 h6) rfl rfl rfl rfl rfl hk0 (Nat.le_of_ble_eq_true rfl) rfl rfl rfl wm_RX11_457 md_X11_isSaid (Nat.le_of_ble_eq_true rfl) (Nat.le_of_ble_eq_true rfl) rfl rfl (Nat.le_of_ble_eq_true rfl) dX11_said_39 ?_
      refine v_if_ne (pc := 42) 48 dX11_said_42 (by decide) (fun c7 => ?_) (fun c7 => ?_)
      · replace hf := it_f c7 hf
        refine v_iload_n (pc := 48) 2 dX11_said_48 rfl ?_
        refine v_iload_n (pc := 49) 1 dX11_said_49 rfl ?_
        refine v_icmp_ne (pc := 50) 55 dX11_said_50 (by decide) (fun c8 => ?_) (fun c8 => ?_)
        · replace hf := it_f c8 hf
          refine v_iinc (pc := 55) 2 (l2 + (1 : Int32)) [(2, _), (0, _), (1, _), (3, _)] dX11_said_55 rfl (congrArg (fun z => _ + z) ci_1) (Nat.le_of_ble_eq_true rfl) rfl ?_
          refine v_iinc (pc := 58) 3 (l3 + (1 : Int32)) [(3, _), (2, _), (0, _), (1, _)] dX11_said_58 rfl (congrArg (fun z => _ + z) ci_1) (Nat.le_of_ble_eq_true rfl) rfl ?_
          refine v_goto (pc := 61) 27 dX11_said_61 (by decide) ?_
          exact V_sub [2, 3, 1, 0] rfl (hrec hf)
        · replace hf := it_t c8 hf
          refine v_iload_n (pc := 53) 3 dX11_said_53 rfl ?_
          have hf2 := Option.some.inj hf; subst hf2
          exact V_iret (pc := 54) hF dX11_said_54
      · replace hf := it_t c7 hf
        refine v_goto (pc := 45) 58 dX11_said_45 (by decide) ?_
        refine v_iinc (pc := 58) 3 (l3 + (1 : Int32)) [(3, _), (0, _), (1, _), (2, _)] dX11_said_58 rfl (congrArg (fun z => _ + z) ci_1) (Nat.le_of_ble_eq_true rfl) rfl ?_
        refine v_goto (pc := 61) 27 dX11_said_61 (by decide) ?_
        exact V_sub [1, 2, 3, 0] rfl (hrec hf)
set_option maxRecDepth 20000 in
theorem kX11_said {G : Wc} {o : Nat} {S : Ob} {a : Int32} {r : Int32 × Ob} (hk0 : kd o = 10) (hf : pX11_said S  a = some r) : Cn yX11_said cX11_said 4 (some .int) 6 177 G [.ref (wA G o 0), .int a] [(o, S)] [(o, r.2)] (some (.int r.1)) := by
  refine V_method [(0, .ref (wA G o 0)), (1, .int a)] (by decide) rfl (Nat.le_of_ble_eq_true rfl) rfl (fun Γ hF => ?_)
  unfold pX11_said at hf
  refine v_aload_n (pc := 0) 0 dX11_said_0 rfl ?_
  refine v_iconst (pc := 1) (0 : Int32) dX11_said_1 ci_0 ?_
  refine pf_RX11_1 (pc := 2) [_] 0 rfl hk0 rfl dX11_said_2 ?_
  refine v_aload_n (pc := 5) 0 dX11_said_5 rfl ?_
  refine gf_RX11_33 (pc := 6) 0 rfl hk0 dX11_said_6 ?_
  refine v_sipush (pc := 9) (209 : Int32) dX11_said_9 cs_209 ?_
  refine al_X11_6 (pc := 12) 209 0 rfl hk0 rfl ib_209_390 dX11_said_12 ?_
  refine v_if_eq (pc := 13) 21 dX11_said_13 (by decide) (fun c1 => ?_) (fun c1 => ?_)
  · replace hf := it_t c1 hf
    refine v_iconst (pc := 21) (-1 : Int32) dX11_said_21 ci_m1 ?_
    have hf2 := Option.some.inj hf; subst hf2
    exact V_iret (pc := 22) hF dX11_said_22
  · replace hf := it_f c1 hf
    refine v_iload_n (pc := 16) 1 dX11_said_16 rfl ?_
    refine v_iconst (pc := 17) (-1 : Int32) dX11_said_17 ci_m1 ?_
    refine v_icmp_ge (pc := 18) 23 dX11_said_18 (by decide) (fun c2 => ?_) (fun c2 => ?_)
    · replace hf := it_t c2 hf
      refine v_iconst (pc := 23) (0 : Int32) dX11_said_23 ci_0 ?_
      refine v_istore_n (pc := 24) [(2, _), (0, _), (1, _)] dX11_said_24 (Nat.le_of_ble_eq_true rfl) rfl ?_
      refine v_iconst (pc := 25) (0 : Int32) dX11_said_25 ci_0 ?_
      refine v_istore_n (pc := 26) [(3, _), (2, _), (0, _), (1, _)] dX11_said_26 (Nat.le_of_ble_eq_true rfl) rfl ?_
      exact V_sub [2, 3, 1, 0] rfl (wX11_said_l27 hk0 hF fu hf)
    · replace hf := it_f c2 hf
      refine v_iconst (pc := 21) (-1 : Int32) dX11_said_21 ci_m1 ?_
      have hf2 := Option.some.inj hf; subst hf2
      exact V_iret (pc := 22) hF dX11_said_22
set_option maxRecDepth 20000 in
theorem wX11_image_l18 {G : Wc} {Γ : Cx} {o : Nat} {l1 : Int32} (hk0 : kd o = 10) : ∀ (n : Nat) {l2 : Int32} {S : Ob} {r : Ob}, pX11_image_l18  l1 n l2 S = some r → V cX11_image RX11 2 82 3 G Γ [(o, r)] 49 [(0, .ref (wA G o 0)), (1, .int l1)] [] → V cX11_image RX11 2 82 3 G Γ [(o, S)] 18 [(0, .ref (wA G o 0)), (1, .int l1), (2, .int l2)] [] := by
  intro n
  induction n with
  | zero => intro l2 S r hf hx; unfold pX11_image_l18 at hf; cases hf
  | succ n ih =>
    intro l2 S r hf hx
    have hrec : ∀ {l2 : Int32} {S : Ob}, pX11_image_l18  l1 n l2 S = some r → V cX11_image RX11 2 82 3 G Γ [(o, S)] 18 [(0, .ref (wA G o 0)), (1, .int l1), (2, .int l2)] [] := fun h => ih h hx
    clear ih
    unfold pX11_image_l18 at hf
    refine v_iload_n (pc := 18) 2 dX11_image_18 rfl ?_
    refine v_sipush (pc := 19) (390 : Int32) dX11_image_19 cs_390 ?_
    refine v_icmp_ge (pc := 22) 49 dX11_image_22 (by decide) (fun c4 => ?_) (fun c4 => ?_)
    · replace hf := it_t c4 hf
      have hf2 := Option.some.inj hf; subst hf2
      exact V_sub [0, 1] rfl hx
    · replace hf := it_f c4 hf
      refine v_aload_n (pc := 25) 0 dX11_image_25 rfl ?_
      refine gf_RX11_78 (pc := 26) 0 rfl hk0 dX11_image_26 ?_
      refine v_sipush (pc := 29) (390 : Int32) dX11_image_29 cs_390 ?_
      refine v_iload_n (pc := 32) 1 dX11_image_32 rfl ?_
      refine v_imul (pc := 33) dX11_image_33 ?_
      refine v_iload_n (pc := 34) 2 dX11_image_34 rfl ?_
      refine v_iadd (pc := 35) dX11_image_35 ?_
      refine v_aload_n (pc := 36) 0 dX11_image_36 rfl ?_
      refine gf_RX11_33 (pc := 37) 0 rfl hk0 dX11_image_37 ?_
      refine v_iload_n (pc := 40) 2 dX11_image_40 rfl ?_
      replace hf := gd_some hf; obtain ⟨g5, hf⟩ := hf
      refine al_X11_6 (pc := 41) _ 0 rfl hk0 rfl g5 dX11_image_41 ?_
      replace hf := gd_some hf; obtain ⟨g6, hf⟩ := hf
      refine as_X11_46 (pc := 42) [_] _ 0 rfl hk0 rfl g6 rfl dX11_image_42 ?_
      refine v_iinc (pc := 43) 2 (l2 + (1 : Int32)) [(2, _), (0, _), (1, _)] dX11_image_43 rfl (congrArg (fun z => _ + z) ci_1) (Nat.le_of_ble_eq_true rfl) rfl ?_
      refine v_goto (pc := 46) 18 dX11_image_46 (by decide) ?_
      exact V_sub [1, 2, 0] rfl (hrec hf)
set_option maxRecDepth 20000 in
theorem wX11_image_l51 {G : Wc} {Γ : Cx} {o : Nat} {l1 : Int32} (hk0 : kd o = 10) : ∀ (n : Nat) {l2 : Int32} {S : Ob} {r : Ob}, pX11_image_l51  l1 n l2 S = some r → V cX11_image RX11 2 82 3 G Γ [(o, r)] 80 [(0, .ref (wA G o 0)), (1, .int l1)] [] → V cX11_image RX11 2 82 3 G Γ [(o, S)] 51 [(0, .ref (wA G o 0)), (1, .int l1), (2, .int l2)] [] := by
  intro n
  induction n with
  | zero => intro l2 S r hf hx; unfold pX11_image_l51 at hf; cases hf
  | succ n ih =>
    intro l2 S r hf hx
    have hrec : ∀ {l2 : Int32} {S : Ob}, pX11_image_l51  l1 n l2 S = some r → V cX11_image RX11 2 82 3 G Γ [(o, S)] 51 [(0, .ref (wA G o 0)), (1, .int l1), (2, .int l2)] [] := fun h => ih h hx
    clear ih
    unfold pX11_image_l51 at hf
    refine v_iload_n (pc := 51) 2 dX11_image_51 rfl ?_
    refine v_bipush (pc := 52) (18 : Int32) dX11_image_52 cb_18 ?_
    refine v_icmp_ge (pc := 54) 80 dX11_image_54 (by decide) (fun c9 => ?_) (fun c9 => ?_)
    · replace hf := it_t c9 hf
      have hf2 := Option.some.inj hf; subst hf2
      exact V_sub [0, 1] rfl hx
    · replace hf := it_f c9 hf
      refine v_aload_n (pc := 57) 0 dX11_image_57 rfl ?_
      refine gf_RX11_81 (pc := 58) 0 rfl hk0 dX11_image_58 ?_
      refine v_bipush (pc := 61) (18 : Int32) dX11_image_61 cb_18 ?_
      refine v_iload_n (pc := 63) 1 dX11_image_63 rfl ?_
      refine v_imul (pc := 64) dX11_image_64 ?_
      refine v_iload_n (pc := 65) 2 dX11_image_65 rfl ?_
      refine v_iadd (pc := 66) dX11_image_66 ?_
      refine v_aload_n (pc := 67) 0 dX11_image_67 rfl ?_
      refine gf_RX11_43 (pc := 68) 0 rfl hk0 dX11_image_68 ?_
      refine v_iload_n (pc := 71) 2 dX11_image_71 rfl ?_
      replace hf := gd_some hf; obtain ⟨g10, hf⟩ := hf
      refine al_X11_9 (pc := 72) _ 0 rfl hk0 rfl g10 dX11_image_72 ?_
      replace hf := gd_some hf; obtain ⟨g11, hf⟩ := hf
      refine as_X11_47 (pc := 73) [_] _ 0 rfl hk0 rfl g11 rfl dX11_image_73 ?_
      refine v_iinc (pc := 74) 2 (l2 + (1 : Int32)) [(2, _), (0, _), (1, _)] dX11_image_74 rfl (congrArg (fun z => _ + z) ci_1) (Nat.le_of_ble_eq_true rfl) rfl ?_
      refine v_goto (pc := 77) 51 dX11_image_77 (by decide) ?_
      exact V_sub [1, 2, 0] rfl (hrec hf)
set_option maxRecDepth 20000 in
theorem kX11_image {G : Wc} {o : Nat} {S : Ob} {a : Int32} {r : Int32 × Ob} (hk0 : kd o = 10) (hf : pX11_image S  a = some r) : Cn yX11_image cX11_image 3 (some .boolean) 2 82 G [.ref (wA G o 0), .int a] [(o, S)] [(o, r.2)] (some (.int r.1)) := by
  refine V_method [(0, .ref (wA G o 0)), (1, .int a)] (by decide) rfl (Nat.le_of_ble_eq_true rfl) rfl (fun Γ hF => ?_)
  unfold pX11_image at hf
  refine v_aload_n (pc := 0) 0 dX11_image_0 rfl ?_
  refine v_iconst (pc := 1) (0 : Int32) dX11_image_1 ci_0 ?_
  refine pf_RX11_1 (pc := 2) [_] 0 rfl hk0 rfl dX11_image_2 ?_
  refine v_iload_n (pc := 5) 1 dX11_image_5 rfl ?_
  refine v_iconst (pc := 6) (0 : Int32) dX11_image_6 ci_0 ?_
  refine v_iconst (pc := 7) (1 : Int32) dX11_image_7 ci_1 ?_
  replace hf := bd_some hf; obtain ⟨r1, h2, hf⟩ := hf
  refine V_callS (pc := 8) (us1 := [_]) [] (kX11_isIn  h2) rfl rfl rfl rfl wm_RX11_176 md_X11_isIn (Nat.le_of_ble_eq_true rfl) (Nat.le_of_ble_eq_true rfl) rfl rfl (Nat.le_of_ble_eq_true rfl) dX11_image_8 ?_
  refine v_if_ne (pc := 11) 16 dX11_image_11 (by decide) (fun c3 => ?_) (fun c3 => ?_)
  · replace hf := it_f c3 hf
    refine v_iconst (pc := 16) (0 : Int32) dX11_image_16 ci_0 ?_
    refine v_istore_n (pc := 17) [(2, _), (0, _), (1, _)] dX11_image_17 (Nat.le_of_ble_eq_true rfl) rfl ?_
    replace hf := bd_some hf; obtain ⟨r7, h8, hf⟩ := hf
    refine V_sub [1, 2, 0] rfl (wX11_image_l18 hk0 fu h8 ?_)
    refine v_iconst (pc := 49) (0 : Int32) dX11_image_49 ci_0 ?_
    refine v_istore_n (pc := 50) [(2, _), (0, _), (1, _)] dX11_image_50 (Nat.le_of_ble_eq_true rfl) rfl ?_
    replace hf := bd_some hf; obtain ⟨r12, h13, hf⟩ := hf
    refine V_sub [1, 2, 0] rfl (wX11_image_l51 hk0 fu h13 ?_)
    refine v_aload_n (pc := 80) 0 dX11_image_80 rfl ?_
    refine gf_RX11_84 (pc := 81) 0 rfl hk0 dX11_image_81 ?_
    refine v_iload_n (pc := 84) 1 dX11_image_84 rfl ?_
    refine v_iconst (pc := 85) (1 : Int32) dX11_image_85 ci_1 ?_
    replace hf := gd_some hf; obtain ⟨g14, hf⟩ := hf
    refine as_X11_48 (pc := 86) [_] _ 0 rfl hk0 rfl g14 rfl rfl dX11_image_86 ?_
    refine v_iconst (pc := 87) (1 : Int32) dX11_image_87 ci_1 ?_
    have hf2 := Option.some.inj hf; subst hf2
    exact V_zret (pc := 88) hF rfl dX11_image_88
  · replace hf := it_t c3 hf
    refine v_iconst (pc := 14) (0 : Int32) dX11_image_14 ci_0 ?_
    have hf2 := Option.some.inj hf; subst hf2
    exact V_zret (pc := 15) hF rfl dX11_image_15
set_option maxRecDepth 20000 in
theorem wX11_restore_l27 {G : Wc} {Γ : Cx} {o : Nat} {l1 : Int32} (hk0 : kd o = 10) : ∀ (n : Nat) {l2 : Int32} {S : Ob} {r : Ob}, pX11_restore_l27  l1 n l2 S = some r → V cX11_restore RX11 2 82 3 G Γ [(o, r)] 58 [(0, .ref (wA G o 0)), (1, .int l1)] [] → V cX11_restore RX11 2 82 3 G Γ [(o, S)] 27 [(0, .ref (wA G o 0)), (1, .int l1), (2, .int l2)] [] := by
  intro n
  induction n with
  | zero => intro l2 S r hf hx; unfold pX11_restore_l27 at hf; cases hf
  | succ n ih =>
    intro l2 S r hf hx
    have hrec : ∀ {l2 : Int32} {S : Ob}, pX11_restore_l27  l1 n l2 S = some r → V cX11_restore RX11 2 82 3 G Γ [(o, S)] 27 [(0, .ref (wA G o 0)), (1, .int l1), (2, .int l2)] [] := fun h => ih h hx
    clear ih
    unfold pX11_restore_l27 at hf
    refine v_iload_n (pc := 27) 2 dX11_restore_27 rfl ?_
    refine v_sipush (pc := 28) (390 : Int32) dX11_restore_28 cs_390 ?_
    refine v_icmp_ge (pc := 31) 58 dX11_restore_31 (by decide) (fun c6 => ?_) (fun c6 => ?_)
    · replace hf := it_t c6 hf
      have hf2 := Option.some.inj hf; subst hf2
      exact V_sub [0, 1] rfl hx
    · replace hf := it_f c6 hf
      refine v_aload_n (pc := 34) 0 dX11_restore_34 rfl ?_
      refine gf_RX11_33 (pc := 35) 0 rfl hk0 dX11_restore_35 ?_
      refine v_iload_n (pc := 38) 2 dX11_restore_38 rfl ?_
      refine v_aload_n (pc := 39) 0 dX11_restore_39 rfl ?_
      refine gf_RX11_78 (pc := 40) 0 rfl hk0 dX11_restore_40 ?_
      refine v_sipush (pc := 43) (390 : Int32) dX11_restore_43 cs_390 ?_
      refine v_iload_n (pc := 46) 1 dX11_restore_46 rfl ?_
      refine v_imul (pc := 47) dX11_restore_47 ?_
      refine v_iload_n (pc := 48) 2 dX11_restore_48 rfl ?_
      refine v_iadd (pc := 49) dX11_restore_49 ?_
      replace hf := gd_some hf; obtain ⟨g7, hf⟩ := hf
      refine al_X11_46 (pc := 50) _ 0 rfl hk0 rfl g7 dX11_restore_50 ?_
      replace hf := gd_some hf; obtain ⟨g8, hf⟩ := hf
      refine as_X11_6 (pc := 51) [_] _ 0 rfl hk0 rfl g8 rfl dX11_restore_51 ?_
      refine v_iinc (pc := 52) 2 (l2 + (1 : Int32)) [(2, _), (0, _), (1, _)] dX11_restore_52 rfl (congrArg (fun z => _ + z) ci_1) (Nat.le_of_ble_eq_true rfl) rfl ?_
      refine v_goto (pc := 55) 27 dX11_restore_55 (by decide) ?_
      exact V_sub [1, 2, 0] rfl (hrec hf)
set_option maxRecDepth 20000 in
theorem wX11_restore_l60 {G : Wc} {Γ : Cx} {o : Nat} {l1 : Int32} (hk0 : kd o = 10) : ∀ (n : Nat) {l2 : Int32} {S : Ob} {r : Ob}, pX11_restore_l60  l1 n l2 S = some r → V cX11_restore RX11 2 82 3 G Γ [(o, r)] 89 [(0, .ref (wA G o 0))] [] → V cX11_restore RX11 2 82 3 G Γ [(o, S)] 60 [(0, .ref (wA G o 0)), (1, .int l1), (2, .int l2)] [] := by
  intro n
  induction n with
  | zero => intro l2 S r hf hx; unfold pX11_restore_l60 at hf; cases hf
  | succ n ih =>
    intro l2 S r hf hx
    have hrec : ∀ {l2 : Int32} {S : Ob}, pX11_restore_l60  l1 n l2 S = some r → V cX11_restore RX11 2 82 3 G Γ [(o, S)] 60 [(0, .ref (wA G o 0)), (1, .int l1), (2, .int l2)] [] := fun h => ih h hx
    clear ih
    unfold pX11_restore_l60 at hf
    refine v_iload_n (pc := 60) 2 dX11_restore_60 rfl ?_
    refine v_bipush (pc := 61) (18 : Int32) dX11_restore_61 cb_18 ?_
    refine v_icmp_ge (pc := 63) 89 dX11_restore_63 (by decide) (fun c11 => ?_) (fun c11 => ?_)
    · replace hf := it_t c11 hf
      have hf2 := Option.some.inj hf; subst hf2
      exact V_sub [0] rfl hx
    · replace hf := it_f c11 hf
      refine v_aload_n (pc := 66) 0 dX11_restore_66 rfl ?_
      refine gf_RX11_43 (pc := 67) 0 rfl hk0 dX11_restore_67 ?_
      refine v_iload_n (pc := 70) 2 dX11_restore_70 rfl ?_
      refine v_aload_n (pc := 71) 0 dX11_restore_71 rfl ?_
      refine gf_RX11_81 (pc := 72) 0 rfl hk0 dX11_restore_72 ?_
      refine v_bipush (pc := 75) (18 : Int32) dX11_restore_75 cb_18 ?_
      refine v_iload_n (pc := 77) 1 dX11_restore_77 rfl ?_
      refine v_imul (pc := 78) dX11_restore_78 ?_
      refine v_iload_n (pc := 79) 2 dX11_restore_79 rfl ?_
      refine v_iadd (pc := 80) dX11_restore_80 ?_
      replace hf := gd_some hf; obtain ⟨g12, hf⟩ := hf
      refine al_X11_47 (pc := 81) _ 0 rfl hk0 rfl g12 dX11_restore_81 ?_
      replace hf := gd_some hf; obtain ⟨g13, hf⟩ := hf
      refine as_X11_9 (pc := 82) [_] _ 0 rfl hk0 rfl g13 rfl dX11_restore_82 ?_
      refine v_iinc (pc := 83) 2 (l2 + (1 : Int32)) [(2, _), (0, _), (1, _)] dX11_restore_83 rfl (congrArg (fun z => _ + z) ci_1) (Nat.le_of_ble_eq_true rfl) rfl ?_
      refine v_goto (pc := 86) 60 dX11_restore_86 (by decide) ?_
      exact V_sub [1, 2, 0] rfl (hrec hf)
set_option maxRecDepth 20000 in
theorem kX11_restore {G : Wc} {o : Nat} {S : Ob} {a : Int32} {r : Int32 × Ob} (hk0 : kd o = 10) (hf : pX11_restore S  a = some r) : Cn yX11_restore cX11_restore 3 (some .boolean) 2 82 G [.ref (wA G o 0), .int a] [(o, S)] [(o, r.2)] (some (.int r.1)) := by
  refine V_method [(0, .ref (wA G o 0)), (1, .int a)] (by decide) rfl (Nat.le_of_ble_eq_true rfl) rfl (fun Γ hF => ?_)
  unfold pX11_restore at hf
  refine v_aload_n (pc := 0) 0 dX11_restore_0 rfl ?_
  refine v_iconst (pc := 1) (0 : Int32) dX11_restore_1 ci_0 ?_
  refine pf_RX11_1 (pc := 2) [_] 0 rfl hk0 rfl dX11_restore_2 ?_
  refine v_iload_n (pc := 5) 1 dX11_restore_5 rfl ?_
  refine v_iconst (pc := 6) (0 : Int32) dX11_restore_6 ci_0 ?_
  refine v_iconst (pc := 7) (1 : Int32) dX11_restore_7 ci_1 ?_
  replace hf := bd_some hf; obtain ⟨r1, h2, hf⟩ := hf
  refine V_callS (pc := 8) (us1 := [_]) [] (kX11_isIn  h2) rfl rfl rfl rfl wm_RX11_176 md_X11_isIn (Nat.le_of_ble_eq_true rfl) (Nat.le_of_ble_eq_true rfl) rfl rfl (Nat.le_of_ble_eq_true rfl) dX11_restore_8 ?_
  refine v_if_eq (pc := 11) 23 dX11_restore_11 (by decide) (fun c3 => ?_) (fun c3 => ?_)
  · replace hf := it_t c3 hf
    refine v_iconst (pc := 23) (0 : Int32) dX11_restore_23 ci_0 ?_
    have hf2 := Option.some.inj hf; subst hf2
    exact V_zret (pc := 24) hF rfl dX11_restore_24
  · replace hf := it_f c3 hf
    refine v_aload_n (pc := 14) 0 dX11_restore_14 rfl ?_
    refine gf_RX11_84 (pc := 15) 0 rfl hk0 dX11_restore_15 ?_
    refine v_iload_n (pc := 18) 1 dX11_restore_18 rfl ?_
    replace hf := gd_some hf; obtain ⟨g4, hf⟩ := hf
    refine al_X11_48 (pc := 19) _ 0 rfl hk0 rfl g4 dX11_restore_19 ?_
    refine v_if_ne (pc := 20) 25 dX11_restore_20 (by decide) (fun c5 => ?_) (fun c5 => ?_)
    · replace hf := it_f c5 hf
      refine v_iconst (pc := 25) (0 : Int32) dX11_restore_25 ci_0 ?_
      refine v_istore_n (pc := 26) [(2, _), (0, _), (1, _)] dX11_restore_26 (Nat.le_of_ble_eq_true rfl) rfl ?_
      replace hf := bd_some hf; obtain ⟨r9, h10, hf⟩ := hf
      refine V_sub [1, 2, 0] rfl (wX11_restore_l27 hk0 fu h10 ?_)
      refine v_iconst (pc := 58) (0 : Int32) dX11_restore_58 ci_0 ?_
      refine v_istore_n (pc := 59) [(2, _), (0, _), (1, _)] dX11_restore_59 (Nat.le_of_ble_eq_true rfl) rfl ?_
      replace hf := bd_some hf; obtain ⟨r14, h15, hf⟩ := hf
      refine V_sub [1, 2, 0] rfl (wX11_restore_l60 hk0 fu h15 ?_)
      refine v_aload_n (pc := 89) 0 dX11_restore_89 rfl ?_
      refine v_iconst (pc := 90) (0 : Int32) dX11_restore_90 ci_0 ?_
      refine pf_RX11_242 (pc := 91) [_] 0 rfl hk0 rfl dX11_restore_91 ?_
      refine v_iconst (pc := 94) (1 : Int32) dX11_restore_94 ci_1 ?_
      have hf2 := Option.some.inj hf; subst hf2
      exact V_zret (pc := 95) hF rfl dX11_restore_95
    · replace hf := it_t c5 hf
      refine v_iconst (pc := 23) (0 : Int32) dX11_restore_23 ci_0 ?_
      have hf2 := Option.some.inj hf; subst hf2
      exact V_zret (pc := 24) hF rfl dX11_restore_24
set_option maxRecDepth 20000 in
theorem kX11_count {G : Wc} {o : Nat} {S : Ob} {a : Int32} {r : Int32 × Ob} (hk0 : kd o = 10) (hf : pX11_count S  a = some r) : Cn yX11_count cX11_count 2 (some .int) 2 82 G [.ref (wA G o 0), .int a] [(o, S)] [(o, r.2)] (some (.int r.1)) := by
  refine V_method [(0, .ref (wA G o 0)), (1, .int a)] (by decide) rfl (Nat.le_of_ble_eq_true rfl) rfl (fun Γ hF => ?_)
  unfold pX11_count at hf
  refine v_aload_n (pc := 0) 0 dX11_count_0 rfl ?_
  refine v_iconst (pc := 1) (0 : Int32) dX11_count_1 ci_0 ?_
  refine pf_RX11_1 (pc := 2) [_] 0 rfl hk0 rfl dX11_count_2 ?_
  refine v_iload_n (pc := 5) 1 dX11_count_5 rfl ?_
  refine v_iconst (pc := 6) (5 : Int32) dX11_count_6 ci_5 ?_
  refine v_icmp_ne (pc := 7) 17 dX11_count_7 (by decide) (fun c1 => ?_) (fun c1 => ?_)
  · replace hf := it_f c1 hf
    refine v_iload_n (pc := 17) 1 dX11_count_17 rfl ?_
    refine v_iconst (pc := 18) (0 : Int32) dX11_count_18 ci_0 ?_
    refine v_iconst (pc := 19) (4 : Int32) dX11_count_19 ci_4 ?_
    replace hf := bd_some hf; obtain ⟨r2, h3, hf⟩ := hf
    refine V_callS (pc := 20) (us1 := [_]) [] (kX11_isIn  h3) rfl rfl rfl rfl wm_RX11_176 md_X11_isIn (Nat.le_of_ble_eq_true rfl) (Nat.le_of_ble_eq_true rfl) rfl rfl (Nat.le_of_ble_eq_true rfl) dX11_count_20 ?_
    refine v_if_eq (pc := 23) 35 dX11_count_23 (by decide) (fun c4 => ?_) (fun c4 => ?_)
    · replace hf := it_t c4 hf
      refine v_iconst (pc := 35) (-1 : Int32) dX11_count_35 ci_m1 ?_
      have hf2 := Option.some.inj hf; subst hf2
      exact V_iret (pc := 36) hF dX11_count_36
    · replace hf := it_f c4 hf
      refine v_aload_n (pc := 26) 0 dX11_count_26 rfl ?_
      refine gf_RX11_33 (pc := 27) 0 rfl hk0 dX11_count_27 ?_
      refine v_iload_n (pc := 30) 1 dX11_count_30 rfl ?_
      replace hf := gd_some hf; obtain ⟨g5, hf⟩ := hf
      refine al_X11_6 (pc := 31) _ 0 rfl hk0 rfl g5 dX11_count_31 ?_
      refine v_goto (pc := 32) 36 dX11_count_32 (by decide) ?_
      have hf2 := Option.some.inj hf; subst hf2
      exact V_iret (pc := 36) hF dX11_count_36
  · replace hf := it_t c1 hf
    refine v_aload_n (pc := 10) 0 dX11_count_10 rfl ?_
    refine gf_RX11_7 (pc := 11) 0 rfl hk0 dX11_count_11 ?_
    refine v_goto (pc := 14) 36 dX11_count_14 (by decide) ?_
    have hf2 := Option.some.inj hf; subst hf2
    exact V_iret (pc := 36) hF dX11_count_36
