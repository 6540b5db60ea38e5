set_option maxRecDepth 20000 in
theorem wX6_has_l2 {G : Wc} {Γ : Cx} {o : Nat} {S : Ob} {l1 : Int32} {l2 : Int32} {r : Int32} (hk0 : kd o = 6) (hF : Fnl G Γ (some .boolean) (some (.int r)) (ov Γ.2.2.2 [(o, S)])) : ∀ (n : Nat) {l3 : Int32}, pX6_has_l2 S l1 l2 n l3 = some r → V cX6_has RX6 2 82 4 G Γ [(o, S)] 2 [(0, .ref (wA G o 0)), (1, .int l1), (2, .int l2), (3, .int l3)] [] := by
  intro n
  induction n with
  | zero => intro l3 hf; unfold pX6_has_l2 at hf; cases hf
  | succ n ih =>
    intro l3 hf
    have hrec : ∀ {l3 : Int32}, pX6_has_l2 S l1 l2 n l3 = some r → V cX6_has RX6 2 82 4 G Γ [(o, S)] 2 [(0, .ref (wA G o 0)), (1, .int l1), (2, .int l2), (3, .int l3)] [] := fun h => ih h
    clear ih
    unfold pX6_has_l2 at hf
    refine v_iload_n (pc := 2) 3 dX6_has_2 rfl ?_
    refine v_aload_n (pc := 3) 0 dX6_has_3 rfl ?_
    refine gf_RX6_15 (pc := 4) 0 rfl hk0 dX6_has_4 ?_
    refine v_iload_n (pc := 7) 1 dX6_has_7 rfl ?_
    replace hf := gd_some hf; obtain ⟨g1, hf⟩ := hf
    refine al_X6_1 (pc := 8) _ 0 rfl hk0 rfl g1 dX6_has_8 ?_
    refine v_icmp_ge (pc := 9) 30 dX6_has_9 (by decide) (fun c2 => ?_) (fun c2 => ?_)
    · replace hf := it_t c2 hf
      refine v_iconst (pc := 30) (0 : Int32) dX6_has_30 ci_0 ?_
      have hf2 := Option.some.inj hf; subst hf2
      exact V_zret (pc := 31) hF rfl dX6_has_31
    · replace hf := it_f c2 hf
      refine v_aload_n (pc := 12) 0 dX6_has_12 rfl ?_
      refine v_iload_n (pc := 13) 1 dX6_has_13 rfl ?_
      refine v_iload_n (pc := 14) 3 dX6_has_14 rfl ?_
      replace hf := bd_some hf; obtain ⟨r3, h4, hf⟩ := hf
      refine V_call (pc := 15) (us1 := [_]) [0] 0 (kX6_layerAt (o := o) hk0 h4) rfl rfl rfl rfl rfl hk0 (Nat.le_of_ble_eq_true rfl) rfl rfl rfl wm_RX6_55 md_X6_layerAt (Nat.le_of_ble_eq_true rfl) (Nat.le_of_ble_eq_true rfl) rfl rfl (Nat.le_of_ble_eq_true rfl) dX6_has_15 ?_
      refine v_iload_n (pc := 18) 2 dX6_has_18 rfl ?_
      refine v_icmp_ne (pc := 19) 24 dX6_has_19 (by decide) (fun c5 => ?_) (fun c5 => ?_)
      · replace hf := it_f c5 hf
        refine v_iinc (pc := 24) 3 (l3 + (1 : Int32)) [(3, _), (0, _), (1, _), (2, _)] dX6_has_24 rfl (congrArg (fun z => _ + z) ci_1) (Nat.le_of_ble_eq_true rfl) rfl ?_
        refine v_goto (pc := 27) 2 dX6_has_27 (by decide) ?_
        exact V_sub [1, 2, 3, 0] rfl (hrec hf)
      · replace hf := it_t c5 hf
        refine v_iconst (pc := 22) (1 : Int32) dX6_has_22 ci_1 ?_
        have hf2 := Option.some.inj hf; subst hf2
        exact V_zret (pc := 23) hF rfl dX6_has_23
set_option maxRecDepth 20000 in
theorem kX6_has {G : Wc} {o : Nat} {S : Ob} {a : Int32} {b : Int32} {r : Int32} (hk0 : kd o = 6) (hf : pX6_has S  a b = some r) : Cn yX6_has cX6_has 4 (some .boolean) 2 82 G [.ref (wA G o 0), .int a, .int b] [(o, S)] [(o, S)] (some (.int r)) := by
  refine V_method [(0, .ref (wA G o 0)), (1, .int a), (2, .int b)] (by decide) rfl (Nat.le_of_ble_eq_true rfl) rfl (fun Γ hF => ?_)
  unfold pX6_has at hf
  refine v_iconst (pc := 0) (0 : Int32) dX6_has_0 ci_0 ?_
  refine v_istore_n (pc := 1) [(3, _), (0, _), (1, _), (2, _)] dX6_has_1 (Nat.le_of_ble_eq_true rfl) rfl ?_
  exact V_sub [1, 2, 3, 0] rfl (wX6_has_l2 hk0 hF fu hf)
set_option maxRecDepth 20000 in
theorem kX5_isPlainTrue {G : Wc} {o oa ob : Nat} {S : Ob} {Sa : Ob} {Sb : Ob} {c : Int32} {d : Int32} {r : Int32} (hk0 : kd o = 5) (hk1 : kd oa = 4) (hk2 : kd ob = 6) (hf : pX5_isPlainTrue S Sa Sb  c d = some r) : Cn yX5_isPlainTrue cX5_isPlainTrue 7 (some .boolean) 4 127 G [.ref (wA G o 0), .ref (wA G oa 0), .ref (wA G ob 0), .int c, .int d] [(o, S), (oa, Sa), (ob, Sb)] [(o, S), (oa, Sa), (ob, Sb)] (some (.int r)) := by
  refine V_method [(0, .ref (wA G o 0)), (1, .ref (wA G oa 0)), (2, .ref (wA G ob 0)), (3, .int c), (4, .int d)] (by decide) rfl (Nat.le_of_ble_eq_true rfl) rfl (fun Γ hF => ?_)
  unfold pX5_isPlainTrue at hf
  refine v_aload_n (pc := 0) 0 dX5_isPlainTrue_0 rfl ?_
  refine gf_RX5_13 (pc := 1) 0 rfl hk0 dX5_isPlainTrue_1 ?_
  refine v_iload (pc := 4) 4 dX5_isPlainTrue_4 rfl ?_
  replace hf := gd_some hf; obtain ⟨g1, hf⟩ := hf
  refine al_X5_0 (pc := 6) _ 0 rfl hk0 rfl g1 dX5_isPlainTrue_6 ?_
  refine v_estore (pc := 7) [(5, _), (0, _), (1, _), (2, _), (3, _), (4, _)] dX5_isPlainTrue_7 (Nat.le_of_ble_eq_true rfl) rfl ?_
  refine v_eload (pc := 9) 0 dX5_isPlainTrue_9 rfl ?_
  refine V_gete (pc := 11) 14 "BARE" (by decide) rfl wf_RX5_91 dX5_isPlainTrue_11 ?_
  replace hf := gd_some hf; obtain ⟨g2, hf⟩ := hf
  refine v_acmp_ne (pc := 14) g2 rfl 32 dX5_isPlainTrue_14 (by decide) (fun c3 => ?_) (fun c3 => ?_)
  · replace hf := it_f c3 hf
    refine v_eload (pc := 32) 0 dX5_isPlainTrue_32 rfl ?_
    refine V_gete (pc := 34) 15 "NEST" (by decide) rfl wf_RX5_94 dX5_isPlainTrue_34 ?_
    replace hf := gd_some hf; obtain ⟨g4, hf⟩ := hf
    refine v_acmp_ne (pc := 37) g4 rfl 46 dX5_isPlainTrue_37 (by decide) (fun c5 => ?_) (fun c5 => ?_)
    · replace hf := it_f c5 hf
      refine v_eload (pc := 46) 0 dX5_isPlainTrue_46 rfl ?_
      refine V_gete (pc := 48) 16 "SORE" (by decide) rfl wf_RX5_97 dX5_isPlainTrue_48 ?_
      replace hf := gd_some hf; obtain ⟨g6, hf⟩ := hf
      refine v_acmp_ne (pc := 51) g6 rfl 75 dX5_isPlainTrue_51 (by decide) (fun c7 => ?_) (fun c7 => ?_)
      · replace hf := it_f c7 hf
        refine v_eload (pc := 75) 0 dX5_isPlainTrue_75 rfl ?_
        refine V_gete (pc := 77) 17 "HAS" (by decide) rfl wf_RX5_100 dX5_isPlainTrue_77 ?_
        replace hf := gd_some hf; obtain ⟨g8, hf⟩ := hf
        refine v_acmp_ne (pc := 80) g8 rfl 96 dX5_isPlainTrue_80 (by decide) (fun c9 => ?_) (fun c9 => ?_)
        · replace hf := it_f c9 hf
          refine v_eload (pc := 96) 0 dX5_isPlainTrue_96 rfl ?_
          refine V_gete (pc := 98) 18 "LIKE" (by decide) rfl wf_RX5_103 dX5_isPlainTrue_98 ?_
          replace hf := gd_some hf; obtain ⟨g10, hf⟩ := hf
          refine v_acmp_ne (pc := 101) g10 rfl 117 dX5_isPlainTrue_101 (by decide) (fun c11 => ?_) (fun c11 => ?_)
          · replace hf := it_f c11 hf
            refine v_eload (pc := 117) 0 dX5_isPlainTrue_117 rfl ?_
            refine v_aload_n (pc := 119) 3 dX5_isPlainTrue_119 rfl ?_
            refine v_iload_n (pc := 120) 4 dX5_isPlainTrue_120 rfl ?_
            replace hf := bd_some hf; obtain ⟨r12, h13, hf⟩ := hf
            refine V_callS (pc := 121) (us1 := [_, _, _]) [2] (kX5_measureOf (ob := ob) hk2 h13) rfl rfl rfl rfl wm_RX5_169 md_X5_measureOf (Nat.le_of_ble_eq_true rfl) (Nat.le_of_ble_eq_true rfl) rfl rfl (Nat.le_of_ble_eq_true rfl) dX5_isPlainTrue_121 ?_
            refine v_istore (pc := 124) [(6, .int r12), (5, va_re (wE G) (oX S 0 d.toNatClampNeg)), (0, .ref (wA G o 0)), (1, .ref (wA G oa 0)), (2, .ref (wA G ob 0)), (3, .int c), (4, .int d)] dX5_isPlainTrue_124 (Nat.le_of_ble_eq_true rfl) (by generalize (oX S 0 d.toNatClampNeg) = z9; cases z9 <;> rfl) ?_
            refine v_aload_n (pc := 126) 2 dX5_isPlainTrue_126 rfl ?_
            refine gf_RX5_17 (pc := 127) 0 rfl hk0 dX5_isPlainTrue_127 ?_
            refine v_iload (pc := 130) 6 dX5_isPlainTrue_130 rfl ?_
            replace hf := gd_some hf; obtain ⟨g14, hf⟩ := hf
            refine al_X5_1 (pc := 132) _ 0 rfl hk0 rfl g14 dX5_isPlainTrue_132 ?_
            refine v_bipush (pc := 133) (60 : Int32) dX5_isPlainTrue_133 cb_60 ?_
            refine v_icmp_ne (pc := 135) 156 dX5_isPlainTrue_135 (by decide) (fun c15 => ?_) (fun c15 => ?_)
            · replace hf := it_f c15 hf
              refine v_aload_n (pc := 156) 2 dX5_isPlainTrue_156 rfl ?_
              refine gf_RX5_17 (pc := 157) 0 rfl hk0 dX5_isPlainTrue_157 ?_
              refine v_iload (pc := 160) 6 dX5_isPlainTrue_160 rfl ?_
              replace hf := gd_some hf; obtain ⟨g16, hf⟩ := hf
              refine al_X5_1 (pc := 162) _ 0 rfl hk0 rfl g16 dX5_isPlainTrue_162 ?_
              refine v_bipush (pc := 163) (61 : Int32) dX5_isPlainTrue_163 cb_61 ?_
              refine v_icmp_ne (pc := 165) 188 dX5_isPlainTrue_165 (by decide) (fun c17 => ?_) (fun c17 => ?_)
              · replace hf := it_f c17 hf
                refine v_iload (pc := 188) 0 dX5_isPlainTrue_188 rfl ?_
                refine v_aload_n (pc := 190) 2 dX5_isPlainTrue_190 rfl ?_
                refine gf_RX5_21 (pc := 191) 0 rfl hk0 dX5_isPlainTrue_191 ?_
                refine v_iload (pc := 194) 6 dX5_isPlainTrue_194 rfl ?_
                replace hf := gd_some hf; obtain ⟨g18, hf⟩ := hf
                refine al_X5_2 (pc := 196) _ 0 rfl hk0 rfl g18 dX5_isPlainTrue_196 ?_
                refine v_icmp_le (pc := 197) 204 dX5_isPlainTrue_197 (by decide) (fun c19 => ?_) (fun c19 => ?_)
                · replace hf := it_t c19 hf
                  refine v_iconst (pc := 204) (0 : Int32) dX5_isPlainTrue_204 ci_0 ?_
                  have hf2 := Option.some.inj hf; subst hf2
                  exact V_zret (pc := 205) hF rfl dX5_isPlainTrue_205
                · replace hf := it_f c19 hf
                  refine v_iconst (pc := 200) (1 : Int32) dX5_isPlainTrue_200 ci_1 ?_
                  refine v_goto (pc := 201) 205 dX5_isPlainTrue_201 (by decide) ?_
                  have hf2 := Option.some.inj hf; subst hf2
                  exact V_zret (pc := 205) hF rfl dX5_isPlainTrue_205
              · replace hf := it_t c17 hf
                refine v_iload (pc := 168) 0 dX5_isPlainTrue_168 rfl ?_
                refine v_aload_n (pc := 170) 2 dX5_isPlainTrue_170 rfl ?_
                refine gf_RX5_21 (pc := 171) 0 rfl hk0 dX5_isPlainTrue_171 ?_
                refine v_iload (pc := 174) 6 dX5_isPlainTrue_174 rfl ?_
                replace hf := gd_some hf; obtain ⟨g20, hf⟩ := hf
                refine al_X5_2 (pc := 176) _ 0 rfl hk0 rfl g20 dX5_isPlainTrue_176 ?_
                refine v_icmp_ne (pc := 177) 184 dX5_isPlainTrue_177 (by decide) (fun c21 => ?_) (fun c21 => ?_)
                · replace hf := it_f c21 hf
                  refine v_iconst (pc := 184) (0 : Int32) dX5_isPlainTrue_184 ci_0 ?_
                  refine v_goto (pc := 185) 205 dX5_isPlainTrue_185 (by decide) ?_
                  have hf2 := Option.some.inj hf; subst hf2
                  exact V_zret (pc := 205) hF rfl dX5_isPlainTrue_205
                · replace hf := it_t c21 hf
                  refine v_iconst (pc := 180) (1 : Int32) dX5_isPlainTrue_180 ci_1 ?_
                  refine v_goto (pc := 181) 205 dX5_isPlainTrue_181 (by decide) ?_
                  have hf2 := Option.some.inj hf; subst hf2
                  exact V_zret (pc := 205) hF rfl dX5_isPlainTrue_205
            · replace hf := it_t c15 hf
              refine v_iload (pc := 138) 0 dX5_isPlainTrue_138 rfl ?_
              refine v_aload_n (pc := 140) 2 dX5_isPlainTrue_140 rfl ?_
              refine gf_RX5_21 (pc := 141) 0 rfl hk0 dX5_isPlainTrue_141 ?_
              refine v_iload (pc := 144) 6 dX5_isPlainTrue_144 rfl ?_
              replace hf := gd_some hf; obtain ⟨g22, hf⟩ := hf
              refine al_X5_2 (pc := 146) _ 0 rfl hk0 rfl g22 dX5_isPlainTrue_146 ?_
              refine v_icmp_ge (pc := 147) 154 dX5_isPlainTrue_147 (by decide) (fun c23 => ?_) (fun c23 => ?_)
              · replace hf := it_t c23 hf
                refine v_iconst (pc := 154) (0 : Int32) dX5_isPlainTrue_154 ci_0 ?_
                have hf2 := Option.some.inj hf; subst hf2
                exact V_zret (pc := 155) hF rfl dX5_isPlainTrue_155
              · replace hf := it_f c23 hf
                refine v_iconst (pc := 150) (1 : Int32) dX5_isPlainTrue_150 ci_1 ?_
                refine v_goto (pc := 151) 155 dX5_isPlainTrue_151 (by decide) ?_
                have hf2 := Option.some.inj hf; subst hf2
                exact V_zret (pc := 155) hF rfl dX5_isPlainTrue_155
          · replace hf := it_t c11 hf
            refine v_aload_n (pc := 104) 3 dX5_isPlainTrue_104 rfl ?_
            refine v_iload_n (pc := 105) 4 dX5_isPlainTrue_105 rfl ?_
            refine v_aload_n (pc := 106) 1 dX5_isPlainTrue_106 rfl ?_
            refine gf_RX5_21 (pc := 107) 0 rfl hk0 dX5_isPlainTrue_107 ?_
            refine v_iload (pc := 110) 5 dX5_isPlainTrue_110 rfl ?_
            replace hf := gd_some hf; obtain ⟨g24, hf⟩ := hf
            refine al_X5_2 (pc := 112) _ 0 rfl hk0 rfl g24 dX5_isPlainTrue_112 ?_
            replace hf := bd_some hf; obtain ⟨r25, h26, hf⟩ := hf
            refine V_call (pc := 113) (us1 := [_, _, _]) [2] 2 (kX6_alike (o := ob) hk2 h26) rfl rfl rfl rfl rfl hk2 (Nat.le_of_ble_eq_true rfl) rfl rfl rfl wm_RX5_166 md_X6_alike (Nat.le_of_ble_eq_true rfl) (Nat.le_of_ble_eq_true rfl) rfl rfl (Nat.le_of_ble_eq_true rfl) dX5_isPlainTrue_113 ?_
            replace hf := gd_some hf; obtain ⟨g27, hf⟩ := hf
            have hf2 := Option.some.inj hf; subst hf2
            exact V_zret (pc := 116) hF g27 dX5_isPlainTrue_116
        · replace hf := it_t c9 hf
          refine v_aload_n (pc := 83) 3 dX5_isPlainTrue_83 rfl ?_
          refine v_iload_n (pc := 84) 4 dX5_isPlainTrue_84 rfl ?_
          refine v_aload_n (pc := 85) 1 dX5_isPlainTrue_85 rfl ?_
          refine gf_RX5_21 (pc := 86) 0 rfl hk0 dX5_isPlainTrue_86 ?_
          refine v_iload (pc := 89) 5 dX5_isPlainTrue_89 rfl ?_
          replace hf := gd_some hf; obtain ⟨g28, hf⟩ := hf
          refine al_X5_2 (pc := 91) _ 0 rfl hk0 rfl g28 dX5_isPlainTrue_91 ?_
          replace hf := bd_some hf; obtain ⟨r29, h30, hf⟩ := hf
          refine V_call (pc := 92) (us1 := [_, _, _]) [2] 2 (kX6_has (o := ob) hk2 h30) rfl rfl rfl rfl rfl hk2 (Nat.le_of_ble_eq_true rfl) rfl rfl rfl wm_RX5_162 md_X6_has (Nat.le_of_ble_eq_true rfl) (Nat.le_of_ble_eq_true rfl) rfl rfl (Nat.le_of_ble_eq_true rfl) dX5_isPlainTrue_92 ?_
          replace hf := gd_some hf; obtain ⟨g31, hf⟩ := hf
          have hf2 := Option.some.inj hf; subst hf2
          exact V_zret (pc := 95) hF g31 dX5_isPlainTrue_95
      · replace hf := it_t c7 hf
        refine v_aload_n (pc := 54) 3 dX5_isPlainTrue_54 rfl ?_
        refine gf_RX5_156 (pc := 55) 2 rfl hk2 dX5_isPlainTrue_55 ?_
        refine v_iload_n (pc := 58) 4 dX5_isPlainTrue_58 rfl ?_
        replace hf := gd_some hf; obtain ⟨g32, hf⟩ := hf
        refine al_X6_2 (pc := 59) _ 2 rfl hk2 rfl g32 dX5_isPlainTrue_59 ?_
        refine v_aload_n (pc := 60) 2 dX5_isPlainTrue_60 rfl ?_
        refine gf_RX5_159 (pc := 61) 1 rfl hk1 dX5_isPlainTrue_61 ?_
        refine v_iload_n (pc := 64) 4 dX5_isPlainTrue_64 rfl ?_
        replace hf := gd_some hf; obtain ⟨g33, hf⟩ := hf
        refine al_X4_6 (pc := 65) _ 1 rfl hk1 rfl g33 dX5_isPlainTrue_65 ?_
        refine v_icmp_lt (pc := 66) 73 dX5_isPlainTrue_66 (by decide) (fun c34 => ?_) (fun c34 => ?_)
        · replace hf := it_t c34 hf
          refine v_iconst (pc := 73) (0 : Int32) dX5_isPlainTrue_73 ci_0 ?_
          have hf2 := Option.some.inj hf; subst hf2
          exact V_zret (pc := 74) hF rfl dX5_isPlainTrue_74
        · replace hf := it_f c34 hf
          refine v_iconst (pc := 69) (1 : Int32) dX5_isPlainTrue_69 ci_1 ?_
          refine v_goto (pc := 70) 74 dX5_isPlainTrue_70 (by decide) ?_
          have hf2 := Option.some.inj hf; subst hf2
          exact V_zret (pc := 74) hF rfl dX5_isPlainTrue_74
    · replace hf := it_t c5 hf
      refine v_aload_n (pc := 40) 3 dX5_isPlainTrue_40 rfl ?_
      refine v_iload_n (pc := 41) 4 dX5_isPlainTrue_41 rfl ?_
      replace hf := bd_some hf; obtain ⟨r35, h36, hf⟩ := hf
      refine V_call (pc := 42) (us1 := [_, _, _]) [2] 2 (kX6_isNest (o := ob) hk2 h36) rfl rfl rfl rfl rfl hk2 (Nat.le_of_ble_eq_true rfl) rfl rfl rfl wm_RX5_153 md_X6_isNest (Nat.le_of_ble_eq_true rfl) (Nat.le_of_ble_eq_true rfl) rfl rfl (Nat.le_of_ble_eq_true rfl) dX5_isPlainTrue_42 ?_
      replace hf := gd_some hf; obtain ⟨g37, hf⟩ := hf
      have hf2 := Option.some.inj hf; subst hf2
      exact V_zret (pc := 45) hF g37 dX5_isPlainTrue_45
  · replace hf := it_t c3 hf
    refine v_aload_n (pc := 17) 3 dX5_isPlainTrue_17 rfl ?_
    refine gf_RX5_148 (pc := 18) 2 rfl hk2 dX5_isPlainTrue_18 ?_
    refine v_iload_n (pc := 21) 4 dX5_isPlainTrue_21 rfl ?_
    replace hf := gd_some hf; obtain ⟨g38, hf⟩ := hf
    refine al_X6_1 (pc := 22) _ 2 rfl hk2 rfl g38 dX5_isPlainTrue_22 ?_
    refine v_if_ne (pc := 23) 30 dX5_isPlainTrue_23 (by decide) (fun c39 => ?_) (fun c39 => ?_)
    · replace hf := it_f c39 hf
      refine v_iconst (pc := 30) (0 : Int32) dX5_isPlainTrue_30 ci_0 ?_
      have hf2 := Option.some.inj hf; subst hf2
      exact V_zret (pc := 31) hF rfl dX5_isPlainTrue_31
    · replace hf := it_t c39 hf
      refine v_iconst (pc := 26) (1 : Int32) dX5_isPlainTrue_26 ci_1 ?_
      refine v_goto (pc := 27) 31 dX5_isPlainTrue_27 (by decide) ?_
      have hf2 := Option.some.inj hf; subst hf2
      exact V_zret (pc := 31) hF rfl dX5_isPlainTrue_31
set_option maxRecDepth 20000 in
theorem wX5_isTrueOf_l6 {G : Wc} {Γ : Cx} {o oa ob : Nat} {S : Ob} {Sa : Ob} {Sb : Ob} {l3 : Int32} (hk0 : kd o = 5) (hk1 : kd oa = 4) (hk2 : kd ob = 6) : ∀ (n : Nat) {l4 : Int32} {l5 : Int32} {r : Int32}, pX5_isTrueOf_l6 S Sa Sb l3 n l4 l5 = some r → V cX5_isTrueOf RX5 5 153 7 G Γ [(o, S), (oa, Sa), (ob, Sb)] 126 [(4, .int r)] [] → V cX5_isTrueOf RX5 5 153 7 G Γ [(o, S), (oa, Sa), (ob, Sb)] 6 [(0, .ref (wA G o 0)), (1, .ref (wA G oa 0)), (2, .ref (wA G ob 0)), (3, .int l3), (4, .int l4), (5, .int l5)] [] := by
  intro n
  induction n with
  | zero => intro l4 l5 r hf hx; unfold pX5_isTrueOf_l6 at hf; cases hf
  | succ n ih =>
    intro l4 l5 r hf hx
    have hrec : ∀ {l4 : Int32} {l5 : Int32}, pX5_isTrueOf_l6 S Sa Sb l3 n l4 l5 = some r → V cX5_isTrueOf RX5 5 153 7 G Γ [(o, S), (oa, Sa), (ob, Sb)] 6 [(0, .ref (wA G o 0)), (1, .ref (wA G oa 0)), (2, .ref (wA G ob 0)), (3, .int l3), (4, .int l4), (5, .int l5)] [] := fun h => ih h hx
    clear ih
    unfold pX5_isTrueOf_l6 at hf
    refine v_iload (pc := 6) 5 dX5_isTrueOf_6 rfl ?_
    refine v_aload_n (pc := 8) 0 dX5_isTrueOf_8 rfl ?_
    refine gf_RX5_24 (pc := 9) 0 rfl hk0 dX5_isTrueOf_9 ?_
    refine v_icmp_ge (pc := 12) 126 dX5_isTrueOf_12 (by decide) (fun c1 => ?_) (fun c1 => ?_)
    · replace hf := it_t c1 hf
      have hf2 := Option.some.inj hf; subst hf2
      exact V_sub [4] rfl hx
    · replace hf := it_f c1 hf
      refine v_iload (pc := 15) 4 dX5_isTrueOf_15 rfl ?_
      refine v_iconst (pc := 17) (1 : Int32) dX5_isTrueOf_17 ci_1 ?_
      refine v_iand (pc := 18) dX5_isTrueOf_18 ?_
      refine v_istore (pc := 19) [(6, _), (0, _), (1, _), (2, _), (3, _), (4, _), (5, _)] dX5_isTrueOf_19 (Nat.le_of_ble_eq_true rfl) rfl ?_
      refine v_aload_n (pc := 21) 1 dX5_isTrueOf_21 rfl ?_
      refine gf_RX5_13 (pc := 22) 0 rfl hk0 dX5_isTrueOf_22 ?_
      refine v_iload (pc := 25) 6 dX5_isTrueOf_25 rfl ?_
      replace hf := gd_some hf; obtain ⟨g2, hf⟩ := hf
      refine al_X5_0 (pc := 27) _ 0 rfl hk0 rfl g2 dX5_isTrueOf_27 ?_
      refine V_gete (pc := 28) 13 "NOT" (by decide) rfl wf_RX5_84 dX5_isTrueOf_28 ?_
      replace hf := gd_some hf; obtain ⟨g3, hf⟩ := hf
      refine v_acmp_ne (pc := 31) g3 rfl 43 dX5_isTrueOf_31 (by decide) (fun c4 => ?_) (fun c4 => ?_)
      · replace hf := it_f c4 hf
        refine v_aload_n (pc := 43) 1 dX5_isTrueOf_43 rfl ?_
        refine gf_RX5_13 (pc := 44) 0 rfl hk0 dX5_isTrueOf_44 ?_
        refine v_iload (pc := 47) 6 dX5_isTrueOf_47 rfl ?_
        replace hf := gd_some hf; obtain ⟨g5, hf⟩ := hf
        refine al_X5_0 (pc := 49) _ 0 rfl hk0 rfl g5 dX5_isTrueOf_49 ?_
        refine V_gete (pc := 50) 12 "AND" (by decide) rfl wf_RX5_64 dX5_isTrueOf_50 ?_
        replace hf := gd_some hf; obtain ⟨g6, hf⟩ := hf
        refine v_acmp_ne (pc := 53) g6 rfl 71 dX5_isTrueOf_53 (by decide) (fun c7 => ?_) (fun c7 => ?_)
        · replace hf := it_f c7 hf
          refine v_aload_n (pc := 71) 1 dX5_isTrueOf_71 rfl ?_
          refine gf_RX5_13 (pc := 72) 0 rfl hk0 dX5_isTrueOf_72 ?_
          refine v_iload (pc := 75) 6 dX5_isTrueOf_75 rfl ?_
          replace hf := gd_some hf; obtain ⟨g8, hf⟩ := hf
          refine al_X5_0 (pc := 77) _ 0 rfl hk0 rfl g8 dX5_isTrueOf_77 ?_
          refine V_gete (pc := 78) 11 "OR" (by decide) rfl wf_RX5_67 dX5_isTrueOf_78 ?_
          replace hf := gd_some hf; obtain ⟨g9, hf⟩ := hf
          refine v_acmp_ne (pc := 81) g9 rfl 96 dX5_isTrueOf_81 (by decide) (fun c10 => ?_) (fun c10 => ?_)
          · replace hf := it_f c10 hf
            refine v_iload (pc := 96) 5 dX5_isTrueOf_96 rfl ?_
            refine v_iconst (pc := 98) (1 : Int32) dX5_isTrueOf_98 ci_1 ?_
            refine v_ishl (pc := 99) dX5_isTrueOf_99 ?_
            refine v_aload_n (pc := 100) 1 dX5_isTrueOf_100 rfl ?_
            refine v_aload_n (pc := 101) 2 dX5_isTrueOf_101 rfl ?_
            refine v_aload_n (pc := 102) 3 dX5_isTrueOf_102 rfl ?_
            refine v_iload_n (pc := 103) 4 dX5_isTrueOf_103 rfl ?_
            refine v_iload (pc := 104) 6 dX5_isTrueOf_104 rfl ?_
            replace hf := bd_some hf; obtain ⟨r11, h12, hf⟩ := hf
            refine V_call (pc := 106) (us1 := [_, _, _]) [0, 1, 2] 0 (kX5_isPlainTrue (o := o) (oa := oa) (ob := ob) hk0 hk1 hk2 h12) rfl rfl rfl rfl rfl hk0 (Nat.le_of_ble_eq_true rfl) rfl rfl rfl wm_RX5_144 md_X5_isPlainTrue (Nat.le_of_ble_eq_true rfl) (Nat.le_of_ble_eq_true rfl) rfl rfl (Nat.le_of_ble_eq_true rfl) dX5_isTrueOf_106 ?_
            refine v_if_eq (pc := 109) 116 dX5_isTrueOf_109 (by decide) (fun c13 => ?_) (fun c13 => ?_)
            · replace hf := it_t c13 hf
              refine v_iconst (pc := 116) (0 : Int32) dX5_isTrueOf_116 ci_0 ?_
              refine v_ior (pc := 117) dX5_isTrueOf_117 ?_
              refine v_istore (pc := 118) [(4, _), (6, _), (0, _), (1, _), (2, _), (3, _), (5, _)] dX5_isTrueOf_118 (Nat.le_of_ble_eq_true rfl) rfl ?_
              refine v_iinc (pc := 120) 6 (l5 + (1 : Int32)) [(5, _), (4, _), (6, _), (0, _), (1, _), (2, _), (3, _)] dX5_isTrueOf_120 rfl (congrArg (fun z => _ + z) ci_1) (Nat.le_of_ble_eq_true rfl) rfl ?_
              refine v_goto (pc := 123) 6 dX5_isTrueOf_123 (by decide) ?_
              exact V_sub [3, 4, 5, 6, 1, 0] rfl (hrec hf)
            · replace hf := it_f c13 hf
              refine v_iconst (pc := 112) (1 : Int32) dX5_isTrueOf_112 ci_1 ?_
              refine v_goto (pc := 113) 117 dX5_isTrueOf_113 (by decide) ?_
              refine v_ior (pc := 117) dX5_isTrueOf_117 ?_
              refine v_istore (pc := 118) [(4, _), (6, _), (0, _), (1, _), (2, _), (3, _), (5, _)] dX5_isTrueOf_118 (Nat.le_of_ble_eq_true rfl) rfl ?_
              refine v_iinc (pc := 120) 6 (l5 + (1 : Int32)) [(5, _), (4, _), (6, _), (0, _), (1, _), (2, _), (3, _)] dX5_isTrueOf_120 rfl (congrArg (fun z => _ + z) ci_1) (Nat.le_of_ble_eq_true rfl) rfl ?_
              refine v_goto (pc := 123) 6 dX5_isTrueOf_123 (by decide) ?_
              exact V_sub [3, 4, 5, 6, 1, 0] rfl (hrec hf)
          · replace hf := it_t c10 hf
            refine v_iload (pc := 84) 5 dX5_isTrueOf_84 rfl ?_
            refine v_iconst (pc := 86) (1 : Int32) dX5_isTrueOf_86 ci_1 ?_
            refine v_ishr (pc := 87) dX5_isTrueOf_87 ?_
            refine v_iload (pc := 88) 0 dX5_isTrueOf_88 rfl ?_
            refine v_ior (pc := 90) dX5_isTrueOf_90 ?_
            refine v_istore (pc := 91) [(4, _), (6, _), (0, _), (1, _), (2, _), (3, _), (5, _)] dX5_isTrueOf_91 (Nat.le_of_ble_eq_true rfl) rfl ?_
            refine v_goto (pc := 93) 120 dX5_isTrueOf_93 (by decide) ?_
            refine v_iinc (pc := 120) 6 (l5 + (1 : Int32)) [(5, _), (4, _), (6, _), (0, _), (1, _), (2, _), (3, _)] dX5_isTrueOf_120 rfl (congrArg (fun z => _ + z) ci_1) (Nat.le_of_ble_eq_true rfl) rfl ?_
            refine v_goto (pc := 123) 6 dX5_isTrueOf_123 (by decide) ?_
            exact V_sub [3, 4, 5, 6, 1, 0] rfl (hrec hf)
        · replace hf := it_t c7 hf
          refine v_iload (pc := 56) 5 dX5_isTrueOf_56 rfl ?_
          refine v_iconst (pc := 58) (1 : Int32) dX5_isTrueOf_58 ci_1 ?_
          refine v_ishr (pc := 59) dX5_isTrueOf_59 ?_
          refine v_iload (pc := 60) 0 dX5_isTrueOf_60 rfl ?_
          refine v_bipush (pc := 62) (-2 : Int32) dX5_isTrueOf_62 cb_m2 ?_
          refine v_ior (pc := 64) dX5_isTrueOf_64 ?_
          refine v_iand (pc := 65) dX5_isTrueOf_65 ?_
          refine v_istore (pc := 66) [(4, _), (6, _), (0, _), (1, _), (2, _), (3, _), (5, _)] dX5_isTrueOf_66 (Nat.le_of_ble_eq_true rfl) rfl ?_
          refine v_goto (pc := 68) 120 dX5_isTrueOf_68 (by decide) ?_
          refine v_iinc (pc := 120) 6 (l5 + (1 : Int32)) [(5, _), (4, _), (6, _), (0, _), (1, _), (2, _), (3, _)] dX5_isTrueOf_120 rfl (congrArg (fun z => _ + z) ci_1) (Nat.le_of_ble_eq_true rfl) rfl ?_
          refine v_goto (pc := 123) 6 dX5_isTrueOf_123 (by decide) ?_
          exact V_sub [3, 4, 5, 6, 1, 0] rfl (hrec hf)
      · replace hf := it_t c4 hf
        refine v_iload (pc := 34) 5 dX5_isTrueOf_34 rfl ?_
        refine v_iconst (pc := 36) (1 : Int32) dX5_isTrueOf_36 ci_1 ?_
        refine v_ixor (pc := 37) dX5_isTrueOf_37 ?_
        refine v_istore (pc := 38) [(4, _), (6, _), (0, _), (1, _), (2, _), (3, _), (5, _)] dX5_isTrueOf_38 (Nat.le_of_ble_eq_true rfl) rfl ?_
        refine v_goto (pc := 40) 120 dX5_isTrueOf_40 (by decide) ?_
        refine v_iinc (pc := 120) 6 (l5 + (1 : Int32)) [(5, _), (4, _), (6, _), (0, _), (1, _), (2, _), (3, _)] dX5_isTrueOf_120 rfl (congrArg (fun z => _ + z) ci_1) (Nat.le_of_ble_eq_true rfl) rfl ?_
        refine v_goto (pc := 123) 6 dX5_isTrueOf_123 (by decide) ?_
        exact V_sub [3, 4, 5, 6, 1, 0] rfl (hrec hf)
set_option maxRecDepth 20000 in
theorem kX5_isTrueOf {G : Wc} {o oa ob : Nat} {S : Ob} {Sa : Ob} {Sb : Ob} {c : Int32} {r : Int32} (hk0 : kd o = 5) (hk1 : kd oa = 4) (hk2 : kd ob = 6) (hf : pX5_isTrueOf S Sa Sb  c = some r) : Cn yX5_isTrueOf cX5_isTrueOf 7 (some .boolean) 5 153 G [.ref (wA G o 0), .ref (wA G oa 0), .ref (wA G ob 0), .int c] [(o, S), (oa, Sa), (ob, Sb)] [(o, S), (oa, Sa), (ob, Sb)] (some (.int r)) := by
  refine V_method [(0, .ref (wA G o 0)), (1, .ref (wA G oa 0)), (2, .ref (wA G ob 0)), (3, .int c)] (by decide) rfl (Nat.le_of_ble_eq_true rfl) rfl (fun Γ hF => ?_)
  unfold pX5_isTrueOf at hf
  refine v_iconst (pc := 0) (0 : Int32) dX5_isTrueOf_0 ci_0 ?_
  refine v_istore (pc := 1) [(4, _), (0, _), (1, _), (2, _), (3, _)] dX5_isTrueOf_1 (Nat.le_of_ble_eq_true rfl) rfl ?_
  refine v_iconst (pc := 3) (0 : Int32) dX5_isTrueOf_3 ci_0 ?_
  refine v_istore (pc := 4) [(5, _), (4, _), (0, _), (1, _), (2, _), (3, _)] dX5_isTrueOf_4 (Nat.le_of_ble_eq_true rfl) rfl ?_
  replace hf := bd_some hf; obtain ⟨r14, h15, hf⟩ := hf
  refine V_sub [2, 3, 4, 5, 1, 0] rfl (wX5_isTrueOf_l6 hk0 hk1 hk2 fu h15 ?_)
  refine v_iload (pc := 126) 0 dX5_isTrueOf_126 rfl ?_
  refine v_iconst (pc := 128) (1 : Int32) dX5_isTrueOf_128 ci_1 ?_
  refine v_iand (pc := 129) dX5_isTrueOf_129 ?_
  refine v_iconst (pc := 130) (1 : Int32) dX5_isTrueOf_130 ci_1 ?_
  refine v_icmp_ne (pc := 131) 138 dX5_isTrueOf_131 (by decide) (fun c16 => ?_) (fun c16 => ?_)
  · replace hf := it_f c16 hf
    refine v_iconst (pc := 138) (0 : Int32) dX5_isTrueOf_138 ci_0 ?_
    have hf2 := Option.some.inj hf; subst hf2
    exact V_zret (pc := 139) hF rfl dX5_isTrueOf_139
  · replace hf := it_t c16 hf
    refine v_iconst (pc := 134) (1 : Int32) dX5_isTrueOf_134 ci_1 ?_
    refine v_goto (pc := 135) 139 dX5_isTrueOf_135 (by decide) ?_
    have hf2 := Option.some.inj hf; subst hf2
    exact V_zret (pc := 139) hF rfl dX5_isTrueOf_139
set_option maxRecDepth 20000 in
theorem wX6_endsWith_l21 {G : Wc} {Γ : Cx} {o bu : Nat} {ba bk bj bn : Nat} {bf : Nat → Int32} {S : Ob} {bS : Ob} {l1 : Int32} {l3 : Int32} {r : Int32} (hk0 : kd o = 6) (hk1 : kd bu = bk) (hq1 : bk < 12) (hc1 : (uc G bu bk bS)[bj]? = some (ba, .inl (wT G 0, bn, .inl bf))) (hF : Fnl G Γ (some .boolean) (some (.int r)) (ov Γ.2.2.2 [(o, S), (bu, bS)])) : ∀ (n : Nat) {l4 : Int32}, pX6_endsWith_l21 S bf bn l1 l3 n l4 = some r → V cX6_endsWith RX6 2 82 5 G Γ [(o, S), (bu, bS)] 21 [(0, .ref (wA G o 0)), (1, .int l1), (2, .ref ba), (3, .int l3), (4, .int l4)] [] := by
  intro n
  induction n with
  | zero => intro l4 hf; unfold pX6_endsWith_l21 at hf; cases hf
  | succ n ih =>
    intro l4 hf
    have hrec : ∀ {l4 : Int32}, pX6_endsWith_l21 S bf bn l1 l3 n l4 = some r → V cX6_endsWith RX6 2 82 5 G Γ [(o, S), (bu, bS)] 21 [(0, .ref (wA G o 0)), (1, .int l1), (2, .ref ba), (3, .int l3), (4, .int l4)] [] := fun h => ih h
    clear ih
    unfold pX6_endsWith_l21 at hf
    refine v_iload (pc := 21) 4 dX6_endsWith_21 rfl ?_
    refine v_iload_n (pc := 23) 3 dX6_endsWith_23 rfl ?_
    refine v_icmp_ge (pc := 24) 58 dX6_endsWith_24 (by decide) (fun c4 => ?_) (fun c4 => ?_)
    · replace hf := it_t c4 hf
      refine v_iconst (pc := 58) (1 : Int32) dX6_endsWith_58 ci_1 ?_
      have hf2 := Option.some.inj hf; subst hf2
      exact V_zret (pc := 59) hF rfl dX6_endsWith_59
    · replace hf := it_f c4 hf
      refine v_aload_n (pc := 27) 2 dX6_endsWith_27 rfl ?_
      refine v_iload (pc := 28) 4 dX6_endsWith_28 rfl ?_
      replace hf := gd_some hf; obtain ⟨g5, hf⟩ := hf
      refine V_iald (pc := 30) 1 _ rfl hk1 hq1 hc1 g5 dX6_endsWith_30 ?_
      refine v_aload_n (pc := 31) 0 dX6_endsWith_31 rfl ?_
      refine v_iload_n (pc := 32) 1 dX6_endsWith_32 rfl ?_
      refine v_aload_n (pc := 33) 0 dX6_endsWith_33 rfl ?_
      refine gf_RX6_15 (pc := 34) 0 rfl hk0 dX6_endsWith_34 ?_
      refine v_iload_n (pc := 37) 1 dX6_endsWith_37 rfl ?_
      replace hf := gd_some hf; obtain ⟨g6, hf⟩ := hf
      refine al_X6_1 (pc := 38) _ 0 rfl hk0 rfl g6 dX6_endsWith_38 ?_
      refine v_iload_n (pc := 39) 3 dX6_endsWith_39 rfl ?_
      refine v_isub (pc := 40) dX6_endsWith_40 ?_
      refine v_iload (pc := 41) 4 dX6_endsWith_41 rfl ?_
      refine v_iadd (pc := 43) dX6_endsWith_43 ?_
      replace hf := bd_some hf; obtain ⟨r7, h8, hf⟩ := hf
      refine V_call (pc := 44) (us1 := [_, _]) [0] 0 (kX6_layerAt (o := o) hk0 h8) rfl rfl rfl rfl rfl hk0 (Nat.le_of_ble_eq_true rfl) rfl rfl rfl wm_RX6_55 md_X6_layerAt (Nat.le_of_ble_eq_true rfl) (Nat.le_of_ble_eq_true rfl) rfl rfl (Nat.le_of_ble_eq_true rfl) dX6_endsWith_44 ?_
      refine v_icmp_eq (pc := 47) 52 dX6_endsWith_47 (by decide) (fun c9 => ?_) (fun c9 => ?_)
      · replace hf := it_t c9 hf
        refine v_iinc (pc := 52) 4 (l4 + (1 : Int32)) [(4, _), (0, _), (1, _), (2, _), (3, _)] dX6_endsWith_52 rfl (congrArg (fun z => _ + z) ci_1) (Nat.le_of_ble_eq_true rfl) rfl ?_
        refine v_goto (pc := 55) 21 dX6_endsWith_55 (by decide) ?_
        exact V_sub [1, 2, 3, 4, 0] rfl (hrec hf)
      · replace hf := it_f c9 hf
        refine v_iconst (pc := 50) (0 : Int32) dX6_endsWith_50 ci_0 ?_
        have hf2 := Option.some.inj hf; subst hf2
        exact V_zret (pc := 51) hF rfl dX6_endsWith_51
set_option maxRecDepth 20000 in
theorem kX6_endsWith {G : Wc} {o bu : Nat} {ba bk bj bn : Nat} {bf : Nat → Int32} {S : Ob} {bS : Ob} {a : Int32} {c : Int32} {r : Int32} (hk0 : kd o = 6) (hk1 : kd bu = bk) (hq1 : bk < 12) (hc1 : (uc G bu bk bS)[bj]? = some (ba, .inl (wT G 0, bn, .inl bf))) (hf : pX6_endsWith S bf bn a c = some r) : Cn yX6_endsWith cX6_endsWith 5 (some .boolean) 2 82 G [.ref (wA G o 0), .int a, .ref ba, .int c] [(o, S), (bu, bS)] [(o, S), (bu, bS)] (some (.int r)) := by
  refine V_method [(0, .ref (wA G o 0)), (1, .int a), (2, .ref ba), (3, .int c)] (by decide) rfl (Nat.le_of_ble_eq_true rfl) rfl (fun Γ hF => ?_)
  unfold pX6_endsWith at hf
  refine v_iload_n (pc := 0) 3 dX6_endsWith_0 rfl ?_
  refine v_aload_n (pc := 1) 0 dX6_endsWith_1 rfl ?_
  refine gf_RX6_15 (pc := 2) 0 rfl hk0 dX6_endsWith_2 ?_
  refine v_iload_n (pc := 5) 1 dX6_endsWith_5 rfl ?_
  replace hf := gd_some hf; obtain ⟨g1, hf⟩ := hf
  refine al_X6_1 (pc := 6) _ 0 rfl hk0 rfl g1 dX6_endsWith_6 ?_
  refine v_icmp_gt (pc := 7) 16 dX6_endsWith_7 (by decide) (fun c2 => ?_) (fun c2 => ?_)
  · replace hf := it_t c2 hf
    refine v_iconst (pc := 16) (0 : Int32) dX6_endsWith_16 ci_0 ?_
    have hf2 := Option.some.inj hf; subst hf2
    exact V_zret (pc := 17) hF rfl dX6_endsWith_17
  · replace hf := it_f c2 hf
    refine v_iload_n (pc := 10) 3 dX6_endsWith_10 rfl ?_
    refine v_aload_n (pc := 11) 2 dX6_endsWith_11 rfl ?_
    refine V_alen (pc := 12) _ 1 _ rfl hk1 hq1 hc1 rfl rfl dX6_endsWith_12 ?_
    refine v_icmp_le (pc := 13) 18 dX6_endsWith_13 (by decide) (fun c3 => ?_) (fun c3 => ?_)
    · replace hf := it_t c3 hf
      refine v_iconst (pc := 18) (0 : Int32) dX6_endsWith_18 ci_0 ?_
      refine v_istore (pc := 19) [(4, _), (0, _), (1, _), (2, _), (3, _)] dX6_endsWith_19 (Nat.le_of_ble_eq_true rfl) rfl ?_
      exact V_sub [1, 2, 3, 4, 0] rfl (wX6_endsWith_l21 hk0 hk1 hq1 hc1 hF fu hf)
    · replace hf := it_f c3 hf
      refine v_iconst (pc := 16) (0 : Int32) dX6_endsWith_16 ci_0 ?_
      have hf2 := Option.some.inj hf; subst hf2
      exact V_zret (pc := 17) hF rfl dX6_endsWith_17
set_option maxRecDepth 20000 in
theorem wX6_whoHas_l5 {G : Wc} {Γ : Cx} {o oa : Nat} {S : Ob} {Sa : Ob} {l2 : Int32} (hk0 : kd o = 6) (hk1 : kd oa = 4) : ∀ (n : Nat) {l3 : Int32} {l4 : Int32} {r : Int32}, pX6_whoHas_l5 S Sa l2 n l3 l4 = some r → V cX6_whoHas RX6 3 105 5 G Γ [(o, S), (oa, Sa)] 37 [(3, .int r)] [] → V cX6_whoHas RX6 3 105 5 G Γ [(o, S), (oa, Sa)] 5 [(0, .ref (wA G o 0)), (1, .ref (wA G oa 0)), (2, .int l2), (3, .int l3), (4, .int l4)] [] := by
  intro n
  induction n with
  | zero => intro l3 l4 r hf hx; unfold pX6_whoHas_l5 at hf; cases hf
  | succ n ih =>
    intro l3 l4 r hf hx
    have hrec : ∀ {l3 : Int32} {l4 : Int32}, pX6_whoHas_l5 S Sa l2 n l3 l4 = some r → V cX6_whoHas RX6 3 105 5 G Γ [(o, S), (oa, Sa)] 5 [(0, .ref (wA G o 0)), (1, .ref (wA G oa 0)), (2, .int l2), (3, .int l3), (4, .int l4)] [] := fun h => ih h hx
    clear ih
    unfold pX6_whoHas_l5 at hf
    refine v_iload (pc := 5) 4 dX6_whoHas_5 rfl ?_
    refine v_aload_n (pc := 7) 1 dX6_whoHas_7 rfl ?_
    refine gf_RX6_71 (pc := 8) 1 rfl hk1 dX6_whoHas_8 ?_
    refine v_icmp_ge (pc := 11) 37 dX6_whoHas_11 (by decide) (fun c1 => ?_) (fun c1 => ?_)
    · replace hf := it_t c1 hf
      have hf2 := Option.some.inj hf; subst hf2
      exact V_sub [3] rfl hx
    · replace hf := it_f c1 hf
      refine v_aload_n (pc := 14) 0 dX6_whoHas_14 rfl ?_
      refine v_iload (pc := 15) 4 dX6_whoHas_15 rfl ?_
      refine v_iload_n (pc := 17) 2 dX6_whoHas_17 rfl ?_
      replace hf := bd_some hf; obtain ⟨r2, h3, hf⟩ := hf
      refine V_call (pc := 18) (us1 := [_, _]) [0] 0 (kX6_has (o := o) hk0 h3) rfl rfl rfl rfl rfl hk0 (Nat.le_of_ble_eq_true rfl) rfl rfl rfl wm_RX6_74 md_X6_has (Nat.le_of_ble_eq_true rfl) (Nat.le_of_ble_eq_true rfl) rfl rfl (Nat.le_of_ble_eq_true rfl) dX6_whoHas_18 ?_
      refine v_if_eq (pc := 21) 31 dX6_whoHas_21 (by decide) (fun c4 => ?_) (fun c4 => ?_)
      · replace hf := it_t c4 hf
        refine v_iinc (pc := 31) 4 (l4 + (1 : Int32)) [(4, _), (0, _), (1, _), (2, _), (3, _)] dX6_whoHas_31 rfl (congrArg (fun z => _ + z) ci_1) (Nat.le_of_ble_eq_true rfl) rfl ?_
        refine v_goto (pc := 34) 5 dX6_whoHas_34 (by decide) ?_
        exact V_sub [1, 2, 3, 4, 0] rfl (hrec hf)
      · replace hf := it_f c4 hf
        refine v_iload_n (pc := 24) 3 dX6_whoHas_24 rfl ?_
        refine v_iconst (pc := 25) (1 : Int32) dX6_whoHas_25 ci_1 ?_
        refine v_iload (pc := 26) 4 dX6_whoHas_26 rfl ?_
        refine v_ishl (pc := 28) dX6_whoHas_28 ?_
        refine v_ior (pc := 29) dX6_whoHas_29 ?_
        refine v_istore_n (pc := 30) [(3, _), (0, _), (1, _), (2, _), (4, _)] dX6_whoHas_30 (Nat.le_of_ble_eq_true rfl) rfl ?_
        refine v_iinc (pc := 31) 4 (l4 + (1 : Int32)) [(4, _), (3, _), (0, _), (1, _), (2, _)] dX6_whoHas_31 rfl (congrArg (fun z => _ + z) ci_1) (Nat.le_of_ble_eq_true rfl) rfl ?_
        refine v_goto (pc := 34) 5 dX6_whoHas_34 (by decide) ?_
        exact V_sub [2, 3, 4, 1, 0] rfl (hrec hf)
set_option maxRecDepth 20000 in
theorem kX6_whoHas {G : Wc} {o oa : Nat} {S : Ob} {Sa : Ob} {b : Int32} {r : Int32} (hk0 : kd o = 6) (hk1 : kd oa = 4) (hf : pX6_whoHas S Sa  b = some r) : Cn yX6_whoHas cX6_whoHas 5 (some .int) 3 105 G [.ref (wA G o 0), .ref (wA G oa 0), .int b] [(o, S), (oa, Sa)] [(o, S), (oa, Sa)] (some (.int r)) := by
  refine V_method [(0, .ref (wA G o 0)), (1, .ref (wA G oa 0)), (2, .int b)] (by decide) rfl (Nat.le_of_ble_eq_true rfl) rfl (fun Γ hF => ?_)
  unfold pX6_whoHas at hf
  refine v_iconst (pc := 0) (0 : Int32) dX6_whoHas_0 ci_0 ?_
  refine v_istore_n (pc := 1) [(3, _), (0, _), (1, _), (2, _)] dX6_whoHas_1 (Nat.le_of_ble_eq_true rfl) rfl ?_
  refine v_iconst (pc := 2) (0 : Int32) dX6_whoHas_2 ci_0 ?_
  refine v_istore (pc := 3) [(4, _), (3, _), (0, _), (1, _), (2, _)] dX6_whoHas_3 (Nat.le_of_ble_eq_true rfl) rfl ?_
  replace hf := bd_some hf; obtain ⟨r5, h6, hf⟩ := hf
  refine V_sub [2, 3, 4, 1, 0] rfl (wX6_whoHas_l5 hk0 hk1 fu h6 ?_)
  refine v_iload_n (pc := 37) 0 dX6_whoHas_37 rfl ?_
  have hf2 := Option.some.inj hf; subst hf2
  exact V_iret (pc := 38) hF dX6_whoHas_38
set_option maxRecDepth 20000 in
theorem wX6_stillOf_l29 {G : Wc} {Γ : Cx} {o oa : Nat} {S : Ob} {Sa : Ob} {l2 : Int32} {l4 : Int32} (hk0 : kd o = 6) (hk1 : kd oa = 4) : ∀ (n : Nat) {l3 : Int32} {l5 : Int32} {r : Int32}, pX6_stillOf_l29 S Sa l2 l4 n l3 l5 = some r → V cX6_stillOf RX6 2 82 6 G Γ [(o, S), (oa, Sa)] 62 [(0, .ref (wA G o 0)), (1, .ref (wA G oa 0)), (2, .int l2), (3, .int r), (4, .int l4)] [] → V cX6_stillOf RX6 2 82 6 G Γ [(o, S), (oa, Sa)] 29 [(0, .ref (wA G o 0)), (1, .ref (wA G oa 0)), (2, .int l2), (3, .int l3), (4, .int l4), (5, .int l5)] [] := by
  intro n
  induction n with
  | zero => intro l3 l5 r hf hx; unfold pX6_stillOf_l29 at hf; cases hf
  | succ n ih =>
    intro l3 l5 r hf hx
    have hrec : ∀ {l3 : Int32} {l5 : Int32}, pX6_stillOf_l29 S Sa l2 l4 n l3 l5 = some r → V cX6_stillOf RX6 2 82 6 G Γ [(o, S), (oa, Sa)] 29 [(0, .ref (wA G o 0)), (1, .ref (wA G oa 0)), (2, .int l2), (3, .int l3), (4, .int l4), (5, .int l5)] [] := fun h => ih h hx
    clear ih
    unfold pX6_stillOf_l29 at hf
    refine v_iload (pc := 29) 5 dX6_stillOf_29 rfl ?_
    refine v_aload_n (pc := 31) 0 dX6_stillOf_31 rfl ?_
    refine gf_RX6_15 (pc := 32) 0 rfl hk0 dX6_stillOf_32 ?_
    refine v_iload (pc := 35) 4 dX6_stillOf_35 rfl ?_
    replace hf := gd_some hf; obtain ⟨g4, hf⟩ := hf
    refine al_X6_1 (pc := 37) _ 0 rfl hk0 rfl g4 dX6_stillOf_37 ?_
    refine v_icmp_ge (pc := 38) 62 dX6_stillOf_38 (by decide) (fun c5 => ?_) (fun c5 => ?_)
    · replace hf := it_t c5 hf
      have hf2 := Option.some.inj hf; subst hf2
      exact V_sub [0, 1, 2, 3, 4] rfl hx
    · replace hf := it_f c5 hf
      refine v_aload_n (pc := 41) 0 dX6_stillOf_41 rfl ?_
      refine v_iload (pc := 42) 4 dX6_stillOf_42 rfl ?_
      refine v_iload (pc := 44) 5 dX6_stillOf_44 rfl ?_
      replace hf := bd_some hf; obtain ⟨r6, h7, hf⟩ := hf
      refine V_call (pc := 46) (us1 := [_, _]) [0] 0 (kX6_layerAt (o := o) hk0 h7) rfl rfl rfl rfl rfl hk0 (Nat.le_of_ble_eq_true rfl) rfl rfl rfl wm_RX6_55 md_X6_layerAt (Nat.le_of_ble_eq_true rfl) (Nat.le_of_ble_eq_true rfl) rfl rfl (Nat.le_of_ble_eq_true rfl) dX6_stillOf_46 ?_
      refine v_iload_n (pc := 49) 2 dX6_stillOf_49 rfl ?_
      refine v_icmp_ne (pc := 50) 56 dX6_stillOf_50 (by decide) (fun c8 => ?_) (fun c8 => ?_)
      · replace hf := it_f c8 hf
        refine v_iinc (pc := 56) 5 (l5 + (1 : Int32)) [(5, _), (0, _), (1, _), (2, _), (3, _), (4, _)] dX6_stillOf_56 rfl (congrArg (fun z => _ + z) ci_1) (Nat.le_of_ble_eq_true rfl) rfl ?_
        refine v_goto (pc := 59) 29 dX6_stillOf_59 (by decide) ?_
        exact V_sub [1, 2, 3, 4, 5, 0] rfl (hrec hf)
      · replace hf := it_t c8 hf
        refine v_iinc (pc := 53) 3 (l3 + (1 : Int32)) [(3, _), (0, _), (1, _), (2, _), (4, _), (5, _)] dX6_stillOf_53 rfl (congrArg (fun z => _ + z) ci_1) (Nat.le_of_ble_eq_true rfl) rfl ?_
        refine v_iinc (pc := 56) 5 (l5 + (1 : Int32)) [(5, _), (3, _), (0, _), (1, _), (2, _), (4, _)] dX6_stillOf_56 rfl (congrArg (fun z => _ + z) ci_1) (Nat.le_of_ble_eq_true rfl) rfl ?_
        refine v_goto (pc := 59) 29 dX6_stillOf_59 (by decide) ?_
        exact V_sub [2, 3, 4, 1, 5, 0] rfl (hrec hf)
set_option maxRecDepth 20000 in
theorem wX6_stillOf_l17 {G : Wc} {Γ : Cx} {o oa : Nat} {S : Ob} {Sa : Ob} {l2 : Int32} (hk0 : kd o = 6) (hk1 : kd oa = 4) : ∀ (n : Nat) {l3 : Int32} {l4 : Int32} {r : Int32}, pX6_stillOf_l17 S Sa l2 n l3 l4 = some r → V cX6_stillOf RX6 2 82 6 G Γ [(o, S), (oa, Sa)] 68 [(3, .int r)] [] → V cX6_stillOf RX6 2 82 6 G Γ [(o, S), (oa, Sa)] 17 [(0, .ref (wA G o 0)), (1, .ref (wA G oa 0)), (2, .int l2), (3, .int l3), (4, .int l4)] [] := by
  intro n
  induction n with
  | zero => intro l3 l4 r hf hx; unfold pX6_stillOf_l17 at hf; cases hf
  | succ n ih =>
    intro l3 l4 r hf hx
    have hrec : ∀ {l3 : Int32} {l4 : Int32}, pX6_stillOf_l17 S Sa l2 n l3 l4 = some r → V cX6_stillOf RX6 2 82 6 G Γ [(o, S), (oa, Sa)] 17 [(0, .ref (wA G o 0)), (1, .ref (wA G oa 0)), (2, .int l2), (3, .int l3), (4, .int l4)] [] := fun h => ih h hx
    clear ih
    unfold pX6_stillOf_l17 at hf
    refine v_iload (pc := 17) 4 dX6_stillOf_17 rfl ?_
    refine v_aload_n (pc := 19) 1 dX6_stillOf_19 rfl ?_
    refine gf_RX6_71 (pc := 20) 1 rfl hk1 dX6_stillOf_20 ?_
    refine v_icmp_ge (pc := 23) 68 dX6_stillOf_23 (by decide) (fun c3 => ?_) (fun c3 => ?_)
    · replace hf := it_t c3 hf
      have hf2 := Option.some.inj hf; subst hf2
      exact V_sub [3] rfl hx
    · replace hf := it_f c3 hf
      refine v_iconst (pc := 26) (0 : Int32) dX6_stillOf_26 ci_0 ?_
      refine v_istore (pc := 27) [(5, _), (0, _), (1, _), (2, _), (3, _), (4, _)] dX6_stillOf_27 (Nat.le_of_ble_eq_true rfl) rfl ?_
      replace hf := bd_some hf; obtain ⟨r9, h10, hf⟩ := hf
      refine V_sub [1, 2, 3, 4, 5, 0] rfl (wX6_stillOf_l29 hk0 hk1 fu h10 ?_)
      refine v_iinc (pc := 62) 4 (l4 + (1 : Int32)) [(4, _), (0, _), (1, _), (2, _), (3, _)] dX6_stillOf_62 rfl (congrArg (fun z => _ + z) ci_1) (Nat.le_of_ble_eq_true rfl) rfl ?_
      refine v_goto (pc := 65) 17 dX6_stillOf_65 (by decide) ?_
      exact V_sub [1, 2, 3, 4, 0] rfl (hrec hf)
set_option maxRecDepth 20000 in
theorem kX6_stillOf {G : Wc} {o oa : Nat} {S : Ob} {Sa : Ob} {b : Int32} {r : Int32} (hk0 : kd o = 6) (hk1 : kd oa = 4) (hf : pX6_stillOf S Sa  b = some r) : Cn yX6_stillOf cX6_stillOf 6 (some .int) 2 82 G [.ref (wA G o 0), .ref (wA G oa 0), .int b] [(o, S), (oa, Sa)] [(o, S), (oa, Sa)] (some (.int r)) := by
  refine V_method [(0, .ref (wA G o 0)), (1, .ref (wA G oa 0)), (2, .int b)] (by decide) rfl (Nat.le_of_ble_eq_true rfl) rfl (fun Γ hF => ?_)
  unfold pX6_stillOf at hf
  refine v_aload_n (pc := 0) 0 dX6_stillOf_0 rfl ?_
  refine gf_RX6_21 (pc := 1) 0 rfl hk0 dX6_stillOf_1 ?_
  refine v_iload_n (pc := 4) 2 dX6_stillOf_4 rfl ?_
  replace hf := gd_some hf; obtain ⟨g1, hf⟩ := hf
  refine al_X6_3 (pc := 5) _ 0 rfl hk0 rfl g1 dX6_stillOf_5 ?_
  refine v_aload_n (pc := 6) 0 dX6_stillOf_6 rfl ?_
  refine gf_RX6_24 (pc := 7) 0 rfl hk0 dX6_stillOf_7 ?_
  refine v_iload_n (pc := 10) 2 dX6_stillOf_10 rfl ?_
  replace hf := gd_some hf; obtain ⟨g2, hf⟩ := hf
  refine al_X6_4 (pc := 11) _ 0 rfl hk0 rfl g2 dX6_stillOf_11 ?_
  refine v_iadd (pc := 12) dX6_stillOf_12 ?_
  refine v_istore_n (pc := 13) [(3, _), (0, _), (1, _), (2, _)] dX6_stillOf_13 (Nat.le_of_ble_eq_true rfl) rfl ?_
  refine v_iconst (pc := 14) (0 : Int32) dX6_stillOf_14 ci_0 ?_
  refine v_istore (pc := 15) [(4, _), (3, _), (0, _), (1, _), (2, _)] dX6_stillOf_15 (Nat.le_of_ble_eq_true rfl) rfl ?_
  replace hf := bd_some hf; obtain ⟨r11, h12, hf⟩ := hf
  refine V_sub [2, 3, 4, 1, 0] rfl (wX6_stillOf_l17 hk0 hk1 fu h12 ?_)
  refine v_iload_n (pc := 68) 0 dX6_stillOf_68 rfl ?_
  have hf2 := Option.some.inj hf; subst hf2
  exact V_iret (pc := 69) hF dX6_stillOf_69
set_option maxRecDepth 20000 in
theorem wX6_allNests_l4 {G : Wc} {Γ : Cx} {o oa : Nat} {S : Ob} {Sa : Ob} (hk0 : kd o = 6) (hk1 : kd oa = 4) : ∀ (n : Nat) {l2 : Int32} {l3 : Int32} {r : Int32}, pX6_allNests_l4 S Sa n l2 l3 = some r → V cX6_allNests RX6 2 81 4 G Γ [(o, S), (oa, Sa)] 32 [(2, .int r)] [] → V cX6_allNests RX6 2 81 4 G Γ [(o, S), (oa, Sa)] 4 [(0, .ref (wA G o 0)), (1, .ref (wA G oa 0)), (2, .int l2), (3, .int l3)] [] := by
  intro n
  induction n with
  | zero => intro l2 l3 r hf hx; unfold pX6_allNests_l4 at hf; cases hf
  | succ n ih =>
    intro l2 l3 r hf hx
    have hrec : ∀ {l2 : Int32} {l3 : Int32}, pX6_allNests_l4 S Sa n l2 l3 = some r → V cX6_allNests RX6 2 81 4 G Γ [(o, S), (oa, Sa)] 4 [(0, .ref (wA G o 0)), (1, .ref (wA G oa 0)), (2, .int l2), (3, .int l3)] [] := fun h => ih h hx
    clear ih
    unfold pX6_allNests_l4 at hf
    refine v_iload_n (pc := 4) 3 dX6_allNests_4 rfl ?_
    refine v_aload_n (pc := 5) 1 dX6_allNests_5 rfl ?_
    refine gf_RX6_71 (pc := 6) 1 rfl hk1 dX6_allNests_6 ?_
    refine v_icmp_ge (pc := 9) 32 dX6_allNests_9 (by decide) (fun c1 => ?_) (fun c1 => ?_)
    · replace hf := it_t c1 hf
      have hf2 := Option.some.inj hf; subst hf2
      exact V_sub [2] rfl hx
    · replace hf := it_f c1 hf
      refine v_aload_n (pc := 12) 0 dX6_allNests_12 rfl ?_
      refine v_iload_n (pc := 13) 3 dX6_allNests_13 rfl ?_
      replace hf := bd_some hf; obtain ⟨r2, h3, hf⟩ := hf
      refine V_call (pc := 14) (us1 := [_, _]) [0] 0 (kX6_isNest (o := o) hk0 h3) rfl rfl rfl rfl rfl hk0 (Nat.le_of_ble_eq_true rfl) rfl rfl rfl wm_RX6_88 md_X6_isNest (Nat.le_of_ble_eq_true rfl) (Nat.le_of_ble_eq_true rfl) rfl rfl (Nat.le_of_ble_eq_true rfl) dX6_allNests_14 ?_
      refine v_if_eq (pc := 17) 26 dX6_allNests_17 (by decide) (fun c4 => ?_) (fun c4 => ?_)
      · replace hf := it_t c4 hf
        refine v_iinc (pc := 26) 3 (l3 + (1 : Int32)) [(3, _), (0, _), (1, _), (2, _)] dX6_allNests_26 rfl (congrArg (fun z => _ + z) ci_1) (Nat.le_of_ble_eq_true rfl) rfl ?_
        refine v_goto (pc := 29) 4 dX6_allNests_29 (by decide) ?_
        exact V_sub [1, 2, 3, 0] rfl (hrec hf)
      · replace hf := it_f c4 hf
        refine v_iload_n (pc := 20) 2 dX6_allNests_20 rfl ?_
        refine v_iconst (pc := 21) (1 : Int32) dX6_allNests_21 ci_1 ?_
        refine v_iload_n (pc := 22) 3 dX6_allNests_22 rfl ?_
        refine v_ishl (pc := 23) dX6_allNests_23 ?_
        refine v_ior (pc := 24) dX6_allNests_24 ?_
        refine v_istore_n (pc := 25) [(2, _), (0, _), (1, _), (3, _)] dX6_allNests_25 (Nat.le_of_ble_eq_true rfl) rfl ?_
        refine v_iinc (pc := 26) 3 (l3 + (1 : Int32)) [(3, _), (2, _), (0, _), (1, _)] dX6_allNests_26 rfl (congrArg (fun z => _ + z) ci_1) (Nat.le_of_ble_eq_true rfl) rfl ?_
        refine v_goto (pc := 29) 4 dX6_allNests_29 (by decide) ?_
        exact V_sub [2, 3, 1, 0] rfl (hrec hf)
set_option maxRecDepth 20000 in
theorem kX6_allNests {G : Wc} {o oa : Nat} {S : Ob} {Sa : Ob}  {r : Int32} (hk0 : kd o = 6) (hk1 : kd oa = 4) (hf : pX6_allNests S Sa   = some r) : Cn yX6_allNests cX6_allNests 4 (some .int) 2 81 G [.ref (wA G o 0), .ref (wA G oa 0)] [(o, S), (oa, Sa)] [(o, S), (oa, Sa)] (some (.int r)) := by
  refine V_method [(0, .ref (wA G o 0)), (1, .ref (wA G oa 0))] (by decide) rfl (Nat.le_of_ble_eq_true rfl) rfl (fun Γ hF => ?_)
  unfold pX6_allNests at hf
  refine v_iconst (pc := 0) (0 : Int32) dX6_allNests_0 ci_0 ?_
  refine v_istore_n (pc := 1) [(2, _), (0, _), (1, _)] dX6_allNests_1 (Nat.le_of_ble_eq_true rfl) rfl ?_
  refine v_iconst (pc := 2) (0 : Int32) dX6_allNests_2 ci_0 ?_
  refine v_istore_n (pc := 3) [(3, _), (2, _), (0, _), (1, _)] dX6_allNests_3 (Nat.le_of_ble_eq_true rfl) rfl ?_
  replace hf := bd_some hf; obtain ⟨r5, h6, hf⟩ := hf
  refine V_sub [2, 3, 1, 0] rfl (wX6_allNests_l4 hk0 hk1 fu h6 ?_)
  refine v_iload_n (pc := 32) 0 dX6_allNests_32 rfl ?_
  have hf2 := Option.some.inj hf; subst hf2
  exact V_iret (pc := 33) hF dX6_allNests_33
set_option maxRecDepth 20000 in
theorem kX6_draw {G : Wc} {o : Nat} {S : Ob} {a : Int32} {r : Int32 × Ob} (hk0 : kd o = 6) (hf : pX6_draw S  a = some r) : Cn yX6_draw cX6_draw 2 (some .int) 1 60 G [.ref (wA G o 0), .int a] [(o, S)] [(o, r.2)] (some (.int r.1)) := by
  refine V_method [(0, .ref (wA G o 0)), (1, .int a)] (by decide) rfl (Nat.le_of_ble_eq_true rfl) rfl (fun Γ hF => ?_)
  unfold pX6_draw at hf
  refine v_aload_n (pc := 0) 0 dX6_draw_0 rfl ?_
  refine v_aload_n (pc := 1) 0 dX6_draw_1 rfl ?_
  refine gf_RX6_135 (pc := 2) 0 rfl hk0 dX6_draw_2 ?_
  refine v_ldc (pc := 5) dX6_draw_5 wc_RX6_161 ?_
  refine v_imul (pc := 7) dX6_draw_7 ?_
  refine v_sipush (pc := 8) (12345 : Int32) dX6_draw_8 cs_12345 ?_
  refine v_iadd (pc := 11) dX6_draw_11 ?_
  refine pf_RX6_135 (pc := 12) [_] 0 rfl hk0 rfl dX6_draw_12 ?_
  refine v_iload_n (pc := 15) 1 dX6_draw_15 rfl ?_
  refine v_iconst (pc := 16) (1 : Int32) dX6_draw_16 ci_1 ?_
  refine v_icmp_ge (pc := 17) 24 dX6_draw_17 (by decide) (fun c1 => ?_) (fun c1 => ?_)
  · replace hf := it_t c1 hf
    refine v_aload_n (pc := 24) 0 dX6_draw_24 rfl ?_
    refine gf_RX6_135 (pc := 25) 0 rfl hk0 dX6_draw_25 ?_
    refine v_bipush (pc := 28) (8 : Int32) dX6_draw_28 cb_8 ?_
    refine v_iushr (pc := 30) dX6_draw_30 ?_
    refine v_iload_n (pc := 31) 1 dX6_draw_31 rfl ?_
    replace hf := gd_some hf; obtain ⟨g2, hf⟩ := hf
    refine v_irem (pc := 32) dX6_draw_32 (of_decide_eq_true g2) ?_
    have hf2 := Option.some.inj hf; subst hf2
    exact V_iret (pc := 33) hF dX6_draw_33
  · replace hf := it_f c1 hf
    refine v_iconst (pc := 20) (0 : Int32) dX6_draw_20 ci_0 ?_
    refine v_goto (pc := 21) 33 dX6_draw_21 (by decide) ?_
    have hf2 := Option.some.inj hf; subst hf2
    exact V_iret (pc := 33) hF dX6_draw_33
set_option maxRecDepth 20000 in
theorem kX6_actAsDrawn {G : Wc} {o oa : Nat} {S : Ob} {Sa : Ob} {b : Int32} {r : Ob} (hk0 : kd o = 6) (hk1 : kd oa = 4) (hf : pX6_actAsDrawn S Sa  b = some r) : Cn yX6_actAsDrawn cX6_actAsDrawn 5 (none) 5 153 G [.ref (wA G o 0), .ref (wA G oa 0), .int b] [(o, S), (oa, Sa)] [(o, r), (oa, Sa)] none := by
  refine V_method [(0, .ref (wA G o 0)), (1, .ref (wA G oa 0)), (2, .int b)] (by decide) rfl (Nat.le_of_ble_eq_true rfl) rfl (fun Γ hF => ?_)
  unfold pX6_actAsDrawn at hf
  refine v_aload_n (pc := 0) 0 dX6_actAsDrawn_0 rfl ?_
  refine v_bipush (pc := 1) (6 : Int32) dX6_actAsDrawn_1 cb_6 ?_
  replace hf := bd_some hf; obtain ⟨r1, h2, hf⟩ := hf
  refine V_call (pc := 3) (us1 := [_, _]) [0] 0 (kX6_draw (o := o) hk0 h2) rfl rfl rfl rfl rfl hk0 (Nat.le_of_ble_eq_true rfl) rfl rfl rfl wm_RX6_142 md_X6_draw (Nat.le_of_ble_eq_true rfl) (Nat.le_of_ble_eq_true rfl) rfl rfl (Nat.le_of_ble_eq_true rfl) dX6_actAsDrawn_3 ?_
  refine v_istore_n (pc := 6) [(3, _), (0, _), (1, _), (2, _)] dX6_actAsDrawn_6 (Nat.le_of_ble_eq_true rfl) rfl ?_
  refine v_iload_n (pc := 7) 0 dX6_actAsDrawn_7 rfl ?_
  refine v_iconst (pc := 8) (1 : Int32) dX6_actAsDrawn_8 ci_1 ?_
  refine v_icmp_gt (pc := 9) 35 dX6_actAsDrawn_9 (by decide) (fun c3 => ?_) (fun c3 => ?_)
  · replace hf := it_t c3 hf
    refine v_iload_n (pc := 35) 0 dX6_actAsDrawn_35 rfl ?_
    refine v_iconst (pc := 36) (2 : Int32) dX6_actAsDrawn_36 ci_2 ?_
    refine v_icmp_ne (pc := 37) 72 dX6_actAsDrawn_37 (by decide) (fun c4 => ?_) (fun c4 => ?_)
    · replace hf := it_f c4 hf
      refine v_iload_n (pc := 72) 0 dX6_actAsDrawn_72 rfl ?_
      refine v_iconst (pc := 73) (3 : Int32) dX6_actAsDrawn_73 ci_3 ?_
      refine v_icmp_ne (pc := 74) 90 dX6_actAsDrawn_74 (by decide) (fun c5 => ?_) (fun c5 => ?_)
      · replace hf := it_f c5 hf
        have hf2 := Option.some.inj hf; subst hf2
        exact V_vret (pc := 90) hF dX6_actAsDrawn_90
      · replace hf := it_t c5 hf
        refine v_aload_n (pc := 77) 1 dX6_actAsDrawn_77 rfl ?_
        refine v_iload_n (pc := 78) 3 dX6_actAsDrawn_78 rfl ?_
        replace hf := bd_some hf; obtain ⟨r6, h7, hf⟩ := hf
        refine V_call (pc := 79) (us1 := [_, _]) [0] 0 (kX6_whyNoCut (o := o) hk0 h7) rfl rfl rfl rfl rfl hk0 (Nat.le_of_ble_eq_true rfl) rfl rfl rfl wm_RX6_155 md_X6_whyNoCut (Nat.le_of_ble_eq_true rfl) (Nat.le_of_ble_eq_true rfl) rfl rfl (Nat.le_of_ble_eq_true rfl) dX6_actAsDrawn_79 ?_
        refine v_if_ne (pc := 82) 90 dX6_actAsDrawn_82 (by decide) (fun c8 => ?_) (fun c8 => ?_)
        · replace hf := it_f c8 hf
          have hf2 := Option.some.inj hf; subst hf2
          exact V_vret (pc := 90) hF dX6_actAsDrawn_90
        · replace hf := it_t c8 hf
          refine v_aload_n (pc := 85) 1 dX6_actAsDrawn_85 rfl ?_
          refine v_iload_n (pc := 86) 3 dX6_actAsDrawn_86 rfl ?_
          replace hf := bd_some hf; obtain ⟨r9, h10, hf⟩ := hf
          refine V_call (pc := 87) (us1 := [_, _]) [0] 0 (kX6_cutOff (o := o) hk0 h10) rfl rfl rfl rfl rfl hk0 (Nat.le_of_ble_eq_true rfl) rfl rfl rfl wm_RX6_158 md_X6_cutOff (Nat.le_of_ble_eq_true rfl) (Nat.le_of_ble_eq_true rfl) rfl rfl (Nat.le_of_ble_eq_true rfl) dX6_actAsDrawn_87 ?_
          have hf2 := Option.some.inj hf; subst hf2
          exact V_vret (pc := 90) hF dX6_actAsDrawn_90
    · replace hf := it_t c4 hf
      refine v_aload_n (pc := 40) 1 dX6_actAsDrawn_40 rfl ?_
      refine v_bipush (pc := 41) (20 : Int32) dX6_actAsDrawn_41 cb_20 ?_
      replace hf := bd_some hf; obtain ⟨r11, h12, hf⟩ := hf
      refine V_call (pc := 43) (us1 := [_, _]) [0] 0 (kX6_draw (o := o) hk0 h12) rfl rfl rfl rfl rfl hk0 (Nat.le_of_ble_eq_true rfl) rfl rfl rfl wm_RX6_142 md_X6_draw (Nat.le_of_ble_eq_true rfl) (Nat.le_of_ble_eq_true rfl) rfl rfl (Nat.le_of_ble_eq_true rfl) dX6_actAsDrawn_43 ?_
      refine v_iconst (pc := 46) (1 : Int32) dX6_actAsDrawn_46 ci_1 ?_
      refine v_iadd (pc := 47) dX6_actAsDrawn_47 ?_
      refine v_istore (pc := 48) [(4, _), (3, _), (0, _), (1, _), (2, _)] dX6_actAsDrawn_48 (Nat.le_of_ble_eq_true rfl) rfl ?_
      refine v_aload_n (pc := 50) 2 dX6_actAsDrawn_50 rfl ?_
      refine v_aload_n (pc := 51) 3 dX6_actAsDrawn_51 rfl ?_
      refine v_iload_n (pc := 52) 4 dX6_actAsDrawn_52 rfl ?_
      refine v_iload (pc := 53) 0 dX6_actAsDrawn_53 rfl ?_
      replace hf := bd_some hf; obtain ⟨r13, h14, hf⟩ := hf
      refine V_call (pc := 55) (us1 := [_, _]) [0, 1] 0 (kX6_whyNoStroke (o := o) (oa := oa) hk0 hk1 h14) rfl rfl rfl rfl rfl hk0 (Nat.le_of_ble_eq_true rfl) rfl rfl rfl wm_RX6_149 md_X6_whyNoStroke (Nat.le_of_ble_eq_true rfl) (Nat.le_of_ble_eq_true rfl) rfl rfl (Nat.le_of_ble_eq_true rfl) dX6_actAsDrawn_55 ?_
      refine v_if_ne (pc := 58) 69 dX6_actAsDrawn_58 (by decide) (fun c15 => ?_) (fun c15 => ?_)
      · replace hf := it_f c15 hf
        refine v_goto (pc := 69) 90 dX6_actAsDrawn_69 (by decide) ?_
        have hf2 := Option.some.inj hf; subst hf2
        exact V_vret (pc := 90) hF dX6_actAsDrawn_90
      · replace hf := it_t c15 hf
        refine v_aload_n (pc := 61) 2 dX6_actAsDrawn_61 rfl ?_
        refine v_aload_n (pc := 62) 3 dX6_actAsDrawn_62 rfl ?_
        refine v_iload_n (pc := 63) 4 dX6_actAsDrawn_63 rfl ?_
        refine v_iload (pc := 64) 0 dX6_actAsDrawn_64 rfl ?_
        replace hf := bd_some hf; obtain ⟨r16, h17, hf⟩ := hf
        refine V_call (pc := 66) (us1 := [_, _]) [0, 1] 0 (kX6_comb (o := o) (oa := oa) hk0 hk1 h17) rfl rfl rfl rfl rfl hk0 (Nat.le_of_ble_eq_true rfl) rfl rfl rfl wm_RX6_152 md_X6_comb (Nat.le_of_ble_eq_true rfl) (Nat.le_of_ble_eq_true rfl) rfl rfl (Nat.le_of_ble_eq_true rfl) dX6_actAsDrawn_66 ?_
        refine v_goto (pc := 69) 90 dX6_actAsDrawn_69 (by decide) ?_
        have hf2 := Option.some.inj hf; subst hf2
        exact V_vret (pc := 90) hF dX6_actAsDrawn_90
  · replace hf := it_f c3 hf
    refine v_aload_n (pc := 12) 2 dX6_actAsDrawn_12 rfl ?_
    refine gf_RX6_146 (pc := 13) 1 rfl hk1 dX6_actAsDrawn_13 ?_
    refine v_if_le (pc := 16) 90 dX6_actAsDrawn_16 (by decide) (fun c18 => ?_) (fun c18 => ?_)
    · replace hf := it_t c18 hf
      have hf2 := Option.some.inj hf; subst hf2
      exact V_vret (pc := 90) hF dX6_actAsDrawn_90
    · replace hf := it_f c18 hf
      refine v_aload_n (pc := 19) 1 dX6_actAsDrawn_19 rfl ?_
      refine v_iload_n (pc := 20) 3 dX6_actAsDrawn_20 rfl ?_
      refine v_aload_n (pc := 21) 1 dX6_actAsDrawn_21 rfl ?_
      refine v_aload_n (pc := 22) 2 dX6_actAsDrawn_22 rfl ?_
      refine gf_RX6_146 (pc := 23) 1 rfl hk1 dX6_actAsDrawn_23 ?_
      replace hf := bd_some hf; obtain ⟨r19, h20, hf⟩ := hf
      refine V_call (pc := 26) (us1 := [_, _]) [0] 0 (kX6_draw (o := o) hk0 h20) rfl rfl rfl rfl rfl hk0 (Nat.le_of_ble_eq_true rfl) rfl rfl rfl wm_RX6_142 md_X6_draw (Nat.le_of_ble_eq_true rfl) (Nat.le_of_ble_eq_true rfl) rfl rfl (Nat.le_of_ble_eq_true rfl) dX6_actAsDrawn_26 ?_
      replace hf := bd_some hf; obtain ⟨r21, h22, hf⟩ := hf
      refine V_call (pc := 29) (us1 := [_, _]) [0] 0 (kX6_catchThing (o := o) hk0 h22) rfl rfl rfl rfl rfl hk0 (Nat.le_of_ble_eq_true rfl) rfl rfl rfl wm_RX6_131 md_X6_catchThing (Nat.le_of_ble_eq_true rfl) (Nat.le_of_ble_eq_true rfl) rfl rfl (Nat.le_of_ble_eq_true rfl) dX6_actAsDrawn_29 ?_
      refine v_goto (pc := 32) 90 dX6_actAsDrawn_32 (by decide) ?_
      have hf2 := Option.some.inj hf; subst hf2
      exact V_vret (pc := 90) hF dX6_actAsDrawn_90
set_option maxRecDepth 20000 in
theorem wX6_letDrawnDaysGo_l17 {G : Wc} {Γ : Cx} {o oa : Nat} {Sa : Ob} {l2 : Int32} {l4 : Int32} (hk0 : kd o = 6) (hk1 : kd oa = 4) : ∀ (n : Nat) {l5 : Int32} {S : Ob} {r : Ob}, pX6_letDrawnDaysGo_l17 Sa l2 l4 n l5 S = some r → V cX6_letDrawnDaysGo RX6 6 177 6 G Γ [(o, r), (oa, Sa)] 39 [(0, .ref (wA G o 0)), (1, .ref (wA G oa 0)), (2, .int l2), (4, .int l4)] [] → V cX6_letDrawnDaysGo RX6 6 177 6 G Γ [(o, S), (oa, Sa)] 17 [(0, .ref (wA G o 0)), (1, .ref (wA G oa 0)), (2, .int l2), (4, .int l4), (5, .int l5)] [] := by
  intro n
  induction n with
  | zero => intro l5 S r hf hx; unfold pX6_letDrawnDaysGo_l17 at hf; cases hf
  | succ n ih =>
    intro l5 S r hf hx
    have hrec : ∀ {l5 : Int32} {S : Ob}, pX6_letDrawnDaysGo_l17 Sa l2 l4 n l5 S = some r → V cX6_letDrawnDaysGo RX6 6 177 6 G Γ [(o, S), (oa, Sa)] 17 [(0, .ref (wA G o 0)), (1, .ref (wA G oa 0)), (2, .int l2), (4, .int l4), (5, .int l5)] [] := fun h => ih h hx
    clear ih
    unfold pX6_letDrawnDaysGo_l17 at hf
    refine v_iload (pc := 17) 4 dX6_letDrawnDaysGo_17 rfl ?_
    refine v_aload_n (pc := 19) 1 dX6_letDrawnDaysGo_19 rfl ?_
    refine gf_RX6_71 (pc := 20) 1 rfl hk1 dX6_letDrawnDaysGo_20 ?_
    refine v_icmp_ge (pc := 23) 39 dX6_letDrawnDaysGo_23 (by decide) (fun c2 => ?_) (fun c2 => ?_)
    · replace hf := it_t c2 hf
      have hf2 := Option.some.inj hf; subst hf2
      exact V_sub [0, 1, 2, 3] rfl hx
    · replace hf := it_f c2 hf
      refine v_aload_n (pc := 26) 0 dX6_letDrawnDaysGo_26 rfl ?_
      refine v_aload_n (pc := 27) 1 dX6_letDrawnDaysGo_27 rfl ?_
      refine v_iload (pc := 28) 4 dX6_letDrawnDaysGo_28 rfl ?_
      replace hf := bd_some hf; obtain ⟨r3, h4, hf⟩ := hf
      refine V_call (pc := 30) (us1 := [_, _]) [0, 1] 0 (kX6_actAsDrawn (o := o) (oa := oa) hk0 hk1 h4) rfl rfl rfl rfl rfl hk0 (Nat.le_of_ble_eq_true rfl) rfl rfl rfl wm_RX6_138 md_X6_actAsDrawn (Nat.le_of_ble_eq_true rfl) (Nat.le_of_ble_eq_true rfl) rfl rfl (Nat.le_of_ble_eq_true rfl) dX6_letDrawnDaysGo_30 ?_
      refine v_iinc (pc := 33) 4 (l5 + (1 : Int32)) [(5, _), (0, _), (1, _), (2, _), (4, _)] dX6_letDrawnDaysGo_33 rfl (congrArg (fun z => _ + z) ci_1) (Nat.le_of_ble_eq_true rfl) rfl ?_
      refine v_goto (pc := 36) 17 dX6_letDrawnDaysGo_36 (by decide) ?_
      exact V_sub [1, 2, 3, 4, 0] rfl (hrec hf)
set_option maxRecDepth 20000 in
theorem wX6_letDrawnDaysGo_l8 {G : Wc} {Γ : Cx} {o oa : Nat} {Sa : Ob} {l2 : Int32} (hk0 : kd o = 6) (hk1 : kd oa = 4) : ∀ (n : Nat) {l4 : Int32} {S : Ob} {r : Ob}, pX6_letDrawnDaysGo_l8 Sa l2 n l4 S = some r → V cX6_letDrawnDaysGo RX6 6 177 6 G Γ [(o, r), (oa, Sa)] 50 [] [] → V cX6_letDrawnDaysGo RX6 6 177 6 G Γ [(o, S), (oa, Sa)] 8 [(0, .ref (wA G o 0)), (1, .ref (wA G oa 0)), (2, .int l2), (4, .int l4)] [] := by
  intro n
  induction n with
  | zero => intro l4 S r hf hx; unfold pX6_letDrawnDaysGo_l8 at hf; cases hf
  | succ n ih =>
    intro l4 S r hf hx
    have hrec : ∀ {l4 : Int32} {S : Ob}, pX6_letDrawnDaysGo_l8 Sa l2 n l4 S = some r → V cX6_letDrawnDaysGo RX6 6 177 6 G Γ [(o, S), (oa, Sa)] 8 [(0, .ref (wA G o 0)), (1, .ref (wA G oa 0)), (2, .int l2), (4, .int l4)] [] := fun h => ih h hx
    clear ih
    unfold pX6_letDrawnDaysGo_l8 at hf
    refine v_iload (pc := 8) 3 dX6_letDrawnDaysGo_8 rfl ?_
    refine v_iload_n (pc := 10) 2 dX6_letDrawnDaysGo_10 rfl ?_
    refine v_icmp_ge (pc := 11) 50 dX6_letDrawnDaysGo_11 (by decide) (fun c1 => ?_) (fun c1 => ?_)
    · replace hf := it_t c1 hf
      have hf2 := Option.some.inj hf; subst hf2
      exact V_sub [] rfl hx
    · replace hf := it_f c1 hf
      refine v_iconst (pc := 14) (0 : Int32) dX6_letDrawnDaysGo_14 ci_0 ?_
      refine v_istore (pc := 15) [(5, _), (0, _), (1, _), (2, _), (4, _)] dX6_letDrawnDaysGo_15 (Nat.le_of_ble_eq_true rfl) rfl ?_
      replace hf := bd_some hf; obtain ⟨r5, h6, hf⟩ := hf
      refine V_sub [1, 2, 3, 4, 0] rfl (wX6_letDrawnDaysGo_l17 hk0 hk1 fu h6 ?_)
      refine v_aload_n (pc := 39) 0 dX6_letDrawnDaysGo_39 rfl ?_
      refine v_aload_n (pc := 40) 1 dX6_letDrawnDaysGo_40 rfl ?_
      replace hf := bd_some hf; obtain ⟨r7, h8, hf⟩ := hf
      refine V_call (pc := 41) (us1 := [_, _]) [0, 1] 0 (kX6_letOneDayGo (o := o) (oa := oa) hk0 hk1 h8) rfl rfl rfl rfl rfl hk0 (Nat.le_of_ble_eq_true rfl) rfl rfl rfl wm_RX6_115 md_X6_letOneDayGo (Nat.le_of_ble_eq_true rfl) (Nat.le_of_ble_eq_true rfl) rfl rfl (Nat.le_of_ble_eq_true rfl) dX6_letDrawnDaysGo_41 ?_
      refine v_iinc (pc := 44) 3 (l4 + (1 : Int32)) [(4, _), (0, _), (1, _), (2, _)] dX6_letDrawnDaysGo_44 rfl (congrArg (fun z => _ + z) ci_1) (Nat.le_of_ble_eq_true rfl) rfl ?_
      refine v_goto (pc := 47) 8 dX6_letDrawnDaysGo_47 (by decide) ?_
      exact V_sub [1, 2, 3, 0] rfl (hrec hf)
set_option maxRecDepth 20000 in
theorem kX6_letDrawnDaysGo {G : Wc} {o oa : Nat} {S : Ob} {Sa : Ob} {b : Int32} {c : Int32} {r : Ob} (hk0 : kd o = 6) (hk1 : kd oa = 4) (hf : pX6_letDrawnDaysGo S Sa  b c = some r) : Cn yX6_letDrawnDaysGo cX6_letDrawnDaysGo 6 (none) 6 177 G [.ref (wA G o 0), .ref (wA G oa 0), .int b, .int c] [(o, S), (oa, Sa)] [(o, r), (oa, Sa)] none := by
  refine V_method [(0, .ref (wA G o 0)), (1, .ref (wA G oa 0)), (2, .int b), (3, .int c)] (by decide) rfl (Nat.le_of_ble_eq_true rfl) rfl (fun Γ hF => ?_)
  unfold pX6_letDrawnDaysGo at hf
  refine v_aload_n (pc := 0) 0 dX6_letDrawnDaysGo_0 rfl ?_
  refine v_iload_n (pc := 1) 3 dX6_letDrawnDaysGo_1 rfl ?_
  refine pf_RX6_135 (pc := 2) [_, _] 0 rfl hk0 rfl dX6_letDrawnDaysGo_2 ?_
  refine v_iconst (pc := 5) (0 : Int32) dX6_letDrawnDaysGo_5 ci_0 ?_
  refine v_istore (pc := 6) [(4, _), (0, _), (1, _), (2, _), (3, _)] dX6_letDrawnDaysGo_6 (Nat.le_of_ble_eq_true rfl) rfl ?_
  replace hf := bd_some hf; obtain ⟨r9, h10, hf⟩ := hf
  refine V_sub [1, 2, 3, 0] rfl (wX6_letDrawnDaysGo_l8 hk0 hk1 fu h10 ?_)
  have hf2 := Option.some.inj hf; subst hf2
  exact V_vret (pc := 50) hF dX6_letDrawnDaysGo_50
set_option maxRecDepth 20000 in
theorem kX7_put {G : Wc} {o : Nat} {S : Ob} {a : Int32} {r : Ob} (hk0 : kd o = 7) (hf : pX7_put S  a = some r) : Cn yX7_put cX7_put 2 (none) 1 60 G [.ref (wA G o 0), .int a] [(o, S)] [(o, r)] none := by
  refine V_method [(0, .ref (wA G o 0)), (1, .int a)] (by decide) rfl (Nat.le_of_ble_eq_true rfl) rfl (fun Γ hF => ?_)
  unfold pX7_put at hf
  refine v_aload_n (pc := 0) 0 dX7_put_0 rfl ?_
  refine gf_RX7_17 (pc := 1) 0 rfl hk0 dX7_put_1 ?_
  refine v_bipush (pc := 4) (79 : Int32) dX7_put_4 cb_79 ?_
  refine v_icmp_ge (pc := 6) 29 dX7_put_6 (by decide) (fun c1 => ?_) (fun c1 => ?_)
  · replace hf := it_t c1 hf
    have hf2 := Option.some.inj hf; subst hf2
    exact V_vret (pc := 29) hF dX7_put_29
  · replace hf := it_f c1 hf
    refine v_aload_n (pc := 9) 0 dX7_put_9 rfl ?_
    refine gf_RX7_13 (pc := 10) 0 rfl hk0 dX7_put_10 ?_
    refine v_aload_n (pc := 13) 0 dX7_put_13 rfl ?_
    refine gf_RX7_17 (pc := 14) 0 rfl hk0 dX7_put_14 ?_
    refine v_iload_n (pc := 17) 1 dX7_put_17 rfl ?_
    replace hf := gd_some hf; obtain ⟨g2, hf⟩ := hf
    refine as_X7_0 (pc := 18) [_] _ 0 rfl hk0 rfl g2 rfl dX7_put_18 ?_
    refine v_aload_n (pc := 19) 0 dX7_put_19 rfl ?_
    refine v_dup (pc := 20) dX7_put_20 rfl ?_
    refine gf_RX7_17 (pc := 21) 0 rfl hk0 dX7_put_21 ?_
    refine v_iconst (pc := 24) (1 : Int32) dX7_put_24 ci_1 ?_
    refine v_iadd (pc := 25) dX7_put_25 ?_
    refine pf_RX7_17 (pc := 26) [_] 0 rfl hk0 rfl dX7_put_26 ?_
    have hf2 := Option.some.inj hf; subst hf2
    exact V_vret (pc := 29) hF dX7_put_29
set_option maxRecDepth 20000 in
theorem wX7_putName_l3 {G : Wc} {Γ : Cx} {o : Nat} {l1 : Int64} (hk0 : kd o = 7) : ∀ (n : Nat) {l3 : Int32} {S : Ob} {r : Ob}, pX7_putName_l3 l1 n l3 S = some r → V cX7_putName RX7 2 81 5 G Γ [(o, r)] 34 [] [] → V cX7_putName RX7 2 81 5 G Γ [(o, S)] 3 [(0, .ref (wA G o 0)), (1, .long l1), (3, .int l3)] [] := by
  intro n
  induction n with
  | zero => intro l3 S r hf hx; unfold pX7_putName_l3 at hf; cases hf
  | succ n ih =>
    intro l3 S r hf hx
    have hrec : ∀ {l3 : Int32} {S : Ob}, pX7_putName_l3 l1 n l3 S = some r → V cX7_putName RX7 2 81 5 G Γ [(o, S)] 3 [(0, .ref (wA G o 0)), (1, .long l1), (3, .int l3)] [] := fun h => ih h hx
    clear ih
    unfold pX7_putName_l3 at hf
    refine v_iload_n (pc := 3) 2 dX7_putName_3 rfl ?_
    refine v_if_lt (pc := 4) 34 dX7_putName_4 (by decide) (fun c1 => ?_) (fun c1 => ?_)
    · replace hf := it_t c1 hf
      have hf2 := Option.some.inj hf; subst hf2
      exact V_sub [] rfl hx
    · replace hf := it_f c1 hf
      refine v_lload_n (pc := 7) 1 dX7_putName_7 rfl ?_
      refine v_iload_n (pc := 8) 2 dX7_putName_8 rfl ?_
      refine v_lushr (pc := 9) dX7_putName_9 ?_
      refine v_ldc2_w (pc := 10) dX7_putName_10 wc_RX7_61 ?_
      refine v_land (pc := 13) dX7_putName_13 ?_
      refine v_l2i (pc := 14) dX7_putName_14 ?_
      refine v_istore (pc := 15) [(4, _), (0, _), (1, _), (3, _)] dX7_putName_15 (Nat.le_of_ble_eq_true rfl) rfl ?_
      refine v_iload (pc := 17) 0 dX7_putName_17 rfl ?_
      refine v_if_eq (pc := 19) 28 dX7_putName_19 (by decide) (fun c2 => ?_) (fun c2 => ?_)
      · replace hf := it_t c2 hf
        refine v_iinc (pc := 28) 3 (l3 + (-8 : Int32)) [(3, _), (4, _), (0, _), (1, _)] dX7_putName_28 rfl (congrArg (fun z => _ + z) ci_m8) (Nat.le_of_ble_eq_true rfl) rfl ?_
        refine v_goto (pc := 31) 3 dX7_putName_31 (by decide) ?_
        exact V_sub [2, 3, 0] rfl (hrec hf)
      · replace hf := it_f c2 hf
        refine v_aload_n (pc := 22) 1 dX7_putName_22 rfl ?_
        refine v_iload (pc := 23) 0 dX7_putName_23 rfl ?_
        replace hf := bd_some hf; obtain ⟨r3, h4, hf⟩ := hf
        refine V_call (pc := 25) (us1 := [_]) [0] 0 (kX7_put (o := o) hk0 h4) rfl rfl rfl rfl rfl hk0 (Nat.le_of_ble_eq_true rfl) rfl rfl rfl wm_RX7_36 md_X7_put (Nat.le_of_ble_eq_true rfl) (Nat.le_of_ble_eq_true rfl) rfl rfl (Nat.le_of_ble_eq_true rfl) dX7_putName_25 ?_
        refine v_iinc (pc := 28) 3 (l3 + (-8 : Int32)) [(3, _), (4, _), (0, _), (1, _)] dX7_putName_28 rfl (congrArg (fun z => _ + z) ci_m8) (Nat.le_of_ble_eq_true rfl) rfl ?_
        refine v_goto (pc := 31) 3 dX7_putName_31 (by decide) ?_
        exact V_sub [2, 3, 0] rfl (hrec hf)
set_option maxRecDepth 20000 in
theorem kX7_putName {G : Wc} {o : Nat} {S : Ob} {a : Int64} {r : Ob} (hk0 : kd o = 7) (hf : pX7_putName S  a = some r) : Cn yX7_putName cX7_putName 5 (none) 2 81 G [.ref (wA G o 0), .long a] [(o, S)] [(o, r)] none := by
  refine V_method [(0, .ref (wA G o 0)), (1, .long a)] (by decide) rfl (Nat.le_of_ble_eq_true rfl) rfl (fun Γ hF => ?_)
  unfold pX7_putName at hf
  refine v_bipush (pc := 0) (48 : Int32) dX7_putName_0 cb_48 ?_
  refine v_istore_n (pc := 2) [(3, _), (0, _), (1, _)] dX7_putName_2 (Nat.le_of_ble_eq_true rfl) rfl ?_
  replace hf := bd_some hf; obtain ⟨r5, h6, hf⟩ := hf
  refine V_sub [1, 2, 0] rfl (wX7_putName_l3 hk0 fu h6 ?_)
  have hf2 := Option.some.inj hf; subst hf2
  exact V_vret (pc := 34) hF dX7_putName_34
set_option maxRecDepth 20000 in
theorem kX7_putKnot {G : Wc} {o oa : Nat} {S : Ob} {Sa : Ob} {b : Int32} {c : Int32} {r : Ob} (hk0 : kd o = 7) (hk1 : kd oa = 4) (hf : pX7_putKnot S Sa  b c = some r) : Cn yX7_putKnot cX7_putKnot 4 (none) 3 105 G [.ref (wA G o 0), .ref (wA G oa 0), .int b, .int c] [(o, S), (oa, Sa)] [(o, r), (oa, Sa)] none := by
  refine V_method [(0, .ref (wA G o 0)), (1, .ref (wA G oa 0)), (2, .int b), (3, .int c)] (by decide) rfl (Nat.le_of_ble_eq_true rfl) rfl (fun Γ hF => ?_)
  unfold pX7_putKnot at hf
  refine v_iload_n (pc := 0) 2 dX7_putKnot_0 rfl ?_
  refine v_if_lt (pc := 1) 10 dX7_putKnot_1 (by decide) (fun c1 => ?_) (fun c1 => ?_)
  · replace hf := it_t c1 hf
    have hf2 := Option.some.inj hf; subst hf2
    exact V_vret (pc := 10) hF dX7_putKnot_10
  · replace hf := it_f c1 hf
    refine v_iload_n (pc := 4) 2 dX7_putKnot_4 rfl ?_
    refine v_bipush (pc := 5) (8 : Int32) dX7_putKnot_5 cb_8 ?_
    refine v_icmp_lt (pc := 7) 11 dX7_putKnot_7 (by decide) (fun c2 => ?_) (fun c2 => ?_)
    · replace hf := it_t c2 hf
      refine v_aload_n (pc := 11) 0 dX7_putKnot_11 rfl ?_
      refine v_bipush (pc := 12) (32 : Int32) dX7_putKnot_12 cb_32 ?_
      replace hf := bd_some hf; obtain ⟨r3, h4, hf⟩ := hf
      refine V_call (pc := 14) (us1 := [_, _]) [0] 0 (kX7_put (o := o) hk0 h4) rfl rfl rfl rfl rfl hk0 (Nat.le_of_ble_eq_true rfl) rfl rfl rfl wm_RX7_36 md_X7_put (Nat.le_of_ble_eq_true rfl) (Nat.le_of_ble_eq_true rfl) rfl rfl (Nat.le_of_ble_eq_true rfl) dX7_putKnot_14 ?_
      refine v_aload_n (pc := 17) 0 dX7_putKnot_17 rfl ?_
      refine v_aload_n (pc := 18) 1 dX7_putKnot_18 rfl ?_
      refine gf_RX7_58 (pc := 19) 1 rfl hk1 dX7_putKnot_19 ?_
      refine v_iload_n (pc := 22) 2 dX7_putKnot_22 rfl ?_
      replace hf := gd_some hf; obtain ⟨g5, hf⟩ := hf
      refine al_X4_1 (pc := 23) _ 1 rfl hk1 rfl g5 dX7_putKnot_23 ?_
      replace hf := bd_some hf; obtain ⟨r6, h7, hf⟩ := hf
      refine V_call (pc := 24) (us1 := [_, _]) [0] 0 (kX7_putName (o := o) hk0 h7) rfl rfl rfl rfl rfl hk0 (Nat.le_of_ble_eq_true rfl) rfl rfl rfl wm_RX7_27 md_X7_putName (Nat.le_of_ble_eq_true rfl) (Nat.le_of_ble_eq_true rfl) rfl rfl (Nat.le_of_ble_eq_true rfl) dX7_putKnot_24 ?_
      refine v_iload_n (pc := 27) 3 dX7_putKnot_27 rfl ?_
      refine v_iconst (pc := 28) (1 : Int32) dX7_putKnot_28 ci_1 ?_
      refine v_icmp_le (pc := 29) 40 dX7_putKnot_29 (by decide) (fun c8 => ?_) (fun c8 => ?_)
      · replace hf := it_t c8 hf
        have hf2 := Option.some.inj hf; subst hf2
        exact V_vret (pc := 40) hF dX7_putKnot_40
      · replace hf := it_f c8 hf
        refine v_aload_n (pc := 32) 0 dX7_putKnot_32 rfl ?_
        refine v_bipush (pc := 33) (48 : Int32) dX7_putKnot_33 cb_48 ?_
        refine v_iload_n (pc := 35) 3 dX7_putKnot_35 rfl ?_
        refine v_iadd (pc := 36) dX7_putKnot_36 ?_
        replace hf := bd_some hf; obtain ⟨r9, h10, hf⟩ := hf
        refine V_call (pc := 37) (us1 := [_, _]) [0] 0 (kX7_put (o := o) hk0 h10) rfl rfl rfl rfl rfl hk0 (Nat.le_of_ble_eq_true rfl) rfl rfl rfl wm_RX7_36 md_X7_put (Nat.le_of_ble_eq_true rfl) (Nat.le_of_ble_eq_true rfl) rfl rfl (Nat.le_of_ble_eq_true rfl) dX7_putKnot_37 ?_
        have hf2 := Option.some.inj hf; subst hf2
        exact V_vret (pc := 40) hF dX7_putKnot_40
    · replace hf := it_f c2 hf
      have hf2 := Option.some.inj hf; subst hf2
      exact V_vret (pc := 10) hF dX7_putKnot_10
set_option maxRecDepth 20000 in
theorem wX7_write_l46 {G : Wc} {Γ : Cx} {o oa ob : Nat} {Sa : Ob} {Sb : Ob} {l3 : Int32} (hk0 : kd o = 7) (hk1 : kd oa = 4) (hk2 : kd ob = 6) : ∀ (n : Nat) {l4 : Int32} {l5 : Int32} {S : Ob} {r : Ob}, pX7_write_l46 Sa Sb l3 n l4 l5 S = some r → V cX7_write RX7 4 128 7 G Γ [(o, r), (oa, Sa), (ob, Sb)] 101 [] [] → V cX7_write RX7 4 128 7 G Γ [(o, S), (oa, Sa), (ob, Sb)] 46 [(0, .ref (wA G o 0)), (1, .ref (wA G oa 0)), (2, .ref (wA G ob 0)), (3, .int l3), (4, .int l4), (5, .int l5)] [] := by
  intro n
  induction n with
  | zero => intro l4 l5 S r hf hx; unfold pX7_write_l46 at hf; cases hf
  | succ n ih =>
    intro l4 l5 S r hf hx
    have hrec : ∀ {l4 : Int32} {l5 : Int32} {S : Ob}, pX7_write_l46 Sa Sb l3 n l4 l5 S = some r → V cX7_write RX7 4 128 7 G Γ [(o, S), (oa, Sa), (ob, Sb)] 46 [(0, .ref (wA G o 0)), (1, .ref (wA G oa 0)), (2, .ref (wA G ob 0)), (3, .int l3), (4, .int l4), (5, .int l5)] [] := fun h => ih h hx
    clear ih
    unfold pX7_write_l46 at hf
    refine v_iload (pc := 46) 5 dX7_write_46 rfl ?_
    refine v_aload_n (pc := 48) 2 dX7_write_48 rfl ?_
    refine gf_RX7_31 (pc := 49) 2 rfl hk2 dX7_write_49 ?_
    refine v_iload_n (pc := 52) 3 dX7_write_52 rfl ?_
    replace hf := gd_some hf; obtain ⟨g6, hf⟩ := hf
    refine al_X6_1 (pc := 53) _ 2 rfl hk2 rfl g6 dX7_write_53 ?_
    refine v_icmp_ge (pc := 54) 101 dX7_write_54 (by decide) (fun c7 => ?_) (fun c7 => ?_)
    · replace hf := it_t c7 hf
      have hf2 := Option.some.inj hf; subst hf2
      exact V_sub [] rfl hx
    · replace hf := it_f c7 hf
      refine v_aload_n (pc := 57) 2 dX7_write_57 rfl ?_
      refine v_iload_n (pc := 58) 3 dX7_write_58 rfl ?_
      refine v_iload (pc := 59) 5 dX7_write_59 rfl ?_
      replace hf := bd_some hf; obtain ⟨r8, h9, hf⟩ := hf
      refine V_call (pc := 61) (us1 := [_, _, _]) [2] 2 (kX6_layerAt (o := ob) hk2 h9) rfl rfl rfl rfl rfl hk2 (Nat.le_of_ble_eq_true rfl) rfl rfl rfl wm_RX7_50 md_X6_layerAt (Nat.le_of_ble_eq_true rfl) (Nat.le_of_ble_eq_true rfl) rfl rfl (Nat.le_of_ble_eq_true rfl) dX7_write_61 ?_
      refine v_istore (pc := 64) [(6, _), (0, _), (1, _), (2, _), (3, _), (4, _), (5, _)] dX7_write_64 (Nat.le_of_ble_eq_true rfl) rfl ?_
      refine v_iinc (pc := 66) 5 (l4 + (1 : Int32)) [(4, _), (6, _), (0, _), (1, _), (2, _), (3, _), (5, _)] dX7_write_66 rfl (congrArg (fun z => _ + z) ci_1) (Nat.le_of_ble_eq_true rfl) rfl ?_
      refine v_iload (pc := 69) 1 dX7_write_69 rfl ?_
      refine v_aload_n (pc := 71) 4 dX7_write_71 rfl ?_
      refine v_iload_n (pc := 72) 5 dX7_write_72 rfl ?_
      refine v_iload (pc := 73) 6 dX7_write_73 rfl ?_
      refine v_iconst (pc := 75) (1 : Int32) dX7_write_75 ci_1 ?_
      refine v_iadd (pc := 76) dX7_write_76 ?_
      replace hf := bd_some hf; obtain ⟨r10, h11, hf⟩ := hf
      refine V_call (pc := 77) (us1 := [_, _, _]) [2] 2 (kX6_layerAt (o := ob) hk2 h11) rfl rfl rfl rfl rfl hk2 (Nat.le_of_ble_eq_true rfl) rfl rfl rfl wm_RX7_50 md_X6_layerAt (Nat.le_of_ble_eq_true rfl) (Nat.le_of_ble_eq_true rfl) rfl rfl (Nat.le_of_ble_eq_true rfl) dX7_write_77 ?_
      refine v_icmp_eq (pc := 80) 95 dX7_write_80 (by decide) (fun c12 => ?_) (fun c12 => ?_)
      · replace hf := it_t c12 hf
        refine v_iinc (pc := 95) 6 (l5 + (1 : Int32)) [(5, _), (4, _), (6, _), (0, _), (1, _), (2, _), (3, _)] dX7_write_95 rfl (congrArg (fun z => _ + z) ci_1) (Nat.le_of_ble_eq_true rfl) rfl ?_
        refine v_goto (pc := 98) 46 dX7_write_98 (by decide) ?_
        exact V_sub [3, 4, 5, 6, 1, 0] rfl (hrec hf)
      · replace hf := it_f c12 hf
        refine v_aload_n (pc := 83) 2 dX7_write_83 rfl ?_
        refine v_aload_n (pc := 84) 3 dX7_write_84 rfl ?_
        refine v_iload (pc := 85) 1 dX7_write_85 rfl ?_
        refine v_iload (pc := 87) 0 dX7_write_87 rfl ?_
        replace hf := bd_some hf; obtain ⟨r13, h14, hf⟩ := hf
        refine V_call (pc := 89) (us1 := [_, _, _]) [0, 1] 0 (kX7_putKnot (o := o) (oa := oa) hk0 hk1 h14) rfl rfl rfl rfl rfl hk0 (Nat.le_of_ble_eq_true rfl) rfl rfl rfl wm_RX7_54 md_X7_putKnot (Nat.le_of_ble_eq_true rfl) (Nat.le_of_ble_eq_true rfl) rfl rfl (Nat.le_of_ble_eq_true rfl) dX7_write_89 ?_
        refine v_iconst (pc := 92) (0 : Int32) dX7_write_92 ci_0 ?_
        refine v_istore (pc := 93) [(4, _), (6, _), (0, _), (1, _), (2, _), (3, _), (5, _)] dX7_write_93 (Nat.le_of_ble_eq_true rfl) rfl ?_
        refine v_iinc (pc := 95) 6 (l5 + (1 : Int32)) [(5, _), (4, _), (6, _), (0, _), (1, _), (2, _), (3, _)] dX7_write_95 rfl (congrArg (fun z => _ + z) ci_1) (Nat.le_of_ble_eq_true rfl) rfl ?_
        refine v_goto (pc := 98) 46 dX7_write_98 (by decide) ?_
        exact V_sub [3, 4, 5, 6, 1, 0] rfl (hrec hf)
set_option maxRecDepth 20000 in
theorem wX7_write_j40 {G : Wc} {Γ : Cx} {o oa ob : Nat} {S : Ob} {Sa : Ob} {Sb : Ob} {l3 : Int32} {r : Ob} (hk0 : kd o = 7) (hk1 : kd oa = 4) (hk2 : kd ob = 6) (hF : Fnl G Γ (none) none (ov Γ.2.2.2 [(o, r), (oa, Sa), (ob, Sb)])) (hf : pX7_write_j40 S Sa Sb l3 = some r) : V cX7_write RX7 4 128 7 G Γ [(o, S), (oa, Sa), (ob, Sb)] 40 [(0, .ref (wA G o 0)), (1, .ref (wA G oa 0)), (2, .ref (wA G ob 0)), (3, .int l3)] [] := by
  unfold pX7_write_j40 at hf
  refine v_iconst (pc := 40) (0 : Int32) dX7_write_40 ci_0 ?_
  refine v_istore (pc := 41) [(4, _), (0, _), (1, _), (2, _), (3, _)] dX7_write_41 (Nat.le_of_ble_eq_true rfl) rfl ?_
  refine v_iconst (pc := 43) (0 : Int32) dX7_write_43 ci_0 ?_
  refine v_istore (pc := 44) [(5, _), (4, _), (0, _), (1, _), (2, _), (3, _)] dX7_write_44 (Nat.le_of_ble_eq_true rfl) rfl ?_
  replace hf := bd_some hf; obtain ⟨r15, h16, hf⟩ := hf
  refine V_sub [2, 3, 4, 5, 1, 0] rfl (wX7_write_l46 hk0 hk1 hk2 fu h16 ?_)
  have hf2 := Option.some.inj hf; subst hf2
  exact V_vret (pc := 101) hF dX7_write_101
set_option maxRecDepth 20000 in
theorem kX7_write {G : Wc} {o oa ob : Nat} {S : Ob} {Sa : Ob} {Sb : Ob} {c : Int32} {r : Ob} (hk0 : kd o = 7) (hk1 : kd oa = 4) (hk2 : kd ob = 6) (hf : pX7_write S Sa Sb  c = some r) : Cn yX7_write cX7_write 7 (none) 4 128 G [.ref (wA G o 0), .ref (wA G oa 0), .ref (wA G ob 0), .int c] [(o, S), (oa, Sa), (ob, Sb)] [(o, r), (oa, Sa), (ob, Sb)] none := by
  refine V_method [(0, .ref (wA G o 0)), (1, .ref (wA G oa 0)), (2, .ref (wA G ob 0)), (3, .int c)] (by decide) rfl (Nat.le_of_ble_eq_true rfl) rfl (fun Γ hF => ?_)
  unfold pX7_write at hf
  refine v_aload_n (pc := 0) 0 dX7_write_0 rfl ?_
  refine v_iconst (pc := 1) (0 : Int32) dX7_write_1 ci_0 ?_
  refine pf_RX7_17 (pc := 2) [_, _, _] 0 rfl hk0 rfl dX7_write_2 ?_
  refine v_aload_n (pc := 5) 0 dX7_write_5 rfl ?_
  refine v_aload_n (pc := 6) 1 dX7_write_6 rfl ?_
  refine gf_RX7_21 (pc := 7) 1 rfl hk1 dX7_write_7 ?_
  refine v_iload_n (pc := 10) 3 dX7_write_10 rfl ?_
  replace hf := gd_some hf; obtain ⟨g1, hf⟩ := hf
  refine al_X4_5 (pc := 11) _ 1 rfl hk1 rfl g1 dX7_write_11 ?_
  replace hf := bd_some hf; obtain ⟨r2, h3, hf⟩ := hf
  refine V_call (pc := 12) (us1 := [_, _, _]) [0] 0 (kX7_putName (o := o) hk0 h3) rfl rfl rfl rfl rfl hk0 (Nat.le_of_ble_eq_true rfl) rfl rfl rfl wm_RX7_27 md_X7_putName (Nat.le_of_ble_eq_true rfl) (Nat.le_of_ble_eq_true rfl) rfl rfl (Nat.le_of_ble_eq_true rfl) dX7_write_12 ?_
  refine v_aload_n (pc := 15) 2 dX7_write_15 rfl ?_
  refine gf_RX7_31 (pc := 16) 2 rfl hk2 dX7_write_16 ?_
  refine v_iload_n (pc := 19) 3 dX7_write_19 rfl ?_
  replace hf := gd_some hf; obtain ⟨g4, hf⟩ := hf
  refine al_X6_1 (pc := 20) _ 2 rfl hk2 rfl g4 dX7_write_20 ?_
  refine v_if_ne (pc := 21) 40 dX7_write_21 (by decide) (fun c5 => ?_) (fun c5 => ?_)
  · replace hf := it_f c5 hf
    exact V_sub [0, 1, 2, 3] rfl (wX7_write_j40 hk0 hk1 hk2 hF hf)
  · replace hf := it_t c5 hf
    refine v_aload_n (pc := 24) 0 dX7_write_24 rfl ?_
    refine v_bipush (pc := 25) (32 : Int32) dX7_write_25 cb_32 ?_
    replace hf := bd_some hf; obtain ⟨r17, h18, hf⟩ := hf
    refine V_call (pc := 27) (us1 := [_, _, _]) [0] 0 (kX7_put (o := o) hk0 h18) rfl rfl rfl rfl rfl hk0 (Nat.le_of_ble_eq_true rfl) rfl rfl rfl wm_RX7_36 md_X7_put (Nat.le_of_ble_eq_true rfl) (Nat.le_of_ble_eq_true rfl) rfl rfl (Nat.le_of_ble_eq_true rfl) dX7_write_27 ?_
    refine v_aload_n (pc := 30) 0 dX7_write_30 rfl ?_
    refine V_gete (pc := 31) 14 "BARE" (by decide) rfl wf_RX7_40 dX7_write_31 ?_
    refine V_getcodeN (pc := 34) (by decide) wf_RX7_46 dX7_write_34 ?_
    replace hf := bd_some hf; obtain ⟨r19, h20, hf⟩ := hf
    refine V_call (pc := 37) (us1 := [_, _, _]) [0] 0 (kX7_putName (o := o) hk0 h20) rfl rfl rfl rfl rfl hk0 (Nat.le_of_ble_eq_true rfl) rfl rfl rfl wm_RX7_27 md_X7_putName (Nat.le_of_ble_eq_true rfl) (Nat.le_of_ble_eq_true rfl) rfl rfl (Nat.le_of_ble_eq_true rfl) dX7_write_37 ?_
    exact V_sub [0, 1, 2, 3] rfl (wX7_write_j40 hk0 hk1 hk2 hF hf)
set_option maxRecDepth 20000 in
theorem wX8_putNumber_l3 {G : Wc} {Γ : Cx} {o : Nat} {l1 : Int32} (hk0 : kd o = 8) : ∀ (n : Nat) {l2 : Int32} {S : Ob} {r : Ob}, pX8_putNumber_l3 l1 n l2 S = some r → V cX8_putNumber RX8 1 60 3 G Γ [(o, r)] 49 [] [] → V cX8_putNumber RX8 1 60 3 G Γ [(o, S)] 3 [(0, .ref (wA G o 0)), (1, .int l1), (2, .int l2)] [] := by
  intro n
  induction n with
  | zero => intro l2 S r hf hx; unfold pX8_putNumber_l3 at hf; cases hf
  | succ n ih =>
    intro l2 S r hf hx
    have hrec : ∀ {l2 : Int32} {S : Ob}, pX8_putNumber_l3 l1 n l2 S = some r → V cX8_putNumber RX8 1 60 3 G Γ [(o, S)] 3 [(0, .ref (wA G o 0)), (1, .int l1), (2, .int l2)] [] := fun h => ih h hx
    clear ih
    unfold pX8_putNumber_l3 at hf
    refine v_iload_n (pc := 3) 2 dX8_putNumber_3 rfl ?_
    refine v_if_lt (pc := 4) 49 dX8_putNumber_4 (by decide) (fun c1 => ?_) (fun c1 => ?_)
    · replace hf := it_t c1 hf
      have hf2 := Option.some.inj hf; subst hf2
      exact V_sub [] rfl hx
    · replace hf := it_f c1 hf
      refine v_aload_n (pc := 7) 0 dX8_putNumber_7 rfl ?_
      refine gf_RX8_15 (pc := 8) 0 rfl hk0 dX8_putNumber_8 ?_
      refine v_sipush (pc := 11) (940 : Int32) dX8_putNumber_11 cs_940 ?_
      refine v_icmp_ge (pc := 14) 49 dX8_putNumber_14 (by decide) (fun c2 => ?_) (fun c2 => ?_)
      · replace hf := it_t c2 hf
        have hf2 := Option.some.inj hf; subst hf2
        exact V_sub [] rfl hx
      · replace hf := it_f c2 hf
        refine v_aload_n (pc := 17) 0 dX8_putNumber_17 rfl ?_
        refine gf_RX8_11 (pc := 18) 0 rfl hk0 dX8_putNumber_18 ?_
        refine v_aload_n (pc := 21) 0 dX8_putNumber_21 rfl ?_
        refine gf_RX8_15 (pc := 22) 0 rfl hk0 dX8_putNumber_22 ?_
        refine v_iload_n (pc := 25) 1 dX8_putNumber_25 rfl ?_
        refine v_iload_n (pc := 26) 2 dX8_putNumber_26 rfl ?_
        refine v_iushr (pc := 27) dX8_putNumber_27 ?_
        refine v_sipush (pc := 28) (255 : Int32) dX8_putNumber_28 cs_255 ?_
        refine v_iand (pc := 31) dX8_putNumber_31 ?_
        replace hf := gd_some hf; obtain ⟨g3, hf⟩ := hf
        refine as_X8_0 (pc := 32) [_] _ 0 rfl hk0 rfl g3 rfl dX8_putNumber_32 ?_
        refine v_aload_n (pc := 33) 0 dX8_putNumber_33 rfl ?_
        refine v_dup (pc := 34) dX8_putNumber_34 rfl ?_
        refine gf_RX8_15 (pc := 35) 0 rfl hk0 dX8_putNumber_35 ?_
        refine v_iconst (pc := 38) (1 : Int32) dX8_putNumber_38 ci_1 ?_
        refine v_iadd (pc := 39) dX8_putNumber_39 ?_
        refine pf_RX8_15 (pc := 40) [_] 0 rfl hk0 rfl dX8_putNumber_40 ?_
        refine v_iinc (pc := 43) 2 (l2 + (-8 : Int32)) [(2, _), (0, _), (1, _)] dX8_putNumber_43 rfl (congrArg (fun z => _ + z) ci_m8) (Nat.le_of_ble_eq_true rfl) rfl ?_
        refine v_goto (pc := 46) 3 dX8_putNumber_46 (by decide) ?_
        exact V_sub [1, 2, 0] rfl (hrec hf)
set_option maxRecDepth 20000 in
theorem kX8_putNumber {G : Wc} {o : Nat} {S : Ob} {a : Int32} {r : Ob} (hk0 : kd o = 8) (hf : pX8_putNumber S  a = some r) : Cn yX8_putNumber cX8_putNumber 3 (none) 1 60 G [.ref (wA G o 0), .int a] [(o, S)] [(o, r)] none := by
  refine V_method [(0, .ref (wA G o 0)), (1, .int a)] (by decide) rfl (Nat.le_of_ble_eq_true rfl) rfl (fun Γ hF => ?_)
  unfold pX8_putNumber at hf
  refine v_bipush (pc := 0) (24 : Int32) dX8_putNumber_0 cb_24 ?_
  refine v_istore_n (pc := 2) [(2, _), (0, _), (1, _)] dX8_putNumber_2 (Nat.le_of_ble_eq_true rfl) rfl ?_
  replace hf := bd_some hf; obtain ⟨r4, h5, hf⟩ := hf
  refine V_sub [1, 2, 0] rfl (wX8_putNumber_l3 hk0 fu h5 ?_)
  have hf2 := Option.some.inj hf; subst hf2
  exact V_vret (pc := 49) hF dX8_putNumber_49
set_option maxRecDepth 20000 in
theorem kX10_feed {G : Wc} {V0 : Ob} {V1 : Ob} {a : Int32} {b : Int32} {c : Int32} {d : Int32} {e : Int32} {r : Int32 × Ob}  (hf : pX10_feed V0 V1  a b c d e = some r) : Cn yX10_feed cX10_feed 6 (some .int) 2 82 G [.ref (wA G 0 0), .int a, .int b, .int c, .int d, .int e] [(0, V0), (1, V1)] [(0, V0), (1, r.2)] (some (.int r.1)) := by
  refine V_method [(0, .ref (wA G 0 0)), (1, .int a), (2, .int b), (3, .int c), (4, .int d), (5, .int e)] (by decide) rfl (Nat.le_of_ble_eq_true rfl) rfl (fun Γ hF => ?_)
  unfold pX10_feed at hf
  refine v_aload_n (pc := 0) 0 dX10_feed_0 rfl ?_
  refine gf_RX10_10 (pc := 1) 0 rfl rfl dX10_feed_1 ?_
  refine gf_RX10_94 (pc := 4) 1 rfl rfl dX10_feed_4 ?_
  refine v_bipush (pc := 7) (20 : Int32) dX10_feed_7 cb_20 ?_
  refine v_iadd (pc := 9) dX10_feed_9 ?_
  refine v_sipush (pc := 10) (940 : Int32) dX10_feed_10 cs_940 ?_
  refine v_icmp_le (pc := 13) 18 dX10_feed_13 (by decide) (fun c1 => ?_) (fun c1 => ?_)
  · replace hf := it_t c1 hf
    refine v_aload_n (pc := 18) 0 dX10_feed_18 rfl ?_
    refine gf_RX10_10 (pc := 19) 0 rfl rfl dX10_feed_19 ?_
    refine v_iload_n (pc := 22) 1 dX10_feed_22 rfl ?_
    replace hf := bd_some hf; obtain ⟨r2, h3, hf⟩ := hf
    refine V_call (pc := 23) (us1 := [_, _]) [1] 1 (kX8_putNumber (o := 1) rfl h3) rfl rfl rfl rfl rfl rfl (Nat.le_of_ble_eq_true rfl) rfl rfl rfl wm_RX10_97 md_X8_putNumber (Nat.le_of_ble_eq_true rfl) (Nat.le_of_ble_eq_true rfl) rfl rfl (Nat.le_of_ble_eq_true rfl) dX10_feed_23 ?_
    refine v_aload_n (pc := 26) 0 dX10_feed_26 rfl ?_
    refine gf_RX10_10 (pc := 27) 0 rfl rfl dX10_feed_27 ?_
    refine v_iload_n (pc := 30) 2 dX10_feed_30 rfl ?_
    replace hf := bd_some hf; obtain ⟨r4, h5, hf⟩ := hf
    refine V_call (pc := 31) (us1 := [_, _]) [1] 1 (kX8_putNumber (o := 1) rfl h5) rfl rfl rfl rfl rfl rfl (Nat.le_of_ble_eq_true rfl) rfl rfl rfl wm_RX10_97 md_X8_putNumber (Nat.le_of_ble_eq_true rfl) (Nat.le_of_ble_eq_true rfl) rfl rfl (Nat.le_of_ble_eq_true rfl) dX10_feed_31 ?_
    refine v_aload_n (pc := 34) 0 dX10_feed_34 rfl ?_
    refine gf_RX10_10 (pc := 35) 0 rfl rfl dX10_feed_35 ?_
    refine v_iload_n (pc := 38) 3 dX10_feed_38 rfl ?_
    replace hf := bd_some hf; obtain ⟨r6, h7, hf⟩ := hf
    refine V_call (pc := 39) (us1 := [_, _]) [1] 1 (kX8_putNumber (o := 1) rfl h7) rfl rfl rfl rfl rfl rfl (Nat.le_of_ble_eq_true rfl) rfl rfl rfl wm_RX10_97 md_X8_putNumber (Nat.le_of_ble_eq_true rfl) (Nat.le_of_ble_eq_true rfl) rfl rfl (Nat.le_of_ble_eq_true rfl) dX10_feed_39 ?_
    refine v_aload_n (pc := 42) 0 dX10_feed_42 rfl ?_
    refine gf_RX10_10 (pc := 43) 0 rfl rfl dX10_feed_43 ?_
    refine v_iload (pc := 46) 4 dX10_feed_46 rfl ?_
    replace hf := bd_some hf; obtain ⟨r8, h9, hf⟩ := hf
    refine V_call (pc := 48) (us1 := [_, _]) [1] 1 (kX8_putNumber (o := 1) rfl h9) rfl rfl rfl rfl rfl rfl (Nat.le_of_ble_eq_true rfl) rfl rfl rfl wm_RX10_97 md_X8_putNumber (Nat.le_of_ble_eq_true rfl) (Nat.le_of_ble_eq_true rfl) rfl rfl (Nat.le_of_ble_eq_true rfl) dX10_feed_48 ?_
    refine v_aload_n (pc := 51) 0 dX10_feed_51 rfl ?_
    refine gf_RX10_10 (pc := 52) 0 rfl rfl dX10_feed_52 ?_
    refine v_iload (pc := 55) 5 dX10_feed_55 rfl ?_
    replace hf := bd_some hf; obtain ⟨r10, h11, hf⟩ := hf
    refine V_call (pc := 57) (us1 := [_, _]) [1] 1 (kX8_putNumber (o := 1) rfl h11) rfl rfl rfl rfl rfl rfl (Nat.le_of_ble_eq_true rfl) rfl rfl rfl wm_RX10_97 md_X8_putNumber (Nat.le_of_ble_eq_true rfl) (Nat.le_of_ble_eq_true rfl) rfl rfl (Nat.le_of_ble_eq_true rfl) dX10_feed_57 ?_
    refine v_aload_n (pc := 60) 0 dX10_feed_60 rfl ?_
    refine gf_RX10_10 (pc := 61) 0 rfl rfl dX10_feed_61 ?_
    refine gf_RX10_94 (pc := 64) 1 rfl rfl dX10_feed_64 ?_
    have hf2 := Option.some.inj hf; subst hf2
    exact V_iret (pc := 67) hF dX10_feed_67
  · replace hf := it_f c1 hf
    refine v_iconst (pc := 16) (-1 : Int32) dX10_feed_16 ci_m1 ?_
    have hf2 := Option.some.inj hf; subst hf2
    exact V_iret (pc := 17) hF dX10_feed_17
set_option maxRecDepth 20000 in
theorem kX10_end {G : Wc} {V0 : Ob} {V1 : Ob} {a : Int32} {r : Int32 × Ob}  (hf : pX10_end V0 V1  a = some r) : Cn yX10_end cX10_end 2 (some .boolean) 1 60 G [.ref (wA G 0 0), .int a] [(0, V0), (1, V1)] [(0, V0), (1, r.2)] (some (.int r.1)) := by
  refine V_method [(0, .ref (wA G 0 0)), (1, .int a)] (by decide) rfl (Nat.le_of_ble_eq_true rfl) rfl (fun Γ hF => ?_)
  unfold pX10_end at hf
  refine v_iload_n (pc := 0) 1 dX10_end_0 rfl ?_
  refine v_if_lt (pc := 1) 15 dX10_end_1 (by decide) (fun c1 => ?_) (fun c1 => ?_)
  · replace hf := it_t c1 hf
    refine v_iconst (pc := 15) (0 : Int32) dX10_end_15 ci_0 ?_
    have hf2 := Option.some.inj hf; subst hf2
    exact V_zret (pc := 16) hF rfl dX10_end_16
  · replace hf := it_f c1 hf
    refine v_iload_n (pc := 4) 1 dX10_end_4 rfl ?_
    refine v_aload_n (pc := 5) 0 dX10_end_5 rfl ?_
    refine gf_RX10_10 (pc := 6) 0 rfl rfl dX10_end_6 ?_
    refine gf_RX10_94 (pc := 9) 1 rfl rfl dX10_end_9 ?_
    refine v_icmp_le (pc := 12) 17 dX10_end_12 (by decide) (fun c2 => ?_) (fun c2 => ?_)
    · replace hf := it_t c2 hf
      refine v_aload_n (pc := 17) 0 dX10_end_17 rfl ?_
      refine gf_RX10_10 (pc := 18) 0 rfl rfl dX10_end_18 ?_
      refine v_iload_n (pc := 21) 1 dX10_end_21 rfl ?_
      refine pf_RX10_94 (pc := 22) [_, _] 1 rfl rfl rfl dX10_end_22 ?_
      refine v_iconst (pc := 25) (1 : Int32) dX10_end_25 ci_1 ?_
      have hf2 := Option.some.inj hf; subst hf2
      exact V_zret (pc := 26) hF rfl dX10_end_26
    · replace hf := it_f c2 hf
      refine v_iconst (pc := 15) (0 : Int32) dX10_end_15 ci_0 ?_
      have hf2 := Option.some.inj hf; subst hf2
      exact V_zret (pc := 16) hF rfl dX10_end_16
