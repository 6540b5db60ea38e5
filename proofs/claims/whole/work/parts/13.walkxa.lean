set_option maxRecDepth 20000 in
theorem wX8_scanRun_j98 {G : Wc} {Γ : Cx} {o : Nat} {S : Ob} {l1 : Int32} {l2 : Int32} {r : Int32 × Int32 × Ob} (hk0 : kd o = 8) {rec : Int32 → Int32 → Ob → Option (Int32 × Int32 × Ob)} (hrec : ∀ {l1 : Int32} {l2 : Int32} {S : Ob}, rec l1 l2 S = some r → V cX8_scanRun RX8 1 60 4 G Γ [(o, S)] 14 [(0, .ref (wA G o 0)), (1, .int l1), (2, .int l2)] []) (hx : V cX8_scanRun RX8 1 60 4 G Γ [(o, r.2.2)] 111 [(0, .ref (wA G o 0)), (1, .int r.1), (2, .int r.2.1)] []) (hf : pX8_scanRun_j98 rec S l1 l2 = some r) : V cX8_scanRun RX8 1 60 4 G Γ [(o, S)] 98 [(0, .ref (wA G o 0)), (1, .int l1), (2, .int l2)] [] := by
  unfold pX8_scanRun_j98 at hf
  refine v_aload_n (pc := 98) 0 dX8_scanRun_98 rfl ?_
  refine v_dup (pc := 99) dX8_scanRun_99 rfl ?_
  refine gf_RX8_22 (pc := 100) 0 rfl hk0 dX8_scanRun_100 ?_
  refine v_iconst (pc := 103) (1 : Int32) dX8_scanRun_103 ci_1 ?_
  refine v_iadd (pc := 104) dX8_scanRun_104 ?_
  refine pf_RX8_22 (pc := 105) [_] 0 rfl hk0 rfl dX8_scanRun_105 ?_
  refine v_goto (pc := 108) 14 dX8_scanRun_108 (by decide) ?_
  exact V_sub [0, 1, 2] rfl (hrec hf)
set_option maxRecDepth 20000 in
theorem wX8_scanRun_j67 {G : Wc} {Γ : Cx} {o : Nat} {S : Ob} {l1 : Int32} {l2 : Int32} {l3 : Int32} {r : Int32 × Int32 × Ob} (hk0 : kd o = 8) {rec : Int32 → Int32 → Ob → Option (Int32 × Int32 × Ob)} (hrec : ∀ {l1 : Int32} {l2 : Int32} {S : Ob}, rec l1 l2 S = some r → V cX8_scanRun RX8 1 60 4 G Γ [(o, S)] 14 [(0, .ref (wA G o 0)), (1, .int l1), (2, .int l2)] []) (hx : V cX8_scanRun RX8 1 60 4 G Γ [(o, r.2.2)] 111 [(0, .ref (wA G o 0)), (1, .int r.1), (2, .int r.2.1)] []) (hf : pX8_scanRun_j67 rec S l1 l2 l3 = some r) : V cX8_scanRun RX8 1 60 4 G Γ [(o, S)] 67 [(0, .ref (wA G o 0)), (1, .int l1), (2, .int l2), (3, .int l3)] [] := by
  unfold pX8_scanRun_j67 at hf
  refine v_iload_n (pc := 67) 3 dX8_scanRun_67 rfl ?_
  refine v_bipush (pc := 68) (48 : Int32) dX8_scanRun_68 cb_48 ?_
  refine v_icmp_lt (pc := 70) 111 dX8_scanRun_70 (by decide) (fun c4 => ?_) (fun c4 => ?_)
  · replace hf := it_t c4 hf
    have hf2 := Option.some.inj hf; subst hf2
    exact V_sub [0, 1, 2] rfl hx
  · replace hf := it_f c4 hf
    refine v_iload_n (pc := 73) 3 dX8_scanRun_73 rfl ?_
    refine v_bipush (pc := 74) (57 : Int32) dX8_scanRun_74 cb_57 ?_
    refine v_icmp_gt (pc := 76) 111 dX8_scanRun_76 (by decide) (fun c5 => ?_) (fun c5 => ?_)
    · replace hf := it_t c5 hf
      have hf2 := Option.some.inj hf; subst hf2
      exact V_sub [0, 1, 2] rfl hx
    · replace hf := it_f c5 hf
      refine v_iinc (pc := 79) 2 (l2 + (1 : Int32)) [(2, _), (0, _), (1, _), (3, _)] dX8_scanRun_79 rfl (congrArg (fun z => _ + z) ci_1) (Nat.le_of_ble_eq_true rfl) rfl ?_
      refine v_aload_n (pc := 82) 1 dX8_scanRun_82 rfl ?_
      refine v_aload_n (pc := 83) 1 dX8_scanRun_83 rfl ?_
      refine gf_RX8_67 (pc := 84) 0 rfl hk0 dX8_scanRun_84 ?_
      refine v_bipush (pc := 87) (10 : Int32) dX8_scanRun_87 cb_10 ?_
      refine v_imul (pc := 89) dX8_scanRun_89 ?_
      refine v_iload_n (pc := 90) 3 dX8_scanRun_90 rfl ?_
      refine v_iadd (pc := 91) dX8_scanRun_91 ?_
      refine v_bipush (pc := 92) (48 : Int32) dX8_scanRun_92 cb_48 ?_
      refine v_isub (pc := 94) dX8_scanRun_94 ?_
      refine pf_RX8_67 (pc := 95) [_] 0 rfl hk0 rfl dX8_scanRun_95 ?_
      exact V_sub [1, 2, 0] rfl (wX8_scanRun_j98 hk0 hrec hx hf)
set_option maxRecDepth 20000 in
theorem wX8_scanRun_l14 {G : Wc} {Γ : Cx} {o : Nat}  (hk0 : kd o = 8) : ∀ (n : Nat) {l1 : Int32} {l2 : Int32} {S : Ob} {r : Int32 × Int32 × Ob}, pX8_scanRun_l14   n l1 l2 S = some r → V cX8_scanRun RX8 1 60 4 G Γ [(o, r.2.2)] 111 [(0, .ref (wA G o 0)), (1, .int r.1), (2, .int r.2.1)] [] → V cX8_scanRun RX8 1 60 4 G Γ [(o, S)] 14 [(0, .ref (wA G o 0)), (1, .int l1), (2, .int l2)] [] := by
  intro n
  induction n with
  | zero => intro l1 l2 S r hf hx; unfold pX8_scanRun_l14 at hf; cases hf
  | succ n ih =>
    intro l1 l2 S r hf hx
    have hrec : ∀ {l1 : Int32} {l2 : Int32} {S : Ob}, pX8_scanRun_l14   n l1 l2 S = some r → V cX8_scanRun RX8 1 60 4 G Γ [(o, S)] 14 [(0, .ref (wA G o 0)), (1, .int l1), (2, .int l2)] [] := fun h => ih h hx
    clear ih
    unfold pX8_scanRun_l14 at hf
    refine v_aload_n (pc := 14) 0 dX8_scanRun_14 rfl ?_
    refine gf_RX8_22 (pc := 15) 0 rfl hk0 dX8_scanRun_15 ?_
    refine v_aload_n (pc := 18) 0 dX8_scanRun_18 rfl ?_
    refine gf_RX8_15 (pc := 19) 0 rfl hk0 dX8_scanRun_19 ?_
    refine v_icmp_ge (pc := 22) 111 dX8_scanRun_22 (by decide) (fun c1 => ?_) (fun c1 => ?_)
    · replace hf := it_t c1 hf
      have hf2 := Option.some.inj hf; subst hf2
      exact V_sub [0, 1, 2] rfl hx
    · replace hf := it_f c1 hf
      refine v_aload_n (pc := 25) 0 dX8_scanRun_25 rfl ?_
      refine gf_RX8_11 (pc := 26) 0 rfl hk0 dX8_scanRun_26 ?_
      refine v_aload_n (pc := 29) 0 dX8_scanRun_29 rfl ?_
      refine gf_RX8_22 (pc := 30) 0 rfl hk0 dX8_scanRun_30 ?_
      replace hf := gd_some hf; obtain ⟨g2, hf⟩ := hf
      refine al_X8_0 (pc := 33) _ 0 rfl hk0 rfl g2 dX8_scanRun_33 ?_
      refine v_istore_n (pc := 34) [(3, _), (0, _), (1, _), (2, _)] dX8_scanRun_34 (Nat.le_of_ble_eq_true rfl) rfl ?_
      refine v_iload_n (pc := 35) 0 dX8_scanRun_35 rfl ?_
      refine v_bipush (pc := 36) (97 : Int32) dX8_scanRun_36 cb_97 ?_
      refine v_icmp_lt (pc := 38) 67 dX8_scanRun_38 (by decide) (fun c3 => ?_) (fun c3 => ?_)
      · replace hf := it_t c3 hf
        exact V_sub [1, 2, 3, 0] rfl (wX8_scanRun_j67 hk0 hrec hx hf)
      · replace hf := it_f c3 hf
        refine v_iload_n (pc := 41) 0 dX8_scanRun_41 rfl ?_
        refine v_bipush (pc := 42) (122 : Int32) dX8_scanRun_42 cb_122 ?_
        refine v_icmp_gt (pc := 44) 67 dX8_scanRun_44 (by decide) (fun c6 => ?_) (fun c6 => ?_)
        · replace hf := it_t c6 hf
          exact V_sub [1, 2, 3, 0] rfl (wX8_scanRun_j67 hk0 hrec hx hf)
        · replace hf := it_f c6 hf
          refine v_iinc (pc := 47) 2 (l1 + (1 : Int32)) [(1, _), (3, _), (0, _), (2, _)] dX8_scanRun_47 rfl (congrArg (fun z => _ + z) ci_1) (Nat.le_of_ble_eq_true rfl) rfl ?_
          refine v_aload_n (pc := 50) 2 dX8_scanRun_50 rfl ?_
          refine v_aload_n (pc := 51) 2 dX8_scanRun_51 rfl ?_
          refine gf_RX8_53 (pc := 52) 0 rfl hk0 dX8_scanRun_52 ?_
          refine v_bipush (pc := 55) (8 : Int32) dX8_scanRun_55 cb_8 ?_
          refine v_lshl (pc := 57) dX8_scanRun_57 ?_
          refine v_iload_n (pc := 58) 1 dX8_scanRun_58 rfl ?_
          refine v_i2l (pc := 59) dX8_scanRun_59 ?_
          refine v_lor (pc := 60) dX8_scanRun_60 ?_
          refine pf_RX8_53 (pc := 61) [_] 0 rfl hk0 rfl dX8_scanRun_61 ?_
          refine v_goto (pc := 64) 98 dX8_scanRun_64 (by decide) ?_
          exact V_sub [2, 0, 3] rfl (wX8_scanRun_j98 hk0 hrec hx hf)
set_option maxRecDepth 20000 in
theorem wX8_scanRun_j139 {G : Wc} {Γ : Cx} {o : Nat} {S : Ob} {l1 : Int32} {l2 : Int32} {r : Ob} (hk0 : kd o = 8) (hF : Fnl G Γ (none) none (ov Γ.2.2.2 [(o, r)])) (hf : pX8_scanRun_j139 S l1 l2 = some r) : V cX8_scanRun RX8 1 60 4 G Γ [(o, S)] 139 [(0, .ref (wA G o 0)), (1, .int l1), (2, .int l2)] [] := by
  unfold pX8_scanRun_j139 at hf
  refine v_iload_n (pc := 139) 1 dX8_scanRun_139 rfl ?_
  refine v_if_ne (pc := 140) 158 dX8_scanRun_140 (by decide) (fun c10 => ?_) (fun c10 => ?_)
  · replace hf := it_f c10 hf
    have hf2 := Option.some.inj hf; subst hf2
    exact V_vret (pc := 158) hF dX8_scanRun_158
  · replace hf := it_t c10 hf
    refine v_iload_n (pc := 143) 2 dX8_scanRun_143 rfl ?_
    refine v_iconst (pc := 144) (1 : Int32) dX8_scanRun_144 ci_1 ?_
    refine v_icmp_lt (pc := 145) 158 dX8_scanRun_145 (by decide) (fun c11 => ?_) (fun c11 => ?_)
    · replace hf := it_t c11 hf
      have hf2 := Option.some.inj hf; subst hf2
      exact V_vret (pc := 158) hF dX8_scanRun_158
    · replace hf := it_f c11 hf
      refine v_iload_n (pc := 148) 2 dX8_scanRun_148 rfl ?_
      refine v_iconst (pc := 149) (3 : Int32) dX8_scanRun_149 ci_3 ?_
      refine v_icmp_gt (pc := 150) 158 dX8_scanRun_150 (by decide) (fun c12 => ?_) (fun c12 => ?_)
      · replace hf := it_t c12 hf
        have hf2 := Option.some.inj hf; subst hf2
        exact V_vret (pc := 158) hF dX8_scanRun_158
      · replace hf := it_f c12 hf
        refine v_aload_n (pc := 153) 0 dX8_scanRun_153 rfl ?_
        refine v_iconst (pc := 154) (3 : Int32) dX8_scanRun_154 ci_3 ?_
        refine pf_RX8_47 (pc := 155) [_] 0 rfl hk0 rfl dX8_scanRun_155 ?_
        have hf2 := Option.some.inj hf; subst hf2
        exact V_vret (pc := 158) hF dX8_scanRun_158
set_option maxRecDepth 20000 in
theorem kX8_scanRun {G : Wc} {o : Nat} {S : Ob}  {r : Ob} (hk0 : kd o = 8) (hf : pX8_scanRun S   = some r) : Cn yX8_scanRun cX8_scanRun 4 (none) 1 60 G [.ref (wA G o 0)] [(o, S)] [(o, r)] none := by
  refine V_method [(0, .ref (wA G o 0))] (by decide) rfl (Nat.le_of_ble_eq_true rfl) rfl (fun Γ hF => ?_)
  unfold pX8_scanRun at hf
  refine v_iconst (pc := 0) (0 : Int32) dX8_scanRun_0 ci_0 ?_
  refine v_istore_n (pc := 1) [(1, _), (0, _)] dX8_scanRun_1 (Nat.le_of_ble_eq_true rfl) rfl ?_
  refine v_iconst (pc := 2) (0 : Int32) dX8_scanRun_2 ci_0 ?_
  refine v_istore_n (pc := 3) [(2, _), (1, _), (0, _)] dX8_scanRun_3 (Nat.le_of_ble_eq_true rfl) rfl ?_
  refine v_aload_n (pc := 4) 2 dX8_scanRun_4 rfl ?_
  refine v_lconst (pc := 5) (0 : Int64) dX8_scanRun_5 rfl ?_
  refine pf_RX8_53 (pc := 6) [_] 0 rfl hk0 rfl dX8_scanRun_6 ?_
  refine v_aload_n (pc := 9) 2 dX8_scanRun_9 rfl ?_
  refine v_iconst (pc := 10) (0 : Int32) dX8_scanRun_10 ci_0 ?_
  refine pf_RX8_67 (pc := 11) [_] 0 rfl hk0 rfl dX8_scanRun_11 ?_
  replace hf := bd_some hf; obtain ⟨r7, h8, hf⟩ := hf
  refine V_sub [2, 1, 0] rfl (wX8_scanRun_l14 hk0 fu h8 ?_)
  refine v_aload_n (pc := 111) 0 dX8_scanRun_111 rfl ?_
  refine v_iconst (pc := 112) (1 : Int32) dX8_scanRun_112 ci_1 ?_
  refine pf_RX8_47 (pc := 113) [_] 0 rfl hk0 rfl dX8_scanRun_113 ?_
  refine v_iload_n (pc := 116) 2 dX8_scanRun_116 rfl ?_
  refine v_if_ne (pc := 117) 139 dX8_scanRun_117 (by decide) (fun c9 => ?_) (fun c9 => ?_)
  · replace hf := it_f c9 hf
    exact V_sub [0, 1, 2] rfl (wX8_scanRun_j139 hk0 hF hf)
  · replace hf := it_t c9 hf
    refine v_iload_n (pc := 120) 1 dX8_scanRun_120 rfl ?_
    refine v_iconst (pc := 121) (1 : Int32) dX8_scanRun_121 ci_1 ?_
    refine v_icmp_lt (pc := 122) 139 dX8_scanRun_122 (by decide) (fun c13 => ?_) (fun c13 => ?_)
    · replace hf := it_t c13 hf
      exact V_sub [0, 1, 2] rfl (wX8_scanRun_j139 hk0 hF hf)
    · replace hf := it_f c13 hf
      refine v_iload_n (pc := 125) 1 dX8_scanRun_125 rfl ?_
      refine v_bipush (pc := 126) (7 : Int32) dX8_scanRun_126 cb_7 ?_
      refine v_icmp_gt (pc := 128) 139 dX8_scanRun_128 (by decide) (fun c14 => ?_) (fun c14 => ?_)
      · replace hf := it_t c14 hf
        exact V_sub [0, 1, 2] rfl (wX8_scanRun_j139 hk0 hF hf)
      · replace hf := it_f c14 hf
        refine v_aload_n (pc := 131) 0 dX8_scanRun_131 rfl ?_
        refine v_iconst (pc := 132) (2 : Int32) dX8_scanRun_132 ci_2 ?_
        refine pf_RX8_47 (pc := 133) [_] 0 rfl hk0 rfl dX8_scanRun_133 ?_
        refine v_goto (pc := 136) 158 dX8_scanRun_136 (by decide) ?_
        have hf2 := Option.some.inj hf; subst hf2
        exact V_vret (pc := 158) hF dX8_scanRun_158
set_option maxRecDepth 20000 in
theorem kX8_isSign {G : Wc}  {a : Int32} {r : Int32}  (hf : pX8_isSign   a = some r) : Cn yX8_isSign cX8_isSign 1 (some .boolean) 1 60 G [.int a] [] [] (some (.int r)) := by
  refine V_method [(0, .int a)] (by decide) rfl (Nat.le_of_ble_eq_true rfl) rfl (fun Γ hF => ?_)
  unfold pX8_isSign at hf
  refine v_iload_n (pc := 0) 0 dX8_isSign_0 rfl ?_
  refine v_bipush (pc := 1) (59 : Int32) dX8_isSign_1 cb_59 ?_
  refine v_icmp_eq (pc := 3) 36 dX8_isSign_3 (by decide) (fun c1 => ?_) (fun c1 => ?_)
  · replace hf := it_t c1 hf
    refine v_iconst (pc := 36) (1 : Int32) dX8_isSign_36 ci_1 ?_
    refine v_goto (pc := 37) 41 dX8_isSign_37 (by decide) ?_
    have hf2 := Option.some.inj hf; subst hf2
    exact V_zret (pc := 41) hF rfl dX8_isSign_41
  · replace hf := it_f c1 hf
    refine v_iload_n (pc := 6) 0 dX8_isSign_6 rfl ?_
    refine v_bipush (pc := 7) (60 : Int32) dX8_isSign_7 cb_60 ?_
    refine v_icmp_eq (pc := 9) 36 dX8_isSign_9 (by decide) (fun c2 => ?_) (fun c2 => ?_)
    · replace hf := it_t c2 hf
      refine v_iconst (pc := 36) (1 : Int32) dX8_isSign_36 ci_1 ?_
      refine v_goto (pc := 37) 41 dX8_isSign_37 (by decide) ?_
      have hf2 := Option.some.inj hf; subst hf2
      exact V_zret (pc := 41) hF rfl dX8_isSign_41
    · replace hf := it_f c2 hf
      refine v_iload_n (pc := 12) 0 dX8_isSign_12 rfl ?_
      refine v_bipush (pc := 13) (61 : Int32) dX8_isSign_13 cb_61 ?_
      refine v_icmp_eq (pc := 15) 36 dX8_isSign_15 (by decide) (fun c3 => ?_) (fun c3 => ?_)
      · replace hf := it_t c3 hf
        refine v_iconst (pc := 36) (1 : Int32) dX8_isSign_36 ci_1 ?_
        refine v_goto (pc := 37) 41 dX8_isSign_37 (by decide) ?_
        have hf2 := Option.some.inj hf; subst hf2
        exact V_zret (pc := 41) hF rfl dX8_isSign_41
      · replace hf := it_f c3 hf
        refine v_iload_n (pc := 18) 0 dX8_isSign_18 rfl ?_
        refine v_bipush (pc := 19) (62 : Int32) dX8_isSign_19 cb_62 ?_
        refine v_icmp_eq (pc := 21) 36 dX8_isSign_21 (by decide) (fun c4 => ?_) (fun c4 => ?_)
        · replace hf := it_t c4 hf
          refine v_iconst (pc := 36) (1 : Int32) dX8_isSign_36 ci_1 ?_
          refine v_goto (pc := 37) 41 dX8_isSign_37 (by decide) ?_
          have hf2 := Option.some.inj hf; subst hf2
          exact V_zret (pc := 41) hF rfl dX8_isSign_41
        · replace hf := it_f c4 hf
          refine v_iload_n (pc := 24) 0 dX8_isSign_24 rfl ?_
          refine v_bipush (pc := 25) (40 : Int32) dX8_isSign_25 cb_40 ?_
          refine v_icmp_eq (pc := 27) 36 dX8_isSign_27 (by decide) (fun c5 => ?_) (fun c5 => ?_)
          · replace hf := it_t c5 hf
            refine v_iconst (pc := 36) (1 : Int32) dX8_isSign_36 ci_1 ?_
            refine v_goto (pc := 37) 41 dX8_isSign_37 (by decide) ?_
            have hf2 := Option.some.inj hf; subst hf2
            exact V_zret (pc := 41) hF rfl dX8_isSign_41
          · replace hf := it_f c5 hf
            refine v_iload_n (pc := 30) 0 dX8_isSign_30 rfl ?_
            refine v_bipush (pc := 31) (41 : Int32) dX8_isSign_31 cb_41 ?_
            refine v_icmp_ne (pc := 33) 40 dX8_isSign_33 (by decide) (fun c6 => ?_) (fun c6 => ?_)
            · replace hf := it_f c6 hf
              refine v_iconst (pc := 40) (0 : Int32) dX8_isSign_40 ci_0 ?_
              have hf2 := Option.some.inj hf; subst hf2
              exact V_zret (pc := 41) hF rfl dX8_isSign_41
            · replace hf := it_t c6 hf
              refine v_iconst (pc := 36) (1 : Int32) dX8_isSign_36 ci_1 ?_
              refine v_goto (pc := 37) 41 dX8_isSign_37 (by decide) ?_
              have hf2 := Option.some.inj hf; subst hf2
              exact V_zret (pc := 41) hF rfl dX8_isSign_41
set_option maxRecDepth 20000 in
theorem wX9_of_l2 {G : Wc} {Γ : Cx} {l0 : Int64} {r : Option Nat}  (hF : Fnl G Γ (some (.object "CombedOut$Word")) (some (va_re (wE G) r)) (ov Γ.2.2.2 [])) : ∀ (n : Nat) {l2 : Int32}, pX9_of_l2  l0 n l2 = some r → V cX9_of RX9 1 60 3 G Γ [] 2 [(0, .long l0), (2, .int l2)] [] := by
  intro n
  induction n with
  | zero => intro l2 hf; unfold pX9_of_l2 at hf; cases hf
  | succ n ih =>
    intro l2 hf
    have hrec : ∀ {l2 : Int32}, pX9_of_l2  l0 n l2 = some r → V cX9_of RX9 1 60 3 G Γ [] 2 [(0, .long l0), (2, .int l2)] [] := fun h => ih h
    clear ih
    unfold pX9_of_l2 at hf
    refine v_iload_n (pc := 2) 1 dX9_of_2 rfl ?_
    refine V_alllen (pc := 3) wf_RX9_107 dX9_of_3 dX9_of_6 ?_
    refine v_icmp_ge (pc := 7) 35 dX9_of_7 (by decide) (fun c1 => ?_) (fun c1 => ?_)
    · replace hf := it_t c1 hf
      refine v_aconst_nullE (pc := 35) dX9_of_35 ?_
      have hf2 := Option.some.inj hf; subst hf2
      exact V_eret (pc := 36) hF dX9_of_36
    · replace hf := it_f c1 hf
      replace hf := gd_some hf; obtain ⟨g2, hf⟩ := hf
      refine V_allat (pc := 10) 1 wf_RX9_107 g2 dX9_of_10 dX9_of_13 dX9_of_14 rfl ?_
      refine V_getcode (pc := 15) (inB_lt g2) wf_RX9_93 dX9_of_15 ?_
      refine v_lload_n (pc := 18) 0 dX9_of_18 rfl ?_
      refine v_lcmp (pc := 19) dX9_of_19 ?_
      refine v_if_ne (pc := 20) 29 dX9_of_20 (by decide) (fun c3 => ?_) (fun c3 => ?_)
      · replace hf := it_f c3 hf
        refine v_iinc (pc := 29) 1 (l2 + (1 : Int32)) [(2, _), (0, _)] dX9_of_29 rfl (congrArg (fun z => _ + z) ci_1) (Nat.le_of_ble_eq_true rfl) rfl ?_
        refine v_goto (pc := 32) 2 dX9_of_32 (by decide) ?_
        exact V_sub [1, 0] rfl (hrec hf)
      · replace hf := it_t c3 hf
        replace hf := gd_some hf; obtain ⟨g4, hf⟩ := hf
        refine V_allat (pc := 23) 1 wf_RX9_107 g4 dX9_of_23 dX9_of_26 dX9_of_27 rfl ?_
        have hf2 := Option.some.inj hf; subst hf2
        exact V_eret (pc := 28) hF dX9_of_28
set_option maxRecDepth 20000 in
theorem kX9_of {G : Wc}  {a : Int64} {r : Option Nat}  (hf : pX9_of   a = some r) : Cn yX9_of cX9_of 3 (some (.object "CombedOut$Word")) 1 60 G [.long a] [] [] (some (va_re (wE G) r)) := by
  refine V_method [(0, .long a)] (by decide) rfl (Nat.le_of_ble_eq_true rfl) rfl (fun Γ hF => ?_)
  unfold pX9_of at hf
  refine v_iconst (pc := 0) (0 : Int32) dX9_of_0 ci_0 ?_
  refine v_istore_n (pc := 1) [(2, _), (0, _)] dX9_of_1 (Nat.le_of_ble_eq_true rfl) rfl ?_
  exact V_sub [1, 0] rfl (wX9_of_l2  hF fu hf)
set_option maxRecDepth 20000 in
theorem wX8_advance_j48 {G : Wc} {Γ : Cx} {o : Nat} {S : Ob} {l1 : Int32} {r : Ob} (hk0 : kd o = 8) {rec : Ob → Option (Ob)} (hrec : ∀ {S : Ob}, rec S = some r → V cX8_advance RX8 2 83 3 G Γ [(o, S)] 12 [(0, .ref (wA G o 0)), (1, .int l1)] []) (hx : V cX8_advance RX8 2 83 3 G Γ [(o, r)] 61 [(0, .ref (wA G o 0)), (1, .int l1)] []) (hf : pX8_advance_j48 rec S l1 = some r) : V cX8_advance RX8 2 83 3 G Γ [(o, S)] 48 [(0, .ref (wA G o 0)), (1, .int l1)] [] := by
  unfold pX8_advance_j48 at hf
  refine v_aload_n (pc := 48) 0 dX8_advance_48 rfl ?_
  refine v_dup (pc := 49) dX8_advance_49 rfl ?_
  refine gf_RX8_22 (pc := 50) 0 rfl hk0 dX8_advance_50 ?_
  refine v_iconst (pc := 53) (1 : Int32) dX8_advance_53 ci_1 ?_
  refine v_iadd (pc := 54) dX8_advance_54 ?_
  refine pf_RX8_22 (pc := 55) [_] 0 rfl hk0 rfl dX8_advance_55 ?_
  refine v_goto (pc := 58) 12 dX8_advance_58 (by decide) ?_
  exact V_sub [0, 1] rfl (hrec hf)
set_option maxRecDepth 20000 in
theorem wX8_advance_l12 {G : Wc} {Γ : Cx} {o : Nat} {l1 : Int32} (hk0 : kd o = 8) : ∀ (n : Nat) {S : Ob} {r : Ob}, pX8_advance_l12  l1 n S = some r → V cX8_advance RX8 2 83 3 G Γ [(o, r)] 61 [(0, .ref (wA G o 0)), (1, .int l1)] [] → V cX8_advance RX8 2 83 3 G Γ [(o, S)] 12 [(0, .ref (wA G o 0)), (1, .int l1)] [] := by
  intro n
  induction n with
  | zero => intro S r hf hx; unfold pX8_advance_l12 at hf; cases hf
  | succ n ih =>
    intro S r hf hx
    have hrec : ∀ {S : Ob}, pX8_advance_l12  l1 n S = some r → V cX8_advance RX8 2 83 3 G Γ [(o, S)] 12 [(0, .ref (wA G o 0)), (1, .int l1)] [] := fun h => ih h hx
    clear ih
    unfold pX8_advance_l12 at hf
    refine v_aload_n (pc := 12) 0 dX8_advance_12 rfl ?_
    refine gf_RX8_22 (pc := 13) 0 rfl hk0 dX8_advance_13 ?_
    refine v_iload_n (pc := 16) 1 dX8_advance_16 rfl ?_
    refine v_icmp_ge (pc := 17) 61 dX8_advance_17 (by decide) (fun c1 => ?_) (fun c1 => ?_)
    · replace hf := it_t c1 hf
      have hf2 := Option.some.inj hf; subst hf2
      exact V_sub [0, 1] rfl hx
    · replace hf := it_f c1 hf
      refine v_aload_n (pc := 20) 0 dX8_advance_20 rfl ?_
      refine gf_RX8_11 (pc := 21) 0 rfl hk0 dX8_advance_21 ?_
      refine v_aload_n (pc := 24) 0 dX8_advance_24 rfl ?_
      refine gf_RX8_22 (pc := 25) 0 rfl hk0 dX8_advance_25 ?_
      replace hf := gd_some hf; obtain ⟨g2, hf⟩ := hf
      refine al_X8_0 (pc := 28) _ 0 rfl hk0 rfl g2 dX8_advance_28 ?_
      refine v_bipush (pc := 29) (32 : Int32) dX8_advance_29 cb_32 ?_
      refine v_icmp_eq (pc := 31) 48 dX8_advance_31 (by decide) (fun c3 => ?_) (fun c3 => ?_)
      · replace hf := it_t c3 hf
        exact V_sub [0, 1] rfl (wX8_advance_j48 hk0 hrec hx hf)
      · replace hf := it_f c3 hf
        refine v_aload_n (pc := 34) 0 dX8_advance_34 rfl ?_
        refine gf_RX8_11 (pc := 35) 0 rfl hk0 dX8_advance_35 ?_
        refine v_aload_n (pc := 38) 0 dX8_advance_38 rfl ?_
        refine gf_RX8_22 (pc := 39) 0 rfl hk0 dX8_advance_39 ?_
        replace hf := gd_some hf; obtain ⟨g4, hf⟩ := hf
        refine al_X8_0 (pc := 42) _ 0 rfl hk0 rfl g4 dX8_advance_42 ?_
        refine v_bipush (pc := 43) (10 : Int32) dX8_advance_43 cb_10 ?_
        refine v_icmp_ne (pc := 45) 61 dX8_advance_45 (by decide) (fun c5 => ?_) (fun c5 => ?_)
        · replace hf := it_f c5 hf
          have hf2 := Option.some.inj hf; subst hf2
          exact V_sub [0, 1] rfl hx
        · replace hf := it_t c5 hf
          exact V_sub [0, 1] rfl (wX8_advance_j48 hk0 hrec hx hf)
set_option maxRecDepth 20000 in
theorem wX8_advance_j168 {G : Wc} {Γ : Cx} {o : Nat} {S : Ob} {s1 : Int32} {r : Ob} (hk0 : kd o = 8) (hF : Fnl G Γ (none) none (ov Γ.2.2.2 [(o, r)])) (hf : pX8_advance_j168 S s1 = some r) : V cX8_advance RX8 2 83 3 G Γ [(o, S)] 168 [(0, .ref (wA G o 0))] [.int s1, .ref (wA G o 0)] := by
  unfold pX8_advance_j168 at hf
  refine pf_RX8_47 (pc := 168) [_] 0 rfl hk0 rfl dX8_advance_168 ?_
  refine v_aload_n (pc := 171) 0 dX8_advance_171 rfl ?_
  refine v_dup (pc := 172) dX8_advance_172 rfl ?_
  refine gf_RX8_22 (pc := 173) 0 rfl hk0 dX8_advance_173 ?_
  refine v_iconst (pc := 176) (1 : Int32) dX8_advance_176 ci_1 ?_
  refine v_iadd (pc := 177) dX8_advance_177 ?_
  refine pf_RX8_22 (pc := 178) [_] 0 rfl hk0 rfl dX8_advance_178 ?_
  have hf2 := Option.some.inj hf; subst hf2
  exact V_vret (pc := 181) hF dX8_advance_181
set_option maxRecDepth 20000 in
theorem kX8_advance {G : Wc} {o : Nat} {S : Ob}  {r : Ob} (hk0 : kd o = 8) (hf : pX8_advance S   = some r) : Cn yX8_advance cX8_advance 3 (none) 2 83 G [.ref (wA G o 0)] [(o, S)] [(o, r)] none := by
  refine V_method [(0, .ref (wA G o 0))] (by decide) rfl (Nat.le_of_ble_eq_true rfl) rfl (fun Γ hF => ?_)
  unfold pX8_advance at hf
  refine v_aload_n (pc := 0) 0 dX8_advance_0 rfl ?_
  refine gf_RX8_15 (pc := 1) 0 rfl hk0 dX8_advance_1 ?_
  refine v_aload_n (pc := 4) 0 dX8_advance_4 rfl ?_
  refine gf_RX8_19 (pc := 5) 0 rfl hk0 dX8_advance_5 ?_
  refine v_mmin (pc := 8) wm_RX8_34 (Nat.le_of_ble_eq_true rfl) (Nat.le_of_ble_eq_true rfl) (Nat.le_of_ble_eq_true rfl) dX8_advance_8 ?_
  refine v_istore_n (pc := 11) [(1, _), (0, _)] dX8_advance_11 (Nat.le_of_ble_eq_true rfl) rfl ?_
  replace hf := bd_some hf; obtain ⟨r6, h7, hf⟩ := hf
  refine V_sub [1, 0] rfl (wX8_advance_l12 hk0 fu h7 ?_)
  refine v_aload_n (pc := 61) 0 dX8_advance_61 rfl ?_
  refine v_aconst_nullE (pc := 62) dX8_advance_62 ?_
  refine pf_RX8_40 (pc := 63) [_] 0 rfl hk0 rfl dX8_advance_63 ?_
  refine v_aload_n (pc := 66) 0 dX8_advance_66 rfl ?_
  refine gf_RX8_22 (pc := 67) 0 rfl hk0 dX8_advance_67 ?_
  refine v_iload_n (pc := 70) 1 dX8_advance_70 rfl ?_
  refine v_icmp_lt (pc := 71) 100 dX8_advance_71 (by decide) (fun c8 => ?_) (fun c8 => ?_)
  · replace hf := it_t c8 hf
    refine v_aload_n (pc := 100) 0 dX8_advance_100 rfl ?_
    refine v_aload_n (pc := 101) 0 dX8_advance_101 rfl ?_
    refine gf_RX8_22 (pc := 102) 0 rfl hk0 dX8_advance_102 ?_
    refine pf_RX8_44 (pc := 105) [_] 0 rfl hk0 rfl dX8_advance_105 ?_
    refine v_aload_n (pc := 108) 0 dX8_advance_108 rfl ?_
    refine gf_RX8_11 (pc := 109) 0 rfl hk0 dX8_advance_109 ?_
    refine v_aload_n (pc := 112) 0 dX8_advance_112 rfl ?_
    refine gf_RX8_22 (pc := 113) 0 rfl hk0 dX8_advance_113 ?_
    replace hf := gd_some hf; obtain ⟨g9, hf⟩ := hf
    refine al_X8_0 (pc := 116) _ 0 rfl hk0 rfl g9 dX8_advance_116 ?_
    refine v_istore_n (pc := 117) [(2, _), (0, _), (1, _)] dX8_advance_117 (Nat.le_of_ble_eq_true rfl) rfl ?_
    refine v_aload_n (pc := 118) 1 dX8_advance_118 rfl ?_
    replace hf := bd_some hf; obtain ⟨r10, h11, hf⟩ := hf
    refine V_call (pc := 119) (us1 := [_]) [0] 0 (kX8_scanRun (o := o) hk0 h11) rfl rfl rfl rfl rfl hk0 (Nat.le_of_ble_eq_true rfl) rfl rfl rfl wm_RX8_50 md_X8_scanRun (Nat.le_of_ble_eq_true rfl) (Nat.le_of_ble_eq_true rfl) rfl rfl (Nat.le_of_ble_eq_true rfl) dX8_advance_119 ?_
    refine v_aload_n (pc := 122) 1 dX8_advance_122 rfl ?_
    refine gf_RX8_47 (pc := 123) 0 rfl hk0 dX8_advance_123 ?_
    refine v_iconst (pc := 126) (2 : Int32) dX8_advance_126 ci_2 ?_
    refine v_icmp_ne (pc := 127) 144 dX8_advance_127 (by decide) (fun c12 => ?_) (fun c12 => ?_)
    · replace hf := it_f c12 hf
      refine v_aload_n (pc := 144) 1 dX8_advance_144 rfl ?_
      refine gf_RX8_22 (pc := 145) 0 rfl hk0 dX8_advance_145 ?_
      refine v_aload_n (pc := 148) 1 dX8_advance_148 rfl ?_
      refine gf_RX8_44 (pc := 149) 0 rfl hk0 dX8_advance_149 ?_
      refine v_icmp_ne (pc := 152) 181 dX8_advance_152 (by decide) (fun c13 => ?_) (fun c13 => ?_)
      · replace hf := it_f c13 hf
        have hf2 := Option.some.inj hf; subst hf2
        exact V_vret (pc := 181) hF dX8_advance_181
      · replace hf := it_t c13 hf
        refine v_aload_n (pc := 155) 1 dX8_advance_155 rfl ?_
        refine v_iload_n (pc := 156) 0 dX8_advance_156 rfl ?_
        replace hf := bd_some hf; obtain ⟨r14, h15, hf⟩ := hf
        refine V_callS (pc := 157) (us1 := [_]) [] (kX8_isSign  h15) rfl rfl rfl rfl wm_RX8_63 md_X8_isSign (Nat.le_of_ble_eq_true rfl) (Nat.le_of_ble_eq_true rfl) rfl rfl (Nat.le_of_ble_eq_true rfl) dX8_advance_157 ?_
        refine v_if_eq (pc := 160) 167 dX8_advance_160 (by decide) (fun c16 => ?_) (fun c16 => ?_)
        · replace hf := it_t c16 hf
          refine v_iconst (pc := 167) (1 : Int32) dX8_advance_167 ci_1 ?_
          exact V_sub [1] rfl (wX8_advance_j168 hk0 hF hf)
        · replace hf := it_f c16 hf
          refine v_iload_n (pc := 163) 0 dX8_advance_163 rfl ?_
          refine v_goto (pc := 164) 168 dX8_advance_164 (by decide) ?_
          exact V_sub [1] rfl (wX8_advance_j168 hk0 hF hf)
    · replace hf := it_t c12 hf
      refine v_aload_n (pc := 130) 1 dX8_advance_130 rfl ?_
      refine v_aload_n (pc := 131) 1 dX8_advance_131 rfl ?_
      refine gf_RX8_53 (pc := 132) 0 rfl hk0 dX8_advance_132 ?_
      replace hf := bd_some hf; obtain ⟨r17, h18, hf⟩ := hf
      refine V_callS (pc := 135) (us1 := [_]) [] (kX9_of  h18) rfl rfl rfl rfl wm_RX8_57 md_X9_of (Nat.le_of_ble_eq_true rfl) (Nat.le_of_ble_eq_true rfl) rfl rfl (Nat.le_of_ble_eq_true rfl) dX8_advance_135 ?_
      refine pf_RX8_40 (pc := 138) [_] 0 rfl hk0 rfl dX8_advance_138 ?_
      refine v_goto (pc := 141) 181 dX8_advance_141 (by decide) ?_
      have hf2 := Option.some.inj hf; subst hf2
      exact V_vret (pc := 181) hF dX8_advance_181
  · replace hf := it_f c8 hf
    refine v_aload_n (pc := 74) 0 dX8_advance_74 rfl ?_
    refine v_iload_n (pc := 75) 1 dX8_advance_75 rfl ?_
    refine pf_RX8_44 (pc := 76) [_] 0 rfl hk0 rfl dX8_advance_76 ?_
    refine v_aload_n (pc := 79) 0 dX8_advance_79 rfl ?_
    refine v_aload_n (pc := 80) 0 dX8_advance_80 rfl ?_
    refine gf_RX8_15 (pc := 81) 0 rfl hk0 dX8_advance_81 ?_
    refine v_aload_n (pc := 84) 0 dX8_advance_84 rfl ?_
    refine gf_RX8_19 (pc := 85) 0 rfl hk0 dX8_advance_85 ?_
    refine v_icmp_le (pc := 88) 95 dX8_advance_88 (by decide) (fun c19 => ?_) (fun c19 => ?_)
    · replace hf := it_t c19 hf
      refine v_iconst (pc := 95) (0 : Int32) dX8_advance_95 ci_0 ?_
      refine pf_RX8_47 (pc := 96) [_] 0 rfl hk0 rfl dX8_advance_96 ?_
      have hf2 := Option.some.inj hf; subst hf2
      exact V_vret (pc := 99) hF dX8_advance_99
    · replace hf := it_f c19 hf
      refine v_iconst (pc := 91) (1 : Int32) dX8_advance_91 ci_1 ?_
      refine v_goto (pc := 92) 96 dX8_advance_92 (by decide) ?_
      refine pf_RX8_47 (pc := 96) [_] 0 rfl hk0 rfl dX8_advance_96 ?_
      have hf2 := Option.some.inj hf; subst hf2
      exact V_vret (pc := 99) hF dX8_advance_99
set_option maxRecDepth 20000 in
theorem kX8_open {G : Wc} {o : Nat} {S : Ob} {a : Int32} {r : Ob} (hk0 : kd o = 8) (hf : pX8_open S  a = some r) : Cn yX8_open cX8_open 2 (none) 3 105 G [.ref (wA G o 0), .int a] [(o, S)] [(o, r)] none := by
  refine V_method [(0, .ref (wA G o 0)), (1, .int a)] (by decide) rfl (Nat.le_of_ble_eq_true rfl) rfl (fun Γ hF => ?_)
  unfold pX8_open at hf
  refine v_aload_n (pc := 0) 0 dX8_open_0 rfl ?_
  refine v_iload_n (pc := 1) 1 dX8_open_1 rfl ?_
  refine pf_RX8_19 (pc := 2) [_] 0 rfl hk0 rfl dX8_open_2 ?_
  refine v_aload_n (pc := 5) 0 dX8_open_5 rfl ?_
  refine v_iconst (pc := 6) (0 : Int32) dX8_open_6 ci_0 ?_
  refine pf_RX8_22 (pc := 7) [_] 0 rfl hk0 rfl dX8_open_7 ?_
  refine v_aload_n (pc := 10) 0 dX8_open_10 rfl ?_
  refine v_iconst (pc := 11) (0 : Int32) dX8_open_11 ci_0 ?_
  refine pf_RX8_25 (pc := 12) [_] 0 rfl hk0 rfl dX8_open_12 ?_
  refine v_aload_n (pc := 15) 0 dX8_open_15 rfl ?_
  refine v_iconst (pc := 16) (0 : Int32) dX8_open_16 ci_0 ?_
  refine pf_RX8_28 (pc := 17) [_] 0 rfl hk0 rfl dX8_open_17 ?_
  refine v_aload_n (pc := 20) 0 dX8_open_20 rfl ?_
  replace hf := bd_some hf; obtain ⟨r1, h2, hf⟩ := hf
  refine V_call (pc := 21) (us1 := [_]) [0] 0 (kX8_advance (o := o) hk0 h2) rfl rfl rfl rfl rfl hk0 (Nat.le_of_ble_eq_true rfl) rfl rfl rfl wm_RX8_31 md_X8_advance (Nat.le_of_ble_eq_true rfl) (Nat.le_of_ble_eq_true rfl) rfl rfl (Nat.le_of_ble_eq_true rfl) dX8_open_21 ?_
  have hf2 := Option.some.inj hf; subst hf2
  exact V_vret (pc := 24) hF dX8_open_24
set_option maxRecDepth 20000 in
theorem kX8_isName {G : Wc} {o : Nat} {S : Ob}  {r : Int32} (hk0 : kd o = 8) (hf : pX8_isName S   = some r) : Cn yX8_isName cX8_isName 1 (some .boolean) 1 60 G [.ref (wA G o 0)] [(o, S)] [(o, S)] (some (.int r)) := by
  refine V_method [(0, .ref (wA G o 0))] (by decide) rfl (Nat.le_of_ble_eq_true rfl) rfl (fun Γ hF => ?_)
  unfold pX8_isName at hf
  refine v_aload_n (pc := 0) 0 dX8_isName_0 rfl ?_
  refine gf_RX8_47 (pc := 1) 0 rfl hk0 dX8_isName_1 ?_
  refine v_iconst (pc := 4) (2 : Int32) dX8_isName_4 ci_2 ?_
  refine v_icmp_ne (pc := 5) 19 dX8_isName_5 (by decide) (fun c1 => ?_) (fun c1 => ?_)
  · replace hf := it_f c1 hf
    refine v_iconst (pc := 19) (0 : Int32) dX8_isName_19 ci_0 ?_
    have hf2 := Option.some.inj hf; subst hf2
    exact V_zret (pc := 20) hF rfl dX8_isName_20
  · replace hf := it_t c1 hf
    refine v_aload_n (pc := 8) 0 dX8_isName_8 rfl ?_
    refine gf_RX8_40 (pc := 9) 0 rfl hk0 dX8_isName_9 ?_
    refine v_ifnonnull (pc := 12) 19 dX8_isName_12 (by decide) (fun c2 => ?_) (fun c2 => ?_)
    · replace hf := it_f c2 hf
      refine v_iconst (pc := 19) (0 : Int32) dX8_isName_19 ci_0 ?_
      have hf2 := Option.some.inj hf; subst hf2
      exact V_zret (pc := 20) hF rfl dX8_isName_20
    · replace hf := it_t c2 hf
      refine v_iconst (pc := 15) (1 : Int32) dX8_isName_15 ci_1 ?_
      refine v_goto (pc := 16) 20 dX8_isName_16 (by decide) ?_
      have hf2 := Option.some.inj hf; subst hf2
      exact V_zret (pc := 20) hF rfl dX8_isName_20
set_option maxRecDepth 20000 in
theorem wX8_placeIn_l2 {G : Wc} {Γ : Cx} {o au : Nat} {aa ak aj an : Nat} {af : Nat → Int64} {S : Ob} {aS : Ob} {l2 : Int32} {r : Int32} (hk0 : kd o = 8) (hk1 : kd au = ak) (hq1 : ak < 12) (hc1 : (uc G au ak aS)[aj]? = some (aa, .inl (wT G 1, an, .inr (.inl af)))) (hF : Fnl G Γ (some .int) (some (.int r)) (ov Γ.2.2.2 [(o, S), (au, aS)])) : ∀ (n : Nat) {l3 : Int32}, pX8_placeIn_l2  S af an l2 n l3 = some r → V cX8_placeIn RX8 1 60 4 G Γ [(o, S), (au, aS)] 2 [(0, .ref (wA G o 0)), (1, .ref aa), (2, .int l2), (3, .int l3)] [] := by
  intro n
  induction n with
  | zero => intro l3 hf; unfold pX8_placeIn_l2 at hf; cases hf
  | succ n ih =>
    intro l3 hf
    have hrec : ∀ {l3 : Int32}, pX8_placeIn_l2  S af an l2 n l3 = some r → V cX8_placeIn RX8 1 60 4 G Γ [(o, S), (au, aS)] 2 [(0, .ref (wA G o 0)), (1, .ref aa), (2, .int l2), (3, .int l3)] [] := fun h => ih h
    clear ih
    unfold pX8_placeIn_l2 at hf
    refine v_iload_n (pc := 2) 3 dX8_placeIn_2 rfl ?_
    refine v_iload_n (pc := 3) 2 dX8_placeIn_3 rfl ?_
    refine v_icmp_ge (pc := 4) 32 dX8_placeIn_4 (by decide) (fun c1 => ?_) (fun c1 => ?_)
    · replace hf := it_t c1 hf
      refine v_iconst (pc := 32) (-1 : Int32) dX8_placeIn_32 ci_m1 ?_
      have hf2 := Option.some.inj hf; subst hf2
      exact V_iret (pc := 33) hF dX8_placeIn_33
    · replace hf := it_f c1 hf
      refine v_iload_n (pc := 7) 3 dX8_placeIn_7 rfl ?_
      refine v_aload_n (pc := 8) 1 dX8_placeIn_8 rfl ?_
      refine V_alen (pc := 9) _ 1 _ rfl hk1 hq1 hc1 rfl rfl dX8_placeIn_9 ?_
      refine v_icmp_ge (pc := 10) 32 dX8_placeIn_10 (by decide) (fun c2 => ?_) (fun c2 => ?_)
      · replace hf := it_t c2 hf
        refine v_iconst (pc := 32) (-1 : Int32) dX8_placeIn_32 ci_m1 ?_
        have hf2 := Option.some.inj hf; subst hf2
        exact V_iret (pc := 33) hF dX8_placeIn_33
      · replace hf := it_f c2 hf
        refine v_aload_n (pc := 13) 1 dX8_placeIn_13 rfl ?_
        refine v_iload_n (pc := 14) 3 dX8_placeIn_14 rfl ?_
        replace hf := gd_some hf; obtain ⟨g3, hf⟩ := hf
        refine V_lald (pc := 15) 1 _ rfl hk1 hq1 hc1 g3 dX8_placeIn_15 ?_
        refine v_aload_n (pc := 16) 0 dX8_placeIn_16 rfl ?_
        refine gf_RX8_53 (pc := 17) 0 rfl hk0 dX8_placeIn_17 ?_
        refine v_lcmp (pc := 20) dX8_placeIn_20 ?_
        refine v_if_ne (pc := 21) 26 dX8_placeIn_21 (by decide) (fun c4 => ?_) (fun c4 => ?_)
        · replace hf := it_f c4 hf
          refine v_iinc (pc := 26) 3 (l3 + (1 : Int32)) [(3, _), (0, _), (1, _), (2, _)] dX8_placeIn_26 rfl (congrArg (fun z => _ + z) ci_1) (Nat.le_of_ble_eq_true rfl) rfl ?_
          refine v_goto (pc := 29) 2 dX8_placeIn_29 (by decide) ?_
          exact V_sub [1, 2, 3, 0] rfl (hrec hf)
        · replace hf := it_t c4 hf
          refine v_iload_n (pc := 24) 3 dX8_placeIn_24 rfl ?_
          have hf2 := Option.some.inj hf; subst hf2
          exact V_iret (pc := 25) hF dX8_placeIn_25
set_option maxRecDepth 20000 in
theorem kX8_placeIn {G : Wc} {o au : Nat} {aa ak aj an : Nat} {af : Nat → Int64} {S : Ob} {aS : Ob} {b : Int32} {r : Int32} (hk0 : kd o = 8) (hk1 : kd au = ak) (hq1 : ak < 12) (hc1 : (uc G au ak aS)[aj]? = some (aa, .inl (wT G 1, an, .inr (.inl af)))) (hf : pX8_placeIn S af an b = some r) : Cn yX8_placeIn cX8_placeIn 4 (some .int) 1 60 G [.ref (wA G o 0), .ref aa, .int b] [(o, S), (au, aS)] [(o, S), (au, aS)] (some (.int r)) := by
  refine V_method [(0, .ref (wA G o 0)), (1, .ref aa), (2, .int b)] (by decide) rfl (Nat.le_of_ble_eq_true rfl) rfl (fun Γ hF => ?_)
  unfold pX8_placeIn at hf
  refine v_iconst (pc := 0) (0 : Int32) dX8_placeIn_0 ci_0 ?_
  refine v_istore_n (pc := 1) [(3, _), (0, _), (1, _), (2, _)] dX8_placeIn_1 (Nat.le_of_ble_eq_true rfl) rfl ?_
  exact V_sub [1, 2, 3, 0] rfl (wX8_placeIn_l2 hk0 hk1 hq1 hc1 hF fu hf)
set_option maxRecDepth 20000 in
theorem kX8_refuse {G : Wc} {o : Nat} {S : Ob} {a : Int32} {r : Int32 × Ob} (hk0 : kd o = 8) (hf : pX8_refuse S  a = some r) : Cn yX8_refuse cX8_refuse 2 (some .boolean) 1 60 G [.ref (wA G o 0), .int a] [(o, S)] [(o, r.2)] (some (.int r.1)) := by
  refine V_method [(0, .ref (wA G o 0)), (1, .int a)] (by decide) rfl (Nat.le_of_ble_eq_true rfl) rfl (fun Γ hF => ?_)
  unfold pX8_refuse at hf
  refine v_aload_n (pc := 0) 0 dX8_refuse_0 rfl ?_
  refine v_iload_n (pc := 1) 1 dX8_refuse_1 rfl ?_
  refine pf_RX8_25 (pc := 2) [_] 0 rfl hk0 rfl dX8_refuse_2 ?_
  refine v_aload_n (pc := 5) 0 dX8_refuse_5 rfl ?_
  refine v_aload_n (pc := 6) 0 dX8_refuse_6 rfl ?_
  refine gf_RX8_44 (pc := 7) 0 rfl hk0 dX8_refuse_7 ?_
  refine pf_RX8_28 (pc := 10) [_] 0 rfl hk0 rfl dX8_refuse_10 ?_
  refine v_iconst (pc := 13) (0 : Int32) dX8_refuse_13 ci_0 ?_
  have hf2 := Option.some.inj hf; subst hf2
  exact V_zret (pc := 14) hF rfl dX8_refuse_14
set_option maxRecDepth 20000 in
theorem kX8_findName {G : Wc} {o au : Nat} {aa ak aj an : Nat} {af : Nat → Int64} {S : Ob} {aS : Ob} {b : Int32} {r : Int32 × Ob} (hk0 : kd o = 8) (hk1 : kd au = ak) (hq1 : ak < 12) (hc1 : (uc G au ak aS)[aj]? = some (aa, .inl (wT G 1, an, .inr (.inl af)))) (hf : pX8_findName S af an b = some r) : Cn yX8_findName cX8_findName 4 (some .int) 2 83 G [.ref (wA G o 0), .ref aa, .int b] [(o, S), (au, aS)] [(o, r.2), (au, aS)] (some (.int r.1)) := by
  refine V_method [(0, .ref (wA G o 0)), (1, .ref aa), (2, .int b)] (by decide) rfl (Nat.le_of_ble_eq_true rfl) rfl (fun Γ hF => ?_)
  unfold pX8_findName at hf
  refine v_aload_n (pc := 0) 0 dX8_findName_0 rfl ?_
  replace hf := bd_some hf; obtain ⟨r1, h2, hf⟩ := hf
  refine V_call (pc := 1) (us1 := [_, _]) [0] 0 (kX8_isName (o := o) hk0 h2) rfl rfl rfl rfl rfl hk0 (Nat.le_of_ble_eq_true rfl) rfl rfl rfl wm_RX8_73 md_X8_isName (Nat.le_of_ble_eq_true rfl) (Nat.le_of_ble_eq_true rfl) rfl rfl (Nat.le_of_ble_eq_true rfl) dX8_findName_1 ?_
  refine v_if_ne (pc := 4) 15 dX8_findName_4 (by decide) (fun c3 => ?_) (fun c3 => ?_)
  · replace hf := it_f c3 hf
    refine v_aload_n (pc := 15) 0 dX8_findName_15 rfl ?_
    refine v_aload_n (pc := 16) 1 dX8_findName_16 rfl ?_
    refine v_iload_n (pc := 17) 2 dX8_findName_17 rfl ?_
    replace hf := bd_some hf; obtain ⟨r4, h5, hf⟩ := hf
    refine V_call (pc := 18) (us1 := [_, _]) [0, 1] 0 (kX8_placeIn (o := o) (au := au) hk0 hk1 hq1 hc1 h5) rfl rfl rfl rfl rfl hk0 (Nat.le_of_ble_eq_true rfl) rfl rfl rfl wm_RX8_77 md_X8_placeIn (Nat.le_of_ble_eq_true rfl) (Nat.le_of_ble_eq_true rfl) rfl rfl (Nat.le_of_ble_eq_true rfl) dX8_findName_18 ?_
    refine v_istore_n (pc := 21) [(3, _), (0, _), (1, _), (2, _)] dX8_findName_21 (Nat.le_of_ble_eq_true rfl) rfl ?_
    refine v_iload_n (pc := 22) 0 dX8_findName_22 rfl ?_
    refine v_iconst (pc := 23) (-1 : Int32) dX8_findName_23 ci_m1 ?_
    refine v_icmp_ne (pc := 24) 33 dX8_findName_24 (by decide) (fun c6 => ?_) (fun c6 => ?_)
    · replace hf := it_f c6 hf
      refine v_iload_n (pc := 33) 0 dX8_findName_33 rfl ?_
      have hf2 := Option.some.inj hf; subst hf2
      exact V_iret (pc := 34) hF dX8_findName_34
    · replace hf := it_t c6 hf
      refine v_aload_n (pc := 27) 1 dX8_findName_27 rfl ?_
      refine v_iconst (pc := 28) (3 : Int32) dX8_findName_28 ci_3 ?_
      replace hf := bd_some hf; obtain ⟨r7, h8, hf⟩ := hf
      refine V_call (pc := 29) (us1 := [_, _]) [0] 0 (kX8_refuse (o := o) hk0 h8) rfl rfl rfl rfl rfl hk0 (Nat.le_of_ble_eq_true rfl) rfl rfl rfl wm_RX8_70 md_X8_refuse (Nat.le_of_ble_eq_true rfl) (Nat.le_of_ble_eq_true rfl) rfl rfl (Nat.le_of_ble_eq_true rfl) dX8_findName_29 ?_
      refine v_pop (pc := 32) dX8_findName_32 rfl ?_
      refine v_iload_n (pc := 33) 0 dX8_findName_33 rfl ?_
      have hf2 := Option.some.inj hf; subst hf2
      exact V_iret (pc := 34) hF dX8_findName_34
  · replace hf := it_t c3 hf
    refine v_aload_n (pc := 7) 0 dX8_findName_7 rfl ?_
    refine v_iconst (pc := 8) (1 : Int32) dX8_findName_8 ci_1 ?_
    replace hf := bd_some hf; obtain ⟨r9, h10, hf⟩ := hf
    refine V_call (pc := 9) (us1 := [_, _]) [0] 0 (kX8_refuse (o := o) hk0 h10) rfl rfl rfl rfl rfl hk0 (Nat.le_of_ble_eq_true rfl) rfl rfl rfl wm_RX8_70 md_X8_refuse (Nat.le_of_ble_eq_true rfl) (Nat.le_of_ble_eq_true rfl) rfl rfl (Nat.le_of_ble_eq_true rfl) dX8_findName_9 ?_
    refine v_pop (pc := 12) dX8_findName_12 rfl ?_
    refine v_iconst (pc := 13) (-1 : Int32) dX8_findName_13 ci_m1 ?_
    have hf2 := Option.some.inj hf; subst hf2
    exact V_iret (pc := 14) hF dX8_findName_14
set_option maxRecDepth 20000 in
theorem kX8_takeName {G : Wc} {o au : Nat} {aa ak aj an : Nat} {af : Nat → Int64} {S : Ob} {aS : Ob} {b : Int32} {r : Int32 × Ob} (hk0 : kd o = 8) (hk1 : kd au = ak) (hq1 : ak < 12) (hc1 : (uc G au ak aS)[aj]? = some (aa, .inl (wT G 1, an, .inr (.inl af)))) (hf : pX8_takeName S af an b = some r) : Cn yX8_takeName cX8_takeName 4 (some .int) 3 106 G [.ref (wA G o 0), .ref aa, .int b] [(o, S), (au, aS)] [(o, r.2), (au, aS)] (some (.int r.1)) := by
  refine V_method [(0, .ref (wA G o 0)), (1, .ref aa), (2, .int b)] (by decide) rfl (Nat.le_of_ble_eq_true rfl) rfl (fun Γ hF => ?_)
  unfold pX8_takeName at hf
  refine v_aload_n (pc := 0) 0 dX8_takeName_0 rfl ?_
  refine v_aload_n (pc := 1) 1 dX8_takeName_1 rfl ?_
  refine v_iload_n (pc := 2) 2 dX8_takeName_2 rfl ?_
  replace hf := bd_some hf; obtain ⟨r1, h2, hf⟩ := hf
  refine V_call (pc := 3) (us1 := [_, _]) [0, 1] 0 (kX8_findName (o := o) (au := au) hk0 hk1 hq1 hc1 h2) rfl rfl rfl rfl rfl hk0 (Nat.le_of_ble_eq_true rfl) rfl rfl rfl wm_RX8_81 md_X8_findName (Nat.le_of_ble_eq_true rfl) (Nat.le_of_ble_eq_true rfl) rfl rfl (Nat.le_of_ble_eq_true rfl) dX8_takeName_3 ?_
  refine v_istore_n (pc := 6) [(3, _), (0, _), (1, _), (2, _)] dX8_takeName_6 (Nat.le_of_ble_eq_true rfl) rfl ?_
  refine v_iload_n (pc := 7) 0 dX8_takeName_7 rfl ?_
  refine v_iconst (pc := 8) (-1 : Int32) dX8_takeName_8 ci_m1 ?_
  refine v_icmp_eq (pc := 9) 16 dX8_takeName_9 (by decide) (fun c3 => ?_) (fun c3 => ?_)
  · replace hf := it_t c3 hf
    refine v_iload_n (pc := 16) 0 dX8_takeName_16 rfl ?_
    have hf2 := Option.some.inj hf; subst hf2
    exact V_iret (pc := 17) hF dX8_takeName_17
  · replace hf := it_f c3 hf
    refine v_aload_n (pc := 12) 1 dX8_takeName_12 rfl ?_
    replace hf := bd_some hf; obtain ⟨r4, h5, hf⟩ := hf
    refine V_call (pc := 13) (us1 := [_, _]) [0] 0 (kX8_advance (o := o) hk0 h5) rfl rfl rfl rfl rfl hk0 (Nat.le_of_ble_eq_true rfl) rfl rfl rfl wm_RX8_31 md_X8_advance (Nat.le_of_ble_eq_true rfl) (Nat.le_of_ble_eq_true rfl) rfl rfl (Nat.le_of_ble_eq_true rfl) dX8_takeName_13 ?_
    refine v_iload_n (pc := 16) 0 dX8_takeName_16 rfl ?_
    have hf2 := Option.some.inj hf; subst hf2
    exact V_iret (pc := 17) hF dX8_takeName_17
set_option maxRecDepth 20000 in
theorem kX0_addLine {G : Wc} {o : Nat} {S : Ob} {a : Option Nat} {b : Int32} {c : Int32} {r : Int32 × Ob} (hk0 : kd o = 0) (hf : pX0_addLine S  a b c = some r) : Cn yX0_addLine cX0_addLine 4 (some .boolean) 1 60 G [.ref (wA G o 0), va_re (wE G) a, .int b, .int c] [(o, S)] [(o, r.2)] (some (.int r.1)) := by
  refine V_method [(0, .ref (wA G o 0)), (1, va_re (wE G) a), (2, .int b), (3, .int c)] (by decide) rfl (by cases a <;> exact Nat.le_of_ble_eq_true rfl) (by cases a <;> rfl) (fun Γ hF => ?_)
  unfold pX0_addLine at hf
  refine v_iload_n (pc := 0) 3 dX0_addLine_0 rfl ?_
  refine v_iconst (pc := 1) (-1 : Int32) dX0_addLine_1 ci_m1 ?_
  refine v_icmp_eq (pc := 2) 14 dX0_addLine_2 (by decide) (fun c1 => ?_) (fun c1 => ?_)
  · replace hf := it_t c1 hf
    refine v_iconst (pc := 14) (0 : Int32) dX0_addLine_14 ci_0 ?_
    have hf2 := Option.some.inj hf; subst hf2
    exact V_zret (pc := 15) hF rfl dX0_addLine_15
  · replace hf := it_f c1 hf
    refine v_aload_n (pc := 5) 0 dX0_addLine_5 rfl ?_
    refine gf_RX0_24 (pc := 6) 0 rfl hk0 dX0_addLine_6 ?_
    refine v_bipush (pc := 9) (40 : Int32) dX0_addLine_9 cb_40 ?_
    refine v_icmp_lt (pc := 11) 16 dX0_addLine_11 (by decide) (fun c2 => ?_) (fun c2 => ?_)
    · replace hf := it_t c2 hf
      refine v_aload_n (pc := 16) 0 dX0_addLine_16 rfl ?_
      refine gf_RX0_13 (pc := 17) 0 rfl hk0 dX0_addLine_17 ?_
      refine v_aload_n (pc := 20) 0 dX0_addLine_20 rfl ?_
      refine gf_RX0_24 (pc := 21) 0 rfl hk0 dX0_addLine_21 ?_
      refine v_eload_n (pc := 24) 1 dX0_addLine_24 rfl ?_
      replace hf := gd_some hf; obtain ⟨g3, hf⟩ := hf
      replace hf := gd_some hf; obtain ⟨g4, hf⟩ := hf
      refine as_X0_0 (pc := 25) [_] _ 0 rfl hk0 rfl g4 g3 rfl dX0_addLine_25 ?_
      refine v_aload_n (pc := 26) 0 dX0_addLine_26 rfl ?_
      refine gf_RX0_17 (pc := 27) 0 rfl hk0 dX0_addLine_27 ?_
      refine v_aload_n (pc := 30) 0 dX0_addLine_30 rfl ?_
      refine gf_RX0_24 (pc := 31) 0 rfl hk0 dX0_addLine_31 ?_
      refine v_iload_n (pc := 34) 2 dX0_addLine_34 rfl ?_
      replace hf := gd_some hf; obtain ⟨g5, hf⟩ := hf
      refine as_X0_1 (pc := 35) [_] _ 0 rfl hk0 rfl g5 rfl dX0_addLine_35 ?_
      refine v_aload_n (pc := 36) 0 dX0_addLine_36 rfl ?_
      refine gf_RX0_21 (pc := 37) 0 rfl hk0 dX0_addLine_37 ?_
      refine v_aload_n (pc := 40) 0 dX0_addLine_40 rfl ?_
      refine gf_RX0_24 (pc := 41) 0 rfl hk0 dX0_addLine_41 ?_
      refine v_iload_n (pc := 44) 3 dX0_addLine_44 rfl ?_
      replace hf := gd_some hf; obtain ⟨g6, hf⟩ := hf
      refine as_X0_2 (pc := 45) [_] _ 0 rfl hk0 rfl g6 rfl dX0_addLine_45 ?_
      refine v_aload_n (pc := 46) 0 dX0_addLine_46 rfl ?_
      refine v_dup (pc := 47) dX0_addLine_47 rfl ?_
      refine gf_RX0_24 (pc := 48) 0 rfl hk0 dX0_addLine_48 ?_
      refine v_iconst (pc := 51) (1 : Int32) dX0_addLine_51 ci_1 ?_
      refine v_iadd (pc := 52) dX0_addLine_52 ?_
      refine pf_RX0_24 (pc := 53) [_] 0 rfl hk0 rfl dX0_addLine_53 ?_
      refine v_iconst (pc := 56) (1 : Int32) dX0_addLine_56 ci_1 ?_
      have hf2 := Option.some.inj hf; subst hf2
      exact V_zret (pc := 57) hF rfl dX0_addLine_57
    · replace hf := it_f c2 hf
      refine v_iconst (pc := 14) (0 : Int32) dX0_addLine_14 ci_0 ?_
      have hf2 := Option.some.inj hf; subst hf2
      exact V_zret (pc := 15) hF rfl dX0_addLine_15
set_option maxRecDepth 20000 in
theorem wX8_takeNumber_j31 {G : Wc} {Γ : Cx} {o : Nat} {S : Ob} {r : Int32 × Ob} (hk0 : kd o = 8) (hF : Fnl G Γ (some .int) (some (.int r.1)) (ov Γ.2.2.2 [(o, r.2)])) (hf : pX8_takeNumber_j31 S = some r) : V cX8_takeNumber RX8 3 105 4 G Γ [(o, S)] 31 [(0, .ref (wA G o 0))] [] := by
  unfold pX8_takeNumber_j31 at hf
  refine v_aload_n (pc := 31) 0 dX8_takeNumber_31 rfl ?_
  refine v_iconst (pc := 32) (2 : Int32) dX8_takeNumber_32 ci_2 ?_
  replace hf := bd_some hf; obtain ⟨r3, h4, hf⟩ := hf
  refine V_call (pc := 33) (us1 := [_]) [0] 0 (kX8_refuse (o := o) hk0 h4) rfl rfl rfl rfl rfl hk0 (Nat.le_of_ble_eq_true rfl) rfl rfl rfl wm_RX8_70 md_X8_refuse (Nat.le_of_ble_eq_true rfl) (Nat.le_of_ble_eq_true rfl) rfl rfl (Nat.le_of_ble_eq_true rfl) dX8_takeNumber_33 ?_
  refine v_pop (pc := 36) dX8_takeNumber_36 rfl ?_
  refine v_iconst (pc := 37) (-1 : Int32) dX8_takeNumber_37 ci_m1 ?_
  have hf2 := Option.some.inj hf; subst hf2
  exact V_iret (pc := 38) hF dX8_takeNumber_38
set_option maxRecDepth 20000 in
theorem kX8_takeNumber {G : Wc} {o : Nat} {S : Ob} {a : Int32} {b : Int32} {r : Int32 × Ob} (hk0 : kd o = 8) (hf : pX8_takeNumber S  a b = some r) : Cn yX8_takeNumber cX8_takeNumber 4 (some .int) 3 105 G [.ref (wA G o 0), .int a, .int b] [(o, S)] [(o, r.2)] (some (.int r.1)) := by
  refine V_method [(0, .ref (wA G o 0)), (1, .int a), (2, .int b)] (by decide) rfl (Nat.le_of_ble_eq_true rfl) rfl (fun Γ hF => ?_)
  unfold pX8_takeNumber at hf
  refine v_aload_n (pc := 0) 0 dX8_takeNumber_0 rfl ?_
  refine gf_RX8_47 (pc := 1) 0 rfl hk0 dX8_takeNumber_1 ?_
  refine v_iconst (pc := 4) (3 : Int32) dX8_takeNumber_4 ci_3 ?_
  refine v_icmp_eq (pc := 5) 16 dX8_takeNumber_5 (by decide) (fun c1 => ?_) (fun c1 => ?_)
  · replace hf := it_t c1 hf
    refine v_aload_n (pc := 16) 0 dX8_takeNumber_16 rfl ?_
    refine gf_RX8_67 (pc := 17) 0 rfl hk0 dX8_takeNumber_17 ?_
    refine v_istore_n (pc := 20) [(3, _), (0, _), (1, _), (2, _)] dX8_takeNumber_20 (Nat.le_of_ble_eq_true rfl) rfl ?_
    refine v_iload_n (pc := 21) 0 dX8_takeNumber_21 rfl ?_
    refine v_iload_n (pc := 22) 2 dX8_takeNumber_22 rfl ?_
    refine v_icmp_lt (pc := 23) 31 dX8_takeNumber_23 (by decide) (fun c2 => ?_) (fun c2 => ?_)
    · replace hf := it_t c2 hf
      exact V_sub [1] rfl (wX8_takeNumber_j31 hk0 hF hf)
    · replace hf := it_f c2 hf
      refine v_iload_n (pc := 26) 0 dX8_takeNumber_26 rfl ?_
      refine v_iload_n (pc := 27) 3 dX8_takeNumber_27 rfl ?_
      refine v_icmp_le (pc := 28) 39 dX8_takeNumber_28 (by decide) (fun c5 => ?_) (fun c5 => ?_)
      · replace hf := it_t c5 hf
        refine v_aload_n (pc := 39) 1 dX8_takeNumber_39 rfl ?_
        replace hf := bd_some hf; obtain ⟨r6, h7, hf⟩ := hf
        refine V_call (pc := 40) (us1 := [_]) [0] 0 (kX8_advance (o := o) hk0 h7) rfl rfl rfl rfl rfl hk0 (Nat.le_of_ble_eq_true rfl) rfl rfl rfl wm_RX8_31 md_X8_advance (Nat.le_of_ble_eq_true rfl) (Nat.le_of_ble_eq_true rfl) rfl rfl (Nat.le_of_ble_eq_true rfl) dX8_takeNumber_40 ?_
        refine v_iload_n (pc := 43) 0 dX8_takeNumber_43 rfl ?_
        have hf2 := Option.some.inj hf; subst hf2
        exact V_iret (pc := 44) hF dX8_takeNumber_44
      · replace hf := it_f c5 hf
        exact V_sub [1] rfl (wX8_takeNumber_j31 hk0 hF hf)
  · replace hf := it_f c1 hf
    refine v_aload_n (pc := 8) 0 dX8_takeNumber_8 rfl ?_
    refine v_iconst (pc := 9) (1 : Int32) dX8_takeNumber_9 ci_1 ?_
    replace hf := bd_some hf; obtain ⟨r8, h9, hf⟩ := hf
    refine V_call (pc := 10) (us1 := [_]) [0] 0 (kX8_refuse (o := o) hk0 h9) rfl rfl rfl rfl rfl hk0 (Nat.le_of_ble_eq_true rfl) rfl rfl rfl wm_RX8_70 md_X8_refuse (Nat.le_of_ble_eq_true rfl) (Nat.le_of_ble_eq_true rfl) rfl rfl (Nat.le_of_ble_eq_true rfl) dX8_takeNumber_10 ?_
    refine v_pop (pc := 13) dX8_takeNumber_13 rfl ?_
    refine v_iconst (pc := 14) (-1 : Int32) dX8_takeNumber_14 ci_m1 ?_
    have hf2 := Option.some.inj hf; subst hf2
    exact V_iret (pc := 15) hF dX8_takeNumber_15
set_option maxRecDepth 20000 in
theorem wX0_readOfPerson_j91 {G : Wc} {Γ : Cx} {o oa ob : Nat} {S : Ob} {Sa : Ob} {Sb : Ob} {s1 : Option Nat} {s2 : Int32} {s3 : Int32} {r : Int32 × Ob × Ob} (hk0 : kd o = 0) (hk1 : kd oa = 8) (hk2 : kd ob = 4) (hF : Fnl G Γ (some .boolean) (some (.int r.1)) (ov Γ.2.2.2 [(o, r.2.1), (oa, r.2.2), (ob, Sb)])) (hf : pX0_readOfPerson_j91 S Sa Sb s1 s2 s3 = some r) : V cX0_readOfPerson RX0 4 129 5 G Γ [(o, S), (oa, Sa), (ob, Sb)] 91 [] [.int s3, .int s2, va_re (wE G) s1, .ref (wA G o 0)] := by
  unfold pX0_readOfPerson_j91 at hf
  replace hf := bd_some hf; obtain ⟨r11, h12, hf⟩ := hf
  refine V_call (pc := 91) (us1 := [_, _, _]) [0] 0 (kX0_addLine (o := o) hk0 h12) rfl rfl rfl rfl rfl hk0 (Nat.le_of_ble_eq_true rfl) rfl rfl rfl wm_RX0_81 md_X0_addLine (Nat.le_of_ble_eq_true rfl) (Nat.le_of_ble_eq_true rfl) rfl rfl (Nat.le_of_ble_eq_true rfl) dX0_readOfPerson_91 ?_
  replace hf := gd_some hf; obtain ⟨g13, hf⟩ := hf
  have hf2 := Option.some.inj hf; subst hf2
  exact V_zret (pc := 94) hF g13 dX0_readOfPerson_94
set_option maxRecDepth 20000 in
theorem wX0_readOfPerson_j36 {G : Wc} {Γ : Cx} {o oa ob : Nat} {S : Ob} {Sa : Ob} {Sb : Ob} {l3 : Int32} {l4 : Option Nat} {r : Int32 × Ob × Ob} (hk0 : kd o = 0) (hk1 : kd oa = 8) (hk2 : kd ob = 4) (hF : Fnl G Γ (some .boolean) (some (.int r.1)) (ov Γ.2.2.2 [(o, r.2.1), (oa, r.2.2), (ob, Sb)])) (hf : pX0_readOfPerson_j36 S Sa Sb l3 l4 = some r) : V cX0_readOfPerson RX0 4 129 5 G Γ [(o, S), (oa, Sa), (ob, Sb)] 36 [(0, .ref (wA G o 0)), (1, .ref (wA G oa 0)), (2, .ref (wA G ob 0)), (3, .int l3), (4, va_re (wE G) l4)] [] := by
  unfold pX0_readOfPerson_j36 at hf
  refine v_aload_n (pc := 36) 1 dX0_readOfPerson_36 rfl ?_
  replace hf := bd_some hf; obtain ⟨r3, h4, hf⟩ := hf
  refine V_call (pc := 37) (us1 := [_, _, _]) [1] 1 (kX8_advance (o := oa) hk1 h4) rfl rfl rfl rfl rfl hk1 (Nat.le_of_ble_eq_true rfl) rfl rfl rfl wm_RX0_71 md_X8_advance (Nat.le_of_ble_eq_true rfl) (Nat.le_of_ble_eq_true rfl) rfl rfl (Nat.le_of_ble_eq_true rfl) dX0_readOfPerson_37 ?_
  refine v_eload (pc := 40) 4 dX0_readOfPerson_40 rfl ?_
  refine V_gete (pc := 42) 6 "STROKE" (by decide) rfl wf_RX0_104 dX0_readOfPerson_42 ?_
  replace hf := gd_some hf; obtain ⟨g5, hf⟩ := hf
  refine v_acmp_ne (pc := 45) g5 rfl 63 dX0_readOfPerson_45 (by decide) (fun c6 => ?_) (fun c6 => ?_)
  · replace hf := it_f c6 hf
    refine v_aload_n (pc := 63) 0 dX0_readOfPerson_63 rfl ?_
    refine v_eload (pc := 64) 4 dX0_readOfPerson_64 rfl ?_
    refine v_iload_n (pc := 66) 3 dX0_readOfPerson_66 rfl ?_
    refine v_eload (pc := 67) 4 dX0_readOfPerson_67 rfl ?_
    refine V_gete (pc := 69) 7 "CUT" (by decide) rfl wf_RX0_107 dX0_readOfPerson_69 ?_
    replace hf := gd_some hf; obtain ⟨g7, hf⟩ := hf
    refine v_acmp_ne (pc := 72) g7 rfl 79 dX0_readOfPerson_72 (by decide) (fun c8 => ?_) (fun c8 => ?_)
    · replace hf := it_f c8 hf
      refine v_aload_n (pc := 79) 1 dX0_readOfPerson_79 rfl ?_
      refine v_aload_n (pc := 80) 2 dX0_readOfPerson_80 rfl ?_
      refine gf_RX0_98 (pc := 81) 2 rfl hk2 dX0_readOfPerson_81 ?_
      refine v_aload_n (pc := 84) 2 dX0_readOfPerson_84 rfl ?_
      refine gf_RX0_101 (pc := 85) 2 rfl hk2 dX0_readOfPerson_85 ?_
      replace hf := bd_some hf; obtain ⟨r9, h10, hf⟩ := hf
      refine V_call (pc := 88) (us1 := [_, _, _]) [1, 2] 1 (kX8_takeName (o := oa) (au := ob) hk1 hk2 (Nat.le_of_ble_eq_true rfl) (rfl : _[1]? = _) h10) rfl rfl rfl rfl rfl hk1 (Nat.le_of_ble_eq_true rfl) rfl rfl rfl wm_RX0_95 md_X8_takeName (Nat.le_of_ble_eq_true rfl) (Nat.le_of_ble_eq_true rfl) rfl rfl (by cases l4 <;> exact Nat.le_of_ble_eq_true rfl) dX0_readOfPerson_88 ?_
      exact V_sub [] rfl (wX0_readOfPerson_j91 hk0 hk1 hk2 hF hf)
    · replace hf := it_t c8 hf
      refine v_iconst (pc := 75) (0 : Int32) dX0_readOfPerson_75 ci_0 ?_
      refine v_goto (pc := 76) 91 dX0_readOfPerson_76 (by decide) ?_
      exact V_sub [] rfl (wX0_readOfPerson_j91 hk0 hk1 hk2 hF hf)
  · replace hf := it_t c6 hf
    refine v_aload_n (pc := 48) 0 dX0_readOfPerson_48 rfl ?_
    refine v_eload (pc := 49) 4 dX0_readOfPerson_49 rfl ?_
    refine v_iload_n (pc := 51) 3 dX0_readOfPerson_51 rfl ?_
    refine v_aload_n (pc := 52) 1 dX0_readOfPerson_52 rfl ?_
    refine v_iconst (pc := 53) (1 : Int32) dX0_readOfPerson_53 ci_1 ?_
    refine v_bipush (pc := 54) (20 : Int32) dX0_readOfPerson_54 cb_20 ?_
    replace hf := bd_some hf; obtain ⟨r14, h15, hf⟩ := hf
    refine V_call (pc := 56) (us1 := [_, _, _]) [1] 1 (kX8_takeNumber (o := oa) hk1 h15) rfl rfl rfl rfl rfl hk1 (Nat.le_of_ble_eq_true rfl) rfl rfl rfl wm_RX0_77 md_X8_takeNumber (Nat.le_of_ble_eq_true rfl) (Nat.le_of_ble_eq_true rfl) rfl rfl (by cases l4 <;> exact Nat.le_of_ble_eq_true rfl) dX0_readOfPerson_56 ?_
    replace hf := bd_some hf; obtain ⟨r16, h17, hf⟩ := hf
    refine V_call (pc := 59) (us1 := [_, _, _]) [0] 0 (kX0_addLine (o := o) hk0 h17) rfl rfl rfl rfl rfl hk0 (Nat.le_of_ble_eq_true rfl) rfl rfl rfl wm_RX0_81 md_X0_addLine (Nat.le_of_ble_eq_true rfl) (Nat.le_of_ble_eq_true rfl) rfl rfl (Nat.le_of_ble_eq_true rfl) dX0_readOfPerson_59 ?_
    replace hf := gd_some hf; obtain ⟨g18, hf⟩ := hf
    have hf2 := Option.some.inj hf; subst hf2
    exact V_zret (pc := 62) hF g18 dX0_readOfPerson_62
set_option maxRecDepth 20000 in
theorem kX0_readOfPerson {G : Wc} {o oa ob : Nat} {S : Ob} {Sa : Ob} {Sb : Ob} {c : Int32} {r : Int32 × Ob × Ob} (hk0 : kd o = 0) (hk1 : kd oa = 8) (hk2 : kd ob = 4) (hf : pX0_readOfPerson S Sa Sb  c = some r) : Cn yX0_readOfPerson cX0_readOfPerson 5 (some .boolean) 4 129 G [.ref (wA G o 0), .ref (wA G oa 0), .ref (wA G ob 0), .int c] [(o, S), (oa, Sa), (ob, Sb)] [(o, r.2.1), (oa, r.2.2), (ob, Sb)] (some (.int r.1)) := by
  refine V_method [(0, .ref (wA G o 0)), (1, .ref (wA G oa 0)), (2, .ref (wA G ob 0)), (3, .int c)] (by decide) rfl (Nat.le_of_ble_eq_true rfl) rfl (fun Γ hF => ?_)
  unfold pX0_readOfPerson at hf
  refine v_aload_n (pc := 0) 1 dX0_readOfPerson_0 rfl ?_
  refine gf_RX0_45 (pc := 1) 1 rfl hk1 dX0_readOfPerson_1 ?_
  refine v_estore (pc := 4) [(4, _), (0, _), (1, _), (2, _), (3, _)] dX0_readOfPerson_4 (Nat.le_of_ble_eq_true rfl) rfl ?_
  refine v_eload (pc := 6) 0 dX0_readOfPerson_6 rfl ?_
  refine V_gete (pc := 8) 6 "STROKE" (by decide) rfl wf_RX0_104 dX0_readOfPerson_8 ?_
  replace hf := gd_some hf; obtain ⟨g1, hf⟩ := hf
  refine v_acmp_eq (pc := 11) g1 rfl 36 dX0_readOfPerson_11 (by decide) (fun c2 => ?_) (fun c2 => ?_)
  · replace hf := it_t c2 hf
    exact V_sub [1, 2, 3, 4, 0] rfl (wX0_readOfPerson_j36 hk0 hk1 hk2 hF hf)
  · replace hf := it_f c2 hf
    refine v_eload (pc := 14) 0 dX0_readOfPerson_14 rfl ?_
    refine V_gete (pc := 16) 7 "CUT" (by decide) rfl wf_RX0_107 dX0_readOfPerson_16 ?_
    replace hf := gd_some hf; obtain ⟨g19, hf⟩ := hf
    refine v_acmp_eq (pc := 19) g19 rfl 36 dX0_readOfPerson_19 (by decide) (fun c20 => ?_) (fun c20 => ?_)
    · replace hf := it_t c20 hf
      exact V_sub [1, 2, 3, 4, 0] rfl (wX0_readOfPerson_j36 hk0 hk1 hk2 hF hf)
    · replace hf := it_f c20 hf
      refine v_eload (pc := 22) 0 dX0_readOfPerson_22 rfl ?_
      refine V_gete (pc := 24) 8 "CATCHES" (by decide) rfl wf_RX0_110 dX0_readOfPerson_24 ?_
      replace hf := gd_some hf; obtain ⟨g21, hf⟩ := hf
      refine v_acmp_eq (pc := 27) g21 rfl 36 dX0_readOfPerson_27 (by decide) (fun c22 => ?_) (fun c22 => ?_)
      · replace hf := it_t c22 hf
        exact V_sub [1, 2, 3, 4, 0] rfl (wX0_readOfPerson_j36 hk0 hk1 hk2 hF hf)
      · replace hf := it_f c22 hf
        refine v_aload_n (pc := 30) 2 dX0_readOfPerson_30 rfl ?_
        refine v_iconst (pc := 31) (1 : Int32) dX0_readOfPerson_31 ci_1 ?_
        replace hf := bd_some hf; obtain ⟨r23, h24, hf⟩ := hf
        refine V_call (pc := 32) (us1 := [_, _, _]) [1] 1 (kX8_refuse (o := oa) hk1 h24) rfl rfl rfl rfl rfl hk1 (Nat.le_of_ble_eq_true rfl) rfl rfl rfl wm_RX0_68 md_X8_refuse (Nat.le_of_ble_eq_true rfl) (Nat.le_of_ble_eq_true rfl) rfl rfl (Nat.le_of_ble_eq_true rfl) dX0_readOfPerson_32 ?_
        replace hf := gd_some hf; obtain ⟨g25, hf⟩ := hf
        have hf2 := Option.some.inj hf; subst hf2
        exact V_zret (pc := 35) hF g25 dX0_readOfPerson_35
set_option maxRecDepth 20000 in
theorem kX0_readStuffing {G : Wc} {o oa ob : Nat} {S : Ob} {Sa : Ob} {Sb : Ob}  {r : Int32 × Ob × Ob} (hk0 : kd o = 0) (hk1 : kd oa = 8) (hk2 : kd ob = 4) (hf : pX0_readStuffing S Sa Sb   = some r) : Cn yX0_readStuffing cX0_readStuffing 4 (some .boolean) 4 129 G [.ref (wA G o 0), .ref (wA G oa 0), .ref (wA G ob 0)] [(o, S), (oa, Sa), (ob, Sb)] [(o, r.2.1), (oa, r.2.2), (ob, Sb)] (some (.int r.1)) := by
  refine V_method [(0, .ref (wA G o 0)), (1, .ref (wA G oa 0)), (2, .ref (wA G ob 0))] (by decide) rfl (Nat.le_of_ble_eq_true rfl) rfl (fun Γ hF => ?_)
  unfold pX0_readStuffing at hf
  refine v_aload_n (pc := 0) 1 dX0_readStuffing_0 rfl ?_
  refine v_aload_n (pc := 1) 2 dX0_readStuffing_1 rfl ?_
  refine gf_RX0_89 (pc := 2) 2 rfl hk2 dX0_readStuffing_2 ?_
  refine v_aload_n (pc := 5) 2 dX0_readStuffing_5 rfl ?_
  refine gf_RX0_92 (pc := 6) 2 rfl hk2 dX0_readStuffing_6 ?_
  replace hf := bd_some hf; obtain ⟨r1, h2, hf⟩ := hf
  refine V_call (pc := 9) (us1 := [_, _, _]) [1, 2] 1 (kX8_takeName (o := oa) (au := ob) hk1 hk2 (Nat.le_of_ble_eq_true rfl) (rfl : _[9]? = _) h2) rfl rfl rfl rfl rfl hk1 (Nat.le_of_ble_eq_true rfl) rfl rfl rfl wm_RX0_95 md_X8_takeName (Nat.le_of_ble_eq_true rfl) (Nat.le_of_ble_eq_true rfl) rfl rfl (Nat.le_of_ble_eq_true rfl) dX0_readStuffing_9 ?_
  refine v_istore_n (pc := 12) [(3, _), (0, _), (1, _), (2, _)] dX0_readStuffing_12 (Nat.le_of_ble_eq_true rfl) rfl ?_
  refine v_iload_n (pc := 13) 0 dX0_readStuffing_13 rfl ?_
  refine v_iconst (pc := 14) (-1 : Int32) dX0_readStuffing_14 ci_m1 ?_
  refine v_icmp_ne (pc := 15) 20 dX0_readStuffing_15 (by decide) (fun c3 => ?_) (fun c3 => ?_)
  · replace hf := it_f c3 hf
    refine v_aload_n (pc := 20) 1 dX0_readStuffing_20 rfl ?_
    refine V_gete (pc := 21) 9 "STUFF" (by decide) rfl wf_RX0_49 dX0_readStuffing_21 ?_
    refine v_iload_n (pc := 24) 0 dX0_readStuffing_24 rfl ?_
    refine v_aload_n (pc := 25) 2 dX0_readStuffing_25 rfl ?_
    refine v_aload_n (pc := 26) 3 dX0_readStuffing_26 rfl ?_
    refine gf_RX0_98 (pc := 27) 2 rfl hk2 dX0_readStuffing_27 ?_
    refine v_aload_n (pc := 30) 3 dX0_readStuffing_30 rfl ?_
    refine gf_RX0_101 (pc := 31) 2 rfl hk2 dX0_readStuffing_31 ?_
    replace hf := bd_some hf; obtain ⟨r4, h5, hf⟩ := hf
    refine V_call (pc := 34) (us1 := [_, _, _]) [1, 2] 1 (kX8_takeName (o := oa) (au := ob) hk1 hk2 (Nat.le_of_ble_eq_true rfl) (rfl : _[1]? = _) h5) rfl rfl rfl rfl rfl hk1 (Nat.le_of_ble_eq_true rfl) rfl rfl rfl wm_RX0_95 md_X8_takeName (Nat.le_of_ble_eq_true rfl) (Nat.le_of_ble_eq_true rfl) rfl rfl (by cases some 9 <;> exact Nat.le_of_ble_eq_true rfl) dX0_readStuffing_34 ?_
    replace hf := bd_some hf; obtain ⟨r6, h7, hf⟩ := hf
    refine V_call (pc := 37) (us1 := [_, _, _]) [0] 0 (kX0_addLine (o := o) hk0 h7) rfl rfl rfl rfl rfl hk0 (Nat.le_of_ble_eq_true rfl) rfl rfl rfl wm_RX0_81 md_X0_addLine (Nat.le_of_ble_eq_true rfl) (Nat.le_of_ble_eq_true rfl) rfl rfl (Nat.le_of_ble_eq_true rfl) dX0_readStuffing_37 ?_
    replace hf := gd_some hf; obtain ⟨g8, hf⟩ := hf
    have hf2 := Option.some.inj hf; subst hf2
    exact V_zret (pc := 40) hF g8 dX0_readStuffing_40
  · replace hf := it_t c3 hf
    refine v_iconst (pc := 18) (0 : Int32) dX0_readStuffing_18 ci_0 ?_
    have hf2 := Option.some.inj hf; subst hf2
    exact V_zret (pc := 19) hF rfl dX0_readStuffing_19
set_option maxRecDepth 20000 in
theorem wX0_readLine_j46 {G : Wc} {Γ : Cx} {o oa ob : Nat} {S : Ob} {Sa : Ob} {Sb : Ob} {s0 : Int32} {r : Int32 × Ob × Ob} (hk0 : kd o = 0) (hk1 : kd oa = 8) (hk2 : kd ob = 4) (hF : Fnl G Γ (some .boolean) (some (.int r.1)) (ov Γ.2.2.2 [(o, r.2.1), (oa, r.2.2), (ob, Sb)])) (hf : pX0_readLine_j46 S Sa Sb s0 = some r) : V cX0_readLine RX0 5 153 6 G Γ [(o, S), (oa, Sa), (ob, Sb)] 46 [(0, .ref (wA G o 0)), (1, .ref (wA G oa 0)), (2, .ref (wA G ob 0))] [.int s0] := by
  unfold pX0_readLine_j46 at hf
  refine v_istore (pc := 46) [(4, _), (0, _), (1, _), (2, _)] dX0_readLine_46 (Nat.le_of_ble_eq_true rfl) rfl ?_
  refine v_iload (pc := 48) 0 dX0_readLine_48 rfl ?_
  refine v_iconst (pc := 50) (-1 : Int32) dX0_readLine_50 ci_m1 ?_
  refine v_icmp_ne (pc := 51) 56 dX0_readLine_51 (by decide) (fun c4 => ?_) (fun c4 => ?_)
  · replace hf := it_f c4 hf
    refine v_aload_n (pc := 56) 1 dX0_readLine_56 rfl ?_
    refine gf_RX0_24 (pc := 57) 0 rfl hk0 dX0_readLine_57 ?_
    refine v_bipush (pc := 60) (40 : Int32) dX0_readLine_60 cb_40 ?_
    refine v_icmp_lt (pc := 62) 71 dX0_readLine_62 (by decide) (fun c5 => ?_) (fun c5 => ?_)
    · replace hf := it_t c5 hf
      refine v_aload_n (pc := 71) 2 dX0_readLine_71 rfl ?_
      refine gf_RX0_45 (pc := 72) 1 rfl hk1 dX0_readLine_72 ?_
      refine v_estore (pc := 75) [(5, _), (4, _), (0, _), (1, _), (2, _)] dX0_readLine_75 (Nat.le_of_ble_eq_true rfl) rfl ?_
      refine v_aload_n (pc := 77) 3 dX0_readLine_77 rfl ?_
      replace hf := bd_some hf; obtain ⟨r6, h7, hf⟩ := hf
      refine V_call (pc := 78) (us1 := [_, _, _]) [1] 1 (kX8_advance (o := oa) hk1 h7) rfl rfl rfl rfl rfl hk1 (Nat.le_of_ble_eq_true rfl) rfl rfl rfl wm_RX0_71 md_X8_advance (Nat.le_of_ble_eq_true rfl) (Nat.le_of_ble_eq_true rfl) rfl rfl (Nat.le_of_ble_eq_true rfl) dX0_readLine_78 ?_
      refine v_eload (pc := 81) 0 dX0_readLine_81 rfl ?_
      refine V_gete (pc := 83) 9 "STUFF" (by decide) rfl wf_RX0_49 dX0_readLine_83 ?_
      replace hf := gd_some hf; obtain ⟨g8, hf⟩ := hf
      refine v_acmp_ne (pc := 86) g8 rfl 96 dX0_readLine_86 (by decide) (fun c9 => ?_) (fun c9 => ?_)
      · replace hf := it_f c9 hf
        refine v_eload (pc := 96) 0 dX0_readLine_96 rfl ?_
        refine V_gete (pc := 98) 10 "DAY" (by decide) rfl wf_RX0_52 dX0_readLine_98 ?_
        replace hf := gd_some hf; obtain ⟨g10, hf⟩ := hf
        refine v_acmp_ne (pc := 101) g10 rfl 120 dX0_readLine_101 (by decide) (fun c11 => ?_) (fun c11 => ?_)
        · replace hf := it_f c11 hf
          refine v_aload_n (pc := 120) 2 dX0_readLine_120 rfl ?_
          refine v_aload_n (pc := 121) 3 dX0_readLine_121 rfl ?_
          refine v_aload_n (pc := 122) 4 dX0_readLine_122 rfl ?_
          refine v_iload (pc := 123) 1 dX0_readLine_123 rfl ?_
          replace hf := bd_some hf; obtain ⟨r12, h13, hf⟩ := hf
          refine V_call (pc := 125) (us1 := [_, _, _]) [0, 1, 2] 0 (kX0_readOfPerson (o := o) (oa := oa) (ob := ob) hk0 hk1 hk2 h13) rfl rfl rfl rfl rfl hk0 (Nat.le_of_ble_eq_true rfl) rfl rfl rfl wm_RX0_85 md_X0_readOfPerson (Nat.le_of_ble_eq_true rfl) (Nat.le_of_ble_eq_true rfl) rfl rfl (Nat.le_of_ble_eq_true rfl) dX0_readLine_125 ?_
          replace hf := gd_some hf; obtain ⟨g14, hf⟩ := hf
          have hf2 := Option.some.inj hf; subst hf2
          exact V_zret (pc := 128) hF g14 dX0_readLine_128
        · replace hf := it_t c11 hf
          refine v_aload_n (pc := 104) 2 dX0_readLine_104 rfl ?_
          refine V_gete (pc := 105) 10 "DAY" (by decide) rfl wf_RX0_52 dX0_readLine_105 ?_
          refine v_iconst (pc := 108) (0 : Int32) dX0_readLine_108 ci_0 ?_
          refine v_aload_n (pc := 109) 3 dX0_readLine_109 rfl ?_
          refine v_iconst (pc := 110) (1 : Int32) dX0_readLine_110 ci_1 ?_
          refine v_bipush (pc := 111) (60 : Int32) dX0_readLine_111 cb_60 ?_
          replace hf := bd_some hf; obtain ⟨r15, h16, hf⟩ := hf
          refine V_call (pc := 113) (us1 := [_, _, _]) [1] 1 (kX8_takeNumber (o := oa) hk1 h16) rfl rfl rfl rfl rfl hk1 (Nat.le_of_ble_eq_true rfl) rfl rfl rfl wm_RX0_77 md_X8_takeNumber (Nat.le_of_ble_eq_true rfl) (Nat.le_of_ble_eq_true rfl) rfl rfl (by cases some 10 <;> exact Nat.le_of_ble_eq_true rfl) dX0_readLine_113 ?_
          replace hf := bd_some hf; obtain ⟨r17, h18, hf⟩ := hf
          refine V_call (pc := 116) (us1 := [_, _, _]) [0] 0 (kX0_addLine (o := o) hk0 h18) rfl rfl rfl rfl rfl hk0 (Nat.le_of_ble_eq_true rfl) rfl rfl rfl wm_RX0_81 md_X0_addLine (Nat.le_of_ble_eq_true rfl) (Nat.le_of_ble_eq_true rfl) rfl rfl (Nat.le_of_ble_eq_true rfl) dX0_readLine_116 ?_
          replace hf := gd_some hf; obtain ⟨g19, hf⟩ := hf
          have hf2 := Option.some.inj hf; subst hf2
          exact V_zret (pc := 119) hF g19 dX0_readLine_119
      · replace hf := it_t c9 hf
        refine v_aload_n (pc := 89) 2 dX0_readLine_89 rfl ?_
        refine v_aload_n (pc := 90) 3 dX0_readLine_90 rfl ?_
        refine v_aload_n (pc := 91) 4 dX0_readLine_91 rfl ?_
        replace hf := bd_some hf; obtain ⟨r20, h21, hf⟩ := hf
        refine V_call (pc := 92) (us1 := [_, _, _]) [0, 1, 2] 0 (kX0_readStuffing (o := o) (oa := oa) (ob := ob) hk0 hk1 hk2 h21) rfl rfl rfl rfl rfl hk0 (Nat.le_of_ble_eq_true rfl) rfl rfl rfl wm_RX0_74 md_X0_readStuffing (Nat.le_of_ble_eq_true rfl) (Nat.le_of_ble_eq_true rfl) rfl rfl (Nat.le_of_ble_eq_true rfl) dX0_readLine_92 ?_
        replace hf := gd_some hf; obtain ⟨g22, hf⟩ := hf
        have hf2 := Option.some.inj hf; subst hf2
        exact V_zret (pc := 95) hF g22 dX0_readLine_95
    · replace hf := it_f c5 hf
      refine v_aload_n (pc := 65) 2 dX0_readLine_65 rfl ?_
      refine v_iconst (pc := 66) (4 : Int32) dX0_readLine_66 ci_4 ?_
      replace hf := bd_some hf; obtain ⟨r23, h24, hf⟩ := hf
      refine V_call (pc := 67) (us1 := [_, _, _]) [1] 1 (kX8_refuse (o := oa) hk1 h24) rfl rfl rfl rfl rfl hk1 (Nat.le_of_ble_eq_true rfl) rfl rfl rfl wm_RX0_68 md_X8_refuse (Nat.le_of_ble_eq_true rfl) (Nat.le_of_ble_eq_true rfl) rfl rfl (Nat.le_of_ble_eq_true rfl) dX0_readLine_67 ?_
      replace hf := gd_some hf; obtain ⟨g25, hf⟩ := hf
      have hf2 := Option.some.inj hf; subst hf2
      exact V_zret (pc := 70) hF g25 dX0_readLine_70
  · replace hf := it_t c4 hf
    refine v_iconst (pc := 54) (0 : Int32) dX0_readLine_54 ci_0 ?_
    have hf2 := Option.some.inj hf; subst hf2
    exact V_zret (pc := 55) hF rfl dX0_readLine_55
set_option maxRecDepth 20000 in
theorem wX0_readLine_j25 {G : Wc} {Γ : Cx} {o oa ob : Nat} {S : Ob} {Sa : Ob} {Sb : Ob} {s0 : Int32} {r : Int32 × Ob × Ob} (hk0 : kd o = 0) (hk1 : kd oa = 8) (hk2 : kd ob = 4) (hF : Fnl G Γ (some .boolean) (some (.int r.1)) (ov Γ.2.2.2 [(o, r.2.1), (oa, r.2.2), (ob, Sb)])) (hf : pX0_readLine_j25 S Sa Sb s0 = some r) : V cX0_readLine RX0 5 153 6 G Γ [(o, S), (oa, Sa), (ob, Sb)] 25 [(0, .ref (wA G o 0)), (1, .ref (wA G oa 0)), (2, .ref (wA G ob 0))] [.int s0] := by
  unfold pX0_readLine_j25 at hf
  refine v_istore_n (pc := 25) [(3, _), (0, _), (1, _), (2, _)] dX0_readLine_25 (Nat.le_of_ble_eq_true rfl) rfl ?_
  refine v_iload_n (pc := 26) 0 dX0_readLine_26 rfl ?_
  refine v_if_eq (pc := 27) 45 dX0_readLine_27 (by decide) (fun c3 => ?_) (fun c3 => ?_)
  · replace hf := it_t c3 hf
    refine v_iconst (pc := 45) (0 : Int32) dX0_readLine_45 ci_0 ?_
    exact V_sub [1, 2, 3] rfl (wX0_readLine_j46 hk0 hk1 hk2 hF hf)
  · replace hf := it_f c3 hf
    refine v_aload_n (pc := 30) 2 dX0_readLine_30 rfl ?_
    refine v_aload_n (pc := 31) 3 dX0_readLine_31 rfl ?_
    refine gf_RX0_55 (pc := 32) 2 rfl hk2 dX0_readLine_32 ?_
    refine v_aload_n (pc := 35) 3 dX0_readLine_35 rfl ?_
    refine gf_RX0_61 (pc := 36) 2 rfl hk2 dX0_readLine_36 ?_
    replace hf := bd_some hf; obtain ⟨r26, h27, hf⟩ := hf
    refine V_call (pc := 39) (us1 := [_, _, _]) [1, 2] 1 (kX8_findName (o := oa) (au := ob) hk1 hk2 (Nat.le_of_ble_eq_true rfl) (rfl : _[4]? = _) h27) rfl rfl rfl rfl rfl hk1 (Nat.le_of_ble_eq_true rfl) rfl rfl rfl wm_RX0_64 md_X8_findName (Nat.le_of_ble_eq_true rfl) (Nat.le_of_ble_eq_true rfl) rfl rfl (Nat.le_of_ble_eq_true rfl) dX0_readLine_39 ?_
    refine v_goto (pc := 42) 46 dX0_readLine_42 (by decide) ?_
    exact V_sub [1, 2, 3] rfl (wX0_readLine_j46 hk0 hk1 hk2 hF hf)
set_option maxRecDepth 20000 in
theorem wX0_readLine_j24 {G : Wc} {Γ : Cx} {o oa ob : Nat} {S : Ob} {Sa : Ob} {Sb : Ob} {r : Int32 × Ob × Ob} (hk0 : kd o = 0) (hk1 : kd oa = 8) (hk2 : kd ob = 4) (hF : Fnl G Γ (some .boolean) (some (.int r.1)) (ov Γ.2.2.2 [(o, r.2.1), (oa, r.2.2), (ob, Sb)])) (hf : pX0_readLine_j24 S Sa Sb = some r) : V cX0_readLine RX0 5 153 6 G Γ [(o, S), (oa, Sa), (ob, Sb)] 24 [(0, .ref (wA G o 0)), (1, .ref (wA G oa 0)), (2, .ref (wA G ob 0))] [] := by
  unfold pX0_readLine_j24 at hf
  refine v_iconst (pc := 24) (0 : Int32) dX0_readLine_24 ci_0 ?_
  exact V_sub [0, 1, 2] rfl (wX0_readLine_j25 hk0 hk1 hk2 hF hf)
set_option maxRecDepth 20000 in
theorem kX0_readLine {G : Wc} {o oa ob : Nat} {S : Ob} {Sa : Ob} {Sb : Ob}  {r : Int32 × Ob × Ob} (hk0 : kd o = 0) (hk1 : kd oa = 8) (hk2 : kd ob = 4) (hf : pX0_readLine S Sa Sb   = some r) : Cn yX0_readLine cX0_readLine 6 (some .boolean) 5 153 G [.ref (wA G o 0), .ref (wA G oa 0), .ref (wA G ob 0)] [(o, S), (oa, Sa), (ob, Sb)] [(o, r.2.1), (oa, r.2.2), (ob, Sb)] (some (.int r.1)) := by
  refine V_method [(0, .ref (wA G o 0)), (1, .ref (wA G oa 0)), (2, .ref (wA G ob 0))] (by decide) rfl (Nat.le_of_ble_eq_true rfl) rfl (fun Γ hF => ?_)
  unfold pX0_readLine at hf
  refine v_aload_n (pc := 0) 1 dX0_readLine_0 rfl ?_
  refine gf_RX0_45 (pc := 1) 1 rfl hk1 dX0_readLine_1 ?_
  refine V_gete (pc := 4) 9 "STUFF" (by decide) rfl wf_RX0_49 dX0_readLine_4 ?_
  replace hf := gd_some hf; obtain ⟨g1, hf⟩ := hf
  refine v_acmp_eq (pc := 7) g1 rfl 24 dX0_readLine_7 (by decide) (fun c2 => ?_) (fun c2 => ?_)
  · replace hf := it_t c2 hf
    exact V_sub [0, 1, 2] rfl (wX0_readLine_j24 hk0 hk1 hk2 hF hf)
  · replace hf := it_f c2 hf
    refine v_aload_n (pc := 10) 1 dX0_readLine_10 rfl ?_
    refine gf_RX0_45 (pc := 11) 1 rfl hk1 dX0_readLine_11 ?_
    refine V_gete (pc := 14) 10 "DAY" (by decide) rfl wf_RX0_52 dX0_readLine_14 ?_
    replace hf := gd_some hf; obtain ⟨g28, hf⟩ := hf
    refine v_acmp_eq (pc := 17) g28 rfl 24 dX0_readLine_17 (by decide) (fun c29 => ?_) (fun c29 => ?_)
    · replace hf := it_t c29 hf
      exact V_sub [0, 1, 2] rfl (wX0_readLine_j24 hk0 hk1 hk2 hF hf)
    · replace hf := it_f c29 hf
      refine v_iconst (pc := 20) (1 : Int32) dX0_readLine_20 ci_1 ?_
      refine v_goto (pc := 21) 25 dX0_readLine_21 (by decide) ?_
      exact V_sub [0, 1, 2] rfl (wX0_readLine_j25 hk0 hk1 hk2 hF hf)
set_option maxRecDepth 20000 in
theorem kX8_takeSign {G : Wc} {o : Nat} {S : Ob} {a : Int32} {r : Int32 × Ob} (hk0 : kd o = 8) (hf : pX8_takeSign S  a = some r) : Cn yX8_takeSign cX8_takeSign 2 (some .boolean) 3 105 G [.ref (wA G o 0), .int a] [(o, S)] [(o, r.2)] (some (.int r.1)) := by
  refine V_method [(0, .ref (wA G o 0)), (1, .int a)] (by decide) rfl (Nat.le_of_ble_eq_true rfl) rfl (fun Γ hF => ?_)
  unfold pX8_takeSign at hf
  refine v_aload_n (pc := 0) 0 dX8_takeSign_0 rfl ?_
  refine gf_RX8_47 (pc := 1) 0 rfl hk0 dX8_takeSign_1 ?_
  refine v_iload_n (pc := 4) 1 dX8_takeSign_4 rfl ?_
  refine v_icmp_eq (pc := 5) 14 dX8_takeSign_5 (by decide) (fun c1 => ?_) (fun c1 => ?_)
  · replace hf := it_t c1 hf
    refine v_aload_n (pc := 14) 0 dX8_takeSign_14 rfl ?_
    replace hf := bd_some hf; obtain ⟨r2, h3, hf⟩ := hf
    refine V_call (pc := 15) (us1 := [_]) [0] 0 (kX8_advance (o := o) hk0 h3) rfl rfl rfl rfl rfl hk0 (Nat.le_of_ble_eq_true rfl) rfl rfl rfl wm_RX8_31 md_X8_advance (Nat.le_of_ble_eq_true rfl) (Nat.le_of_ble_eq_true rfl) rfl rfl (Nat.le_of_ble_eq_true rfl) dX8_takeSign_15 ?_
    refine v_iconst (pc := 18) (1 : Int32) dX8_takeSign_18 ci_1 ?_
    have hf2 := Option.some.inj hf; subst hf2
    exact V_zret (pc := 19) hF rfl dX8_takeSign_19
  · replace hf := it_f c1 hf
    refine v_aload_n (pc := 8) 0 dX8_takeSign_8 rfl ?_
    refine v_iconst (pc := 9) (1 : Int32) dX8_takeSign_9 ci_1 ?_
    replace hf := bd_some hf; obtain ⟨r4, h5, hf⟩ := hf
    refine V_call (pc := 10) (us1 := [_]) [0] 0 (kX8_refuse (o := o) hk0 h5) rfl rfl rfl rfl rfl hk0 (Nat.le_of_ble_eq_true rfl) rfl rfl rfl wm_RX8_70 md_X8_refuse (Nat.le_of_ble_eq_true rfl) (Nat.le_of_ble_eq_true rfl) rfl rfl (Nat.le_of_ble_eq_true rfl) dX8_takeSign_10 ?_
    replace hf := gd_some hf; obtain ⟨g6, hf⟩ := hf
    have hf2 := Option.some.inj hf; subst hf2
    exact V_zret (pc := 13) hF g6 dX8_takeSign_13
set_option maxRecDepth 20000 in
theorem wX0_readFrom_l17 {G : Wc} {Γ : Cx} {o oa ob : Nat} {Sb : Ob} (hk0 : kd o = 0) (hk1 : kd oa = 8) (hk2 : kd ob = 4) : ∀ (n : Nat) {l3 : Int32} {l4 : Int32} {S : Ob} {Sa : Ob} {r : Ob × Ob}, pX0_readFrom_l17  Sb n l3 l4 S Sa = some r → V cX0_readFrom RX0 6 178 5 G Γ [(o, r.1), (oa, r.2), (ob, Sb)] 66 [] [] → V cX0_readFrom RX0 6 178 5 G Γ [(o, S), (oa, Sa), (ob, Sb)] 17 [(0, .ref (wA G o 0)), (1, .ref (wA G oa 0)), (2, .ref (wA G ob 0)), (3, .int l3), (4, .int l4)] [] := by
  intro n
  induction n with
  | zero => intro l3 l4 S Sa r hf hx; unfold pX0_readFrom_l17 at hf; cases hf
  | succ n ih =>
    intro l3 l4 S Sa r hf hx
    have hrec : ∀ {l3 : Int32} {l4 : Int32} {S : Ob} {Sa : Ob}, pX0_readFrom_l17  Sb n l3 l4 S Sa = some r → V cX0_readFrom RX0 6 178 5 G Γ [(o, S), (oa, Sa), (ob, Sb)] 17 [(0, .ref (wA G o 0)), (1, .ref (wA G oa 0)), (2, .ref (wA G ob 0)), (3, .int l3), (4, .int l4)] [] := fun h => ih h hx
    clear ih
    unfold pX0_readFrom_l17 at hf
    refine v_iload (pc := 17) 4 dX0_readFrom_17 rfl ?_
    refine v_sipush (pc := 19) (400 : Int32) dX0_readFrom_19 cs_400 ?_
    refine v_icmp_ge (pc := 22) 66 dX0_readFrom_22 (by decide) (fun c3 => ?_) (fun c3 => ?_)
    · replace hf := it_t c3 hf
      have hf2 := Option.some.inj hf; subst hf2
      exact V_sub [] rfl hx
    · replace hf := it_f c3 hf
      refine v_iload_n (pc := 25) 3 dX0_readFrom_25 rfl ?_
      refine v_if_eq (pc := 26) 66 dX0_readFrom_26 (by decide) (fun c4 => ?_) (fun c4 => ?_)
      · replace hf := it_t c4 hf
        have hf2 := Option.some.inj hf; subst hf2
        exact V_sub [] rfl hx
      · replace hf := it_f c4 hf
        refine v_aload_n (pc := 29) 1 dX0_readFrom_29 rfl ?_
        refine gf_RX0_34 (pc := 30) 1 rfl hk1 dX0_readFrom_30 ?_
        refine v_if_eq (pc := 33) 66 dX0_readFrom_33 (by decide) (fun c5 => ?_) (fun c5 => ?_)
        · replace hf := it_t c5 hf
          have hf2 := Option.some.inj hf; subst hf2
          exact V_sub [] rfl hx
        · replace hf := it_f c5 hf
          refine v_aload_n (pc := 36) 0 dX0_readFrom_36 rfl ?_
          refine v_aload_n (pc := 37) 1 dX0_readFrom_37 rfl ?_
          refine v_aload_n (pc := 38) 2 dX0_readFrom_38 rfl ?_
          replace hf := bd_some hf; obtain ⟨r6, h7, hf⟩ := hf
          refine V_call (pc := 39) (us1 := [_, _, _]) [0, 1, 2] 0 (kX0_readLine (o := o) (oa := oa) (ob := ob) hk0 hk1 hk2 h7) rfl rfl rfl rfl rfl hk0 (Nat.le_of_ble_eq_true rfl) rfl rfl rfl wm_RX0_37 md_X0_readLine (Nat.le_of_ble_eq_true rfl) (Nat.le_of_ble_eq_true rfl) rfl rfl (Nat.le_of_ble_eq_true rfl) dX0_readFrom_39 ?_
          refine v_if_eq (pc := 42) 58 dX0_readFrom_42 (by decide) (fun c8 => ?_) (fun c8 => ?_)
          · replace hf := it_t c8 hf
            refine v_iconst (pc := 58) (0 : Int32) dX0_readFrom_58 ci_0 ?_
            refine v_istore_n (pc := 59) [(3, _), (0, _), (1, _), (2, _), (4, _)] dX0_readFrom_59 (Nat.le_of_ble_eq_true rfl) rfl ?_
            refine v_iinc (pc := 60) 4 (l4 + (1 : Int32)) [(4, _), (3, _), (0, _), (1, _), (2, _)] dX0_readFrom_60 rfl (congrArg (fun z => _ + z) ci_1) (Nat.le_of_ble_eq_true rfl) rfl ?_
            refine v_goto (pc := 63) 17 dX0_readFrom_63 (by decide) ?_
            exact V_sub [2, 3, 4, 1, 0] rfl (hrec hf)
          · replace hf := it_f c8 hf
            refine v_aload_n (pc := 45) 1 dX0_readFrom_45 rfl ?_
            refine v_bipush (pc := 46) (59 : Int32) dX0_readFrom_46 cb_59 ?_
            replace hf := bd_some hf; obtain ⟨r9, h10, hf⟩ := hf
            refine V_call (pc := 48) (us1 := [_, _, _]) [1] 1 (kX8_takeSign (o := oa) hk1 h10) rfl rfl rfl rfl rfl hk1 (Nat.le_of_ble_eq_true rfl) rfl rfl rfl wm_RX0_41 md_X8_takeSign (Nat.le_of_ble_eq_true rfl) (Nat.le_of_ble_eq_true rfl) rfl rfl (Nat.le_of_ble_eq_true rfl) dX0_readFrom_48 ?_
            refine v_if_eq (pc := 51) 58 dX0_readFrom_51 (by decide) (fun c11 => ?_) (fun c11 => ?_)
            · replace hf := it_t c11 hf
              refine v_iconst (pc := 58) (0 : Int32) dX0_readFrom_58 ci_0 ?_
              refine v_istore_n (pc := 59) [(3, _), (0, _), (1, _), (2, _), (4, _)] dX0_readFrom_59 (Nat.le_of_ble_eq_true rfl) rfl ?_
              refine v_iinc (pc := 60) 4 (l4 + (1 : Int32)) [(4, _), (3, _), (0, _), (1, _), (2, _)] dX0_readFrom_60 rfl (congrArg (fun z => _ + z) ci_1) (Nat.le_of_ble_eq_true rfl) rfl ?_
              refine v_goto (pc := 63) 17 dX0_readFrom_63 (by decide) ?_
              exact V_sub [2, 3, 4, 1, 0] rfl (hrec hf)
            · replace hf := it_f c11 hf
              refine v_iconst (pc := 54) (1 : Int32) dX0_readFrom_54 ci_1 ?_
              refine v_goto (pc := 55) 59 dX0_readFrom_55 (by decide) ?_
              refine v_istore_n (pc := 59) [(3, _), (0, _), (1, _), (2, _), (4, _)] dX0_readFrom_59 (Nat.le_of_ble_eq_true rfl) rfl ?_
              refine v_iinc (pc := 60) 4 (l4 + (1 : Int32)) [(4, _), (3, _), (0, _), (1, _), (2, _)] dX0_readFrom_60 rfl (congrArg (fun z => _ + z) ci_1) (Nat.le_of_ble_eq_true rfl) rfl ?_
              refine v_goto (pc := 63) 17 dX0_readFrom_63 (by decide) ?_
              exact V_sub [2, 3, 4, 1, 0] rfl (hrec hf)
set_option maxRecDepth 20000 in
theorem kX0_readFrom {G : Wc} {o oa ob : Nat} {S : Ob} {Sa : Ob} {Sb : Ob}  {r : Ob × Ob} (hk0 : kd o = 0) (hk1 : kd oa = 8) (hk2 : kd ob = 4) (hf : pX0_readFrom S Sa Sb   = some r) : Cn yX0_readFrom cX0_readFrom 5 (none) 6 178 G [.ref (wA G o 0), .ref (wA G oa 0), .ref (wA G ob 0)] [(o, S), (oa, Sa), (ob, Sb)] [(o, r.1), (oa, r.2), (ob, Sb)] none := by
  refine V_method [(0, .ref (wA G o 0)), (1, .ref (wA G oa 0)), (2, .ref (wA G ob 0))] (by decide) rfl (Nat.le_of_ble_eq_true rfl) rfl (fun Γ hF => ?_)
  unfold pX0_readFrom at hf
  refine v_aload_n (pc := 0) 0 dX0_readFrom_0 rfl ?_
  refine v_iconst (pc := 1) (0 : Int32) dX0_readFrom_1 ci_0 ?_
  refine pf_RX0_24 (pc := 2) [_, _, _] 0 rfl hk0 rfl dX0_readFrom_2 ?_
  refine v_aload_n (pc := 5) 1 dX0_readFrom_5 rfl ?_
  refine v_sipush (pc := 6) (400 : Int32) dX0_readFrom_6 cs_400 ?_
  replace hf := bd_some hf; obtain ⟨r1, h2, hf⟩ := hf
  refine V_call (pc := 9) (us1 := [_, _, _]) [1] 1 (kX8_open (o := oa) hk1 h2) rfl rfl rfl rfl rfl hk1 (Nat.le_of_ble_eq_true rfl) rfl rfl rfl wm_RX0_28 md_X8_open (Nat.le_of_ble_eq_true rfl) (Nat.le_of_ble_eq_true rfl) rfl rfl (Nat.le_of_ble_eq_true rfl) dX0_readFrom_9 ?_
  refine v_iconst (pc := 12) (1 : Int32) dX0_readFrom_12 ci_1 ?_
  refine v_istore_n (pc := 13) [(3, _), (0, _), (1, _), (2, _)] dX0_readFrom_13 (Nat.le_of_ble_eq_true rfl) rfl ?_
  refine v_iconst (pc := 14) (0 : Int32) dX0_readFrom_14 ci_0 ?_
  refine v_istore (pc := 15) [(4, _), (3, _), (0, _), (1, _), (2, _)] dX0_readFrom_15 (Nat.le_of_ble_eq_true rfl) rfl ?_
  replace hf := bd_some hf; obtain ⟨r12, h13, hf⟩ := hf
  refine V_sub [2, 3, 4, 1, 0] rfl (wX0_readFrom_l17 hk0 hk1 hk2 fu h13 ?_)
  have hf2 := Option.some.inj hf; subst hf2
  exact V_vret (pc := 66) hF dX0_readFrom_66
set_option maxRecDepth 20000 in
theorem kX6_daysLeft {G : Wc} {o : Nat} {S : Ob}  {r : Int32} (hk0 : kd o = 6) (hf : pX6_daysLeft S   = some r) : Cn yX6_daysLeft cX6_daysLeft 1 (some .int) 1 60 G [.ref (wA G o 0)] [(o, S)] [(o, S)] (some (.int r)) := by
  refine V_method [(0, .ref (wA G o 0))] (by decide) rfl (Nat.le_of_ble_eq_true rfl) rfl (fun Γ hF => ?_)
  unfold pX6_daysLeft at hf
  refine v_sipush (pc := 0) (400 : Int32) dX6_daysLeft_0 cs_400 ?_
  refine v_aload_n (pc := 3) 0 dX6_daysLeft_3 rfl ?_
  refine gf_RX6_37 (pc := 4) 0 rfl hk0 dX6_daysLeft_4 ?_
  refine v_isub (pc := 7) dX6_daysLeft_7 ?_
  have hf2 := Option.some.inj hf; subst hf2
  exact V_iret (pc := 8) hF dX6_daysLeft_8
set_option maxRecDepth 20000 in
theorem kX4_catchesOn {G : Wc} {o : Nat} {S : Ob} {a : Int32} {b : Int32} {r : Int32} (hk0 : kd o = 4) (hf : pX4_catchesOn S  a b = some r) : Cn yX4_catchesOn cX4_catchesOn 4 (some .boolean) 1 60 G [.ref (wA G o 0), .int a, .int b] [(o, S)] [(o, S)] (some (.int r)) := by
  refine V_method [(0, .ref (wA G o 0)), (1, .int a), (2, .int b)] (by decide) rfl (Nat.le_of_ble_eq_true rfl) rfl (fun Γ hF => ?_)
  unfold pX4_catchesOn at hf
  refine v_aload_n (pc := 0) 0 dX4_catchesOn_0 rfl ?_
  refine gf_RX4_34 (pc := 1) 0 rfl hk0 dX4_catchesOn_1 ?_
  refine v_iload_n (pc := 4) 1 dX4_catchesOn_4 rfl ?_
  replace hf := gd_some hf; obtain ⟨g1, hf⟩ := hf
  refine al_X4_10 (pc := 5) _ 0 rfl hk0 rfl g1 dX4_catchesOn_5 ?_
  refine v_istore_n (pc := 6) [(3, _), (0, _), (1, _), (2, _)] dX4_catchesOn_6 (Nat.le_of_ble_eq_true rfl) rfl ?_
  refine v_iload_n (pc := 7) 0 dX4_catchesOn_7 rfl ?_
  refine v_if_le (pc := 8) 21 dX4_catchesOn_8 (by decide) (fun c2 => ?_) (fun c2 => ?_)
  · replace hf := it_t c2 hf
    refine v_iconst (pc := 21) (0 : Int32) dX4_catchesOn_21 ci_0 ?_
    have hf2 := Option.some.inj hf; subst hf2
    exact V_zret (pc := 22) hF rfl dX4_catchesOn_22
  · replace hf := it_f c2 hf
    refine v_iload_n (pc := 11) 3 dX4_catchesOn_11 rfl ?_
    refine v_iload_n (pc := 12) 0 dX4_catchesOn_12 rfl ?_
    replace hf := gd_some hf; obtain ⟨g3, hf⟩ := hf
    refine v_irem (pc := 13) dX4_catchesOn_13 (of_decide_eq_true g3) ?_
    refine v_if_ne (pc := 14) 21 dX4_catchesOn_14 (by decide) (fun c4 => ?_) (fun c4 => ?_)
    · replace hf := it_f c4 hf
      refine v_iconst (pc := 21) (0 : Int32) dX4_catchesOn_21 ci_0 ?_
      have hf2 := Option.some.inj hf; subst hf2
      exact V_zret (pc := 22) hF rfl dX4_catchesOn_22
    · replace hf := it_t c4 hf
      refine v_iconst (pc := 17) (1 : Int32) dX4_catchesOn_17 ci_1 ?_
      refine v_goto (pc := 18) 22 dX4_catchesOn_18 (by decide) ?_
      have hf2 := Option.some.inj hf; subst hf2
      exact V_zret (pc := 22) hF rfl dX4_catchesOn_22
set_option maxRecDepth 20000 in
theorem kX6_catchThing {G : Wc} {o : Nat} {S : Ob} {a : Int32} {b : Int32} {r : Ob} (hk0 : kd o = 6) (hf : pX6_catchThing S  a b = some r) : Cn yX6_catchThing cX6_catchThing 3 (none) 1 60 G [.ref (wA G o 0), .int a, .int b] [(o, S)] [(o, r)] none := by
  refine V_method [(0, .ref (wA G o 0)), (1, .int a), (2, .int b)] (by decide) rfl (Nat.le_of_ble_eq_true rfl) rfl (fun Γ hF => ?_)
  unfold pX6_catchThing at hf
  refine v_aload_n (pc := 0) 0 dX6_catchThing_0 rfl ?_
  refine gf_RX6_15 (pc := 1) 0 rfl hk0 dX6_catchThing_1 ?_
  refine v_iload_n (pc := 4) 1 dX6_catchThing_4 rfl ?_
  replace hf := gd_some hf; obtain ⟨g1, hf⟩ := hf
  refine al_X6_1 (pc := 5) _ 0 rfl hk0 rfl g1 dX6_catchThing_5 ?_
  refine v_bipush (pc := 6) (8 : Int32) dX6_catchThing_6 cb_8 ?_
  refine v_icmp_ge (pc := 8) 38 dX6_catchThing_8 (by decide) (fun c2 => ?_) (fun c2 => ?_)
  · replace hf := it_t c2 hf
    have hf2 := Option.some.inj hf; subst hf2
    exact V_vret (pc := 38) hF dX6_catchThing_38
  · replace hf := it_f c2 hf
    refine v_aload_n (pc := 11) 0 dX6_catchThing_11 rfl ?_
    refine gf_RX6_9 (pc := 12) 0 rfl hk0 dX6_catchThing_12 ?_
    refine v_iload_n (pc := 15) 1 dX6_catchThing_15 rfl ?_
    refine v_bipush (pc := 16) (8 : Int32) dX6_catchThing_16 cb_8 ?_
    refine v_imul (pc := 18) dX6_catchThing_18 ?_
    refine v_aload_n (pc := 19) 0 dX6_catchThing_19 rfl ?_
    refine gf_RX6_15 (pc := 20) 0 rfl hk0 dX6_catchThing_20 ?_
    refine v_iload_n (pc := 23) 1 dX6_catchThing_23 rfl ?_
    replace hf := gd_some hf; obtain ⟨g3, hf⟩ := hf
    refine al_X6_1 (pc := 24) _ 0 rfl hk0 rfl g3 dX6_catchThing_24 ?_
    refine v_iadd (pc := 25) dX6_catchThing_25 ?_
    refine v_iload_n (pc := 26) 2 dX6_catchThing_26 rfl ?_
    replace hf := gd_some hf; obtain ⟨g4, hf⟩ := hf
    refine as_X6_0 (pc := 27) [_] _ 0 rfl hk0 rfl g4 rfl dX6_catchThing_27 ?_
    refine v_aload_n (pc := 28) 0 dX6_catchThing_28 rfl ?_
    refine gf_RX6_15 (pc := 29) 0 rfl hk0 dX6_catchThing_29 ?_
    refine v_iload_n (pc := 32) 1 dX6_catchThing_32 rfl ?_
    refine v_dup2 (pc := 33) dX6_catchThing_33 rfl rfl ?_
    replace hf := gd_some hf; obtain ⟨g5, hf⟩ := hf
    refine al_X6_1 (pc := 34) _ 0 rfl hk0 rfl g5 dX6_catchThing_34 ?_
    refine v_iconst (pc := 35) (1 : Int32) dX6_catchThing_35 ci_1 ?_
    refine v_iadd (pc := 36) dX6_catchThing_36 ?_
    replace hf := gd_some hf; obtain ⟨g6, hf⟩ := hf
    refine as_X6_1 (pc := 37) [_] _ 0 rfl hk0 rfl g6 rfl dX6_catchThing_37 ?_
    have hf2 := Option.some.inj hf; subst hf2
    exact V_vret (pc := 38) hF dX6_catchThing_38
